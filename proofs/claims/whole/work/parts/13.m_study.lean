/-! ===== DutyCase$Study.canBeBase(I)Z ===== -/
set_option maxHeartbeats 4000000 in
set_option maxRecDepth 100000 in
theorem gX8_canBeBase_E {X : Ctx} {z : Int32 × Mem} (hX : Fx wC X cX8_canBeBase 2 RX8 (some .boolean) (rmo 0 0)) (hQ : Qx_i wC X z) (hcs : cx_cells X = 0 ∧ cx_slots X = 0) (N : Nat) (p0 : Int32) (μ : Mem) : G wC X z 0 [(0, .ref (cx_ad X 3)), (1, .int p0)] [] μ (fX8_canBeBase N p0 μ) := by
  unfold fX8_canBeBase
  refine G_aload_n hX 0 rfl rfl dX8_canBeBase_0 ?_
  refine gf_X8_39_C3 hX dX8_canBeBase_1 ?_
  refine G_iload_n hX 1 rfl rfl dX8_canBeBase_4 ?_
  refine G_aI hX atC18 dX8_canBeBase_5 (fun x1 => ?_)
  refine G_if_le hX 31 (by decide) dX8_canBeBase_6 ?_ ?_
  · refine G_iconst hX (0 : Int32) rfl dX8_canBeBase_31 ?_
    exact G_zret hX hQ rfl dX8_canBeBase_32
  · refine G_bipush hX (20 : Int32) rfl dX8_canBeBase_9 ?_
    refine G_aload_n hX 0 rfl rfl dX8_canBeBase_11 ?_
    refine gf_X8_39_C3 hX dX8_canBeBase_12 ?_
    refine G_iload_n hX 1 rfl rfl dX8_canBeBase_15 ?_
    refine G_aI hX atC18 dX8_canBeBase_16 (fun x2 => ?_)
    refine G_imul hX dX8_canBeBase_17 ?_
    refine G_aload_n hX 0 rfl rfl dX8_canBeBase_18 ?_
    refine gf_X8_39_C3 hX dX8_canBeBase_19 ?_
    refine G_iconst hX (1 : Int32) rfl dX8_canBeBase_22 ?_
    refine G_aI hX atC18 dX8_canBeBase_23 (fun x3 => ?_)
    refine G_icmp_lt hX 31 (by decide) dX8_canBeBase_24 ?_ ?_
    · refine G_iconst hX (0 : Int32) rfl dX8_canBeBase_31 ?_
      exact G_zret hX hQ rfl dX8_canBeBase_32
    · refine G_iconst hX (1 : Int32) rfl dX8_canBeBase_27 ?_
      refine G_goto hX 32 (by decide) dX8_canBeBase_28 ?_
      exact G_zret hX hQ rfl dX8_canBeBase_32
theorem cX8_canBeBase_ok (l : Launch) (N : Nat) (p0 : Int32) (μ : Mem) (z : Int32 × Mem) (h : fX8_canBeBase N p0 μ = some z) : Mi wC l yX8_canBeBase cX8_canBeBase 2 .boolean (rmo 0 0) (fun ad adK => [.ref (ad 3), .int p0]) μ z := Mi.of h (by decide +kernel) (fun _ _ => Nat.le_of_ble_eq_true rfl) (fun X hX hQ hl hcs => gX8_canBeBase_E hX hQ hcs N p0 μ)
/-! ===== DutyCase$Study.chooseBase()V ===== -/
set_option maxHeartbeats 4000000 in
set_option maxRecDepth 100000 in
theorem gX8_chooseBase_86 {X : Ctx} {z : Unit × Mem} (hX : Fx wC X cX8_chooseBase 3 RX8 none (rmo 1 21)) (hQ : Qx_v wC X z) (hcs : cx_cells X = 0 ∧ cx_slots X = 0) (N : Nat) (μ : Mem) : G wC X z 86 [(0, .ref (cx_ad X 3))] [] μ (fX8_chooseBase_86 N μ) := by
  unfold fX8_chooseBase_86
  refine G_aload_n hX 0 rfl rfl dX8_chooseBase_86 ?_
  refine G_aload_n hX 0 rfl rfl dX8_chooseBase_87 ?_
  refine G_iconst hX (0 : Int32) rfl dX8_chooseBase_88 ?_
  refine G_cVi hX 3 8 (fun ad adK => [.int (0 : Int32)]) [.ref (cx_ad X 3)] (fun z2 h2 => cX8_canBeBase_ok (cx_l X) N (0 : Int32) μ z2 h2) ok_X8_canBeBase lm_X8_80 atC3.1 atC3.2 rfl rfl (fun _ _ => rfl) (Nat.le_of_ble_eq_true rfl) ⟨rfl, rfl, by decide, by decide⟩ (cs0 hcs) dX8_chooseBase_89 (fun r13 μ => ?_)
  refine G_if_eq hX 99 (by decide) dX8_chooseBase_92 ?_ ?_
  · refine G_aload_n hX 0 rfl rfl dX8_chooseBase_99 ?_
    refine G_iconst hX (2 : Int32) rfl dX8_chooseBase_100 ?_
    refine G_cVi hX 3 8 (fun ad adK => [.int (2 : Int32)]) [.ref (cx_ad X 3)] (fun z2 h2 => cX8_canBeBase_ok (cx_l X) N (2 : Int32) μ z2 h2) ok_X8_canBeBase lm_X8_80 atC3.1 atC3.2 rfl rfl (fun _ _ => rfl) (Nat.le_of_ble_eq_true rfl) ⟨rfl, rfl, by decide, by decide⟩ (cs0 hcs) dX8_chooseBase_101 (fun r14 μ => ?_)
    refine G_if_eq hX 111 (by decide) dX8_chooseBase_104 ?_ ?_
    · refine G_iconst hX (-1 : Int32) rfl dX8_chooseBase_111 ?_
      refine pf_X8_25_C3 hX dX8_chooseBase_112 (fun μ => ?_)
      exact G_vret hX hQ dX8_chooseBase_115
    · refine G_iconst hX (2 : Int32) rfl dX8_chooseBase_107 ?_
      refine G_goto hX 112 (by decide) dX8_chooseBase_108 ?_
      refine pf_X8_25_C3 hX dX8_chooseBase_112 (fun μ => ?_)
      exact G_vret hX hQ dX8_chooseBase_115
  · refine G_iconst hX (0 : Int32) rfl dX8_chooseBase_95 ?_
    refine G_goto hX 112 (by decide) dX8_chooseBase_96 ?_
    refine pf_X8_25_C3 hX dX8_chooseBase_112 (fun μ => ?_)
    exact G_vret hX hQ dX8_chooseBase_115
set_option maxHeartbeats 4000000 in
set_option maxRecDepth 100000 in
theorem gX8_chooseBase_30 {X : Ctx} {z : Unit × Mem} (hX : Fx wC X cX8_chooseBase 3 RX8 none (rmo 1 21)) (hQ : Qx_v wC X z) (hcs : cx_cells X = 0 ∧ cx_slots X = 0) (N : Nat) : ∀ (n : Nat) (b0 : Nat) (v2 : Int32) (hb0 : kB b0) (μ : Mem), G wC X z 30 [(0, .ref (cx_ad X 3)), (1, .ref (cx_ad X (b0 + 12))), (2, .int v2)] [] μ (fX8_chooseBase_30 N n b0 v2 μ) := by
  intro n
  induction n with
  | zero =>
    intro b0 v2 hb0 μ
    exact G_none
  | succ n ih =>
    intro b0 v2 hb0 μ
    unfold fX8_chooseBase_30
    refine G_iload_n hX 2 rfl rfl dX8_chooseBase_30 ?_
    refine G_aload_n hX 1 rfl rfl dX8_chooseBase_31 ?_
    refine gf_X8_64_B12 hX hb0 dX8_chooseBase_32 ?_
    refine G_nmi (fun x3 => ?_)
    refine G_icmp_ge hX 86 (by decide) dX8_chooseBase_35 ?_ ?_
    · exact G_sub [0] rfl (gX8_chooseBase_86 hX hQ hcs N μ)
    · refine G_aload_n hX 1 rfl rfl dX8_chooseBase_38 ?_
      refine gf_X8_69_B12 hX hb0 dX8_chooseBase_39 ?_
      refine G_iload_n hX 2 rfl rfl dX8_chooseBase_42 ?_
      refine G_aZ hX (atB_22 hb0) dX8_chooseBase_43 (fun x4 => ?_)
      refine G_if_eq hX 80 (by decide) dX8_chooseBase_44 ?_ ?_
      · refine G_iincN hX 2 (fun x5 => [(2, .int x5), (0, .ref (cx_ad X 3)), (1, .ref (cx_ad X (b0 + 12)))]) rfl rfl (by decide) (fun _ => rfl) dX8_chooseBase_80 (fun x5 => ?_)
        refine G_goto hX 30 (by decide) dX8_chooseBase_83 ?_
        exact G_sub [1, 2, 0] rfl (ih b0 x5 hb0 μ)
      · refine G_aload_n hX 1 rfl rfl dX8_chooseBase_47 ?_
        refine gf_X8_72_B12 hX hb0 dX8_chooseBase_48 ?_
        refine G_iload_n hX 2 rfl rfl dX8_chooseBase_51 ?_
        refine G_aI hX (atB_14 hb0) dX8_chooseBase_52 (fun x6 => ?_)
        refine G_aload_n hX 0 rfl rfl dX8_chooseBase_53 ?_
        refine gf_X8_46_C3 hX dX8_chooseBase_54 ?_
        refine G_nmi (fun x7 => ?_)
        refine G_icmp_ne hX 80 (by decide) dX8_chooseBase_57 ?_ ?_
        · refine G_iincN hX 2 (fun x8 => [(2, .int x8), (0, .ref (cx_ad X 3)), (1, .ref (cx_ad X (b0 + 12)))]) rfl rfl (by decide) (fun _ => rfl) dX8_chooseBase_80 (fun x8 => ?_)
          refine G_goto hX 30 (by decide) dX8_chooseBase_83 ?_
          exact G_sub [1, 2, 0] rfl (ih b0 x8 hb0 μ)
        · refine G_aload_n hX 0 rfl rfl dX8_chooseBase_60 ?_
          refine gf_X8_39_C3 hX dX8_chooseBase_61 ?_
          refine G_aload_n hX 1 rfl rfl dX8_chooseBase_64 ?_
          refine gf_X8_74_B12 hX hb0 dX8_chooseBase_65 ?_
          refine G_iload_n hX 2 rfl rfl dX8_chooseBase_68 ?_
          refine G_aI hX (atB_13 hb0) dX8_chooseBase_69 (fun x9 => ?_)
          refine G_dup2 hX rfl rfl dX8_chooseBase_70 ?_
          refine G_aI hX atC18 dX8_chooseBase_71 (fun x10 => ?_)
          refine G_aload_n hX 1 rfl rfl dX8_chooseBase_72 ?_
          refine gf_X8_77_B12 hX hb0 dX8_chooseBase_73 ?_
          refine G_iload_n hX 2 rfl rfl dX8_chooseBase_76 ?_
          refine G_aI hX (atB_18 hb0) dX8_chooseBase_77 (fun x11 => ?_)
          refine G_iadd hX dX8_chooseBase_78 ?_
          refine G_sI hX atC18 dX8_chooseBase_79 (fun μ => ?_)
          refine G_iincN hX 2 (fun x12 => [(2, .int x12), (0, .ref (cx_ad X 3)), (1, .ref (cx_ad X (b0 + 12)))]) rfl rfl (by decide) (fun _ => rfl) dX8_chooseBase_80 (fun x12 => ?_)
          refine G_goto hX 30 (by decide) dX8_chooseBase_83 ?_
          exact G_sub [1, 2, 0] rfl (ih b0 x12 hb0 μ)
set_option maxHeartbeats 4000000 in
set_option maxRecDepth 100000 in
theorem gX8_chooseBase_20 {X : Ctx} {z : Unit × Mem} (hX : Fx wC X cX8_chooseBase 3 RX8 none (rmo 1 21)) (hQ : Qx_v wC X z) (hcs : cx_cells X = 0 ∧ cx_slots X = 0) (N : Nat) (μ : Mem) : G wC X z 20 [(0, .ref (cx_ad X 3))] [] μ (fX8_chooseBase_20 N μ) := by
  unfold fX8_chooseBase_20
  refine G_aload_n hX 0 rfl rfl dX8_chooseBase_20 ?_
  refine gf_X8_42_C3 hX dX8_chooseBase_21 (fun b_2 hb_2 => ?_)
  refine gf_X8_58_B0 hX hb_2 dX8_chooseBase_24 ?_
  refine G_astore_n hX [(1, .ref (cx_ad X (b_2 + 12))), (0, .ref (cx_ad X 3))] rfl (by decide) rfl dX8_chooseBase_27 ?_
  refine G_iconst hX (0 : Int32) rfl dX8_chooseBase_28 ?_
  refine G_istore_n hX [(2, .int (0 : Int32)), (1, .ref (cx_ad X (b_2 + 12))), (0, .ref (cx_ad X 3))] rfl (by decide) rfl dX8_chooseBase_29 ?_
  exact G_sub [2, 1, 0] rfl (gX8_chooseBase_30 hX hQ hcs N N b_2 (0 : Int32) hb_2 μ)
set_option maxHeartbeats 4000000 in
set_option maxRecDepth 100000 in
theorem gX8_chooseBase_2 {X : Ctx} {z : Unit × Mem} (hX : Fx wC X cX8_chooseBase 3 RX8 none (rmo 1 21)) (hQ : Qx_v wC X z) (hcs : cx_cells X = 0 ∧ cx_slots X = 0) (N : Nat) : ∀ (n : Nat) (v1 : Int32) (μ : Mem), G wC X z 2 [(0, .ref (cx_ad X 3)), (1, .int v1)] [] μ (fX8_chooseBase_2 N n v1 μ) := by
  intro n
  induction n with
  | zero =>
    intro v1 μ
    exact G_none
  | succ n ih =>
    intro v1 μ
    unfold fX8_chooseBase_2
    refine G_iload_n hX 1 rfl rfl dX8_chooseBase_2 ?_
    refine G_iconst hX (3 : Int32) rfl dX8_chooseBase_3 ?_
    refine G_icmp_ge hX 20 (by decide) dX8_chooseBase_4 ?_ ?_
    · exact G_sub [0] rfl (gX8_chooseBase_20 hX hQ hcs N μ)
    · refine G_aload_n hX 0 rfl rfl dX8_chooseBase_7 ?_
      refine gf_X8_39_C3 hX dX8_chooseBase_8 ?_
      refine G_iload_n hX 1 rfl rfl dX8_chooseBase_11 ?_
      refine G_iconst hX (0 : Int32) rfl dX8_chooseBase_12 ?_
      refine G_sI hX atC18 dX8_chooseBase_13 (fun μ => ?_)
      refine G_iincN hX 1 (fun x1 => [(1, .int x1), (0, .ref (cx_ad X 3))]) rfl rfl (by decide) (fun _ => rfl) dX8_chooseBase_14 (fun x1 => ?_)
      refine G_goto hX 2 (by decide) dX8_chooseBase_17 ?_
      exact G_sub [1, 0] rfl (ih x1 μ)
set_option maxHeartbeats 4000000 in
set_option maxRecDepth 100000 in
theorem gX8_chooseBase_E {X : Ctx} {z : Unit × Mem} (hX : Fx wC X cX8_chooseBase 3 RX8 none (rmo 1 21)) (hQ : Qx_v wC X z) (hcs : cx_cells X = 0 ∧ cx_slots X = 0) (N : Nat) (μ : Mem) : G wC X z 0 [(0, .ref (cx_ad X 3))] [] μ (fX8_chooseBase N μ) := by
  unfold fX8_chooseBase
  refine G_iconst hX (0 : Int32) rfl dX8_chooseBase_0 ?_
  refine G_istore_n hX [(1, .int (0 : Int32)), (0, .ref (cx_ad X 3))] rfl (by decide) rfl dX8_chooseBase_1 ?_
  exact G_sub [1, 0] rfl (gX8_chooseBase_2 hX hQ hcs N N (0 : Int32) μ)
theorem cX8_chooseBase_ok (l : Launch) (N : Nat) (μ : Mem) (z : Unit × Mem) (h : fX8_chooseBase N μ = some z) : Mv wC l yX8_chooseBase cX8_chooseBase 3 (rmo 1 21) (fun ad adK => [.ref (ad 3)]) μ z := Mv.of h (by decide +kernel) (fun _ _ => Nat.le_of_ble_eq_true rfl) (fun X hX hQ hl hcs => gX8_chooseBase_E hX hQ hcs N μ)
/-! ===== DutyCase$Study.countBelow()V ===== -/
set_option maxHeartbeats 4000000 in
set_option maxRecDepth 100000 in
theorem gX8_countBelow_155 {X : Ctx} {z : Unit × Mem} (hX : Fx wC X cX8_countBelow 4 RX8 none (rmo 1 23)) (hQ : Qx_v wC X z) (hcs : cx_cells X = 0 ∧ cx_slots X = 0) (N : Nat) (k38 : Nat → Int32 → Mem → Option (Unit × Mem)) (hk38 : ∀ (b0 : Nat) (v2 : Int32) (_ : kB b0) (μ : Mem), G wC X z 38 [(0, .ref (cx_ad X 3)), (1, .ref (cx_ad X (b0 + 12))), (2, .int v2)] [] μ (k38 b0 v2 μ)) (b0 : Nat) (v2 : Int32) (v3 : Int32) (s0 : Int32) (s1 : Int32) (s2 : Int32) (hb0 : kB b0) (μ : Mem) : G wC X z 155 [(0, .ref (cx_ad X 3)), (1, .ref (cx_ad X (b0 + 12))), (2, .int v2), (3, .int v3)] [.int s0, .int s1, .int s2, .ref (cx_ad X 11)] μ (fX8_countBelow_155 N k38 b0 v2 v3 s0 s1 s2 μ) := by
  unfold fX8_countBelow_155
  refine G_iadd hX dX8_countBelow_155 ?_
  refine G_sI hX atC11 dX8_countBelow_156 (fun μ => ?_)
  refine G_aload_n hX 0 rfl rfl dX8_countBelow_157 ?_
  refine gf_X8_15_C3 hX dX8_countBelow_158 ?_
  refine G_iload_n hX 3 rfl rfl dX8_countBelow_161 ?_
  refine G_dup2 hX rfl rfl dX8_countBelow_162 ?_
  refine G_aI hX atC12 dX8_countBelow_163 (fun x17 => ?_)
  refine G_aload_n hX 0 rfl rfl dX8_countBelow_164 ?_
  refine gf_X8_18_C3 hX dX8_countBelow_165 ?_
  refine G_iload_n hX 2 rfl rfl dX8_countBelow_168 ?_
  refine G_aZ hX atC13 dX8_countBelow_169 (fun x18 => ?_)
  refine G_if_eq hX 182 (by decide) dX8_countBelow_170 ?_ ?_
  · refine G_iconst hX (0 : Int32) rfl dX8_countBelow_182 ?_
    refine G_iadd hX dX8_countBelow_183 ?_
    refine G_sI hX atC12 dX8_countBelow_184 (fun μ => ?_)
    refine G_iincN hX 2 (fun x19 => [(2, .int x19), (0, .ref (cx_ad X 3)), (1, .ref (cx_ad X (b0 + 12))), (3, .int v3)]) rfl rfl (by decide) (fun _ => rfl) dX8_countBelow_185 (fun x19 => ?_)
    refine G_goto hX 38 (by decide) dX8_countBelow_188 ?_
    exact G_sub [1, 2, 0] rfl (hk38 b0 x19 hb0 μ)
  · refine G_aload_n hX 1 rfl rfl dX8_countBelow_173 ?_
    refine gf_X8_77_B12 hX hb0 dX8_countBelow_174 ?_
    refine G_iload_n hX 2 rfl rfl dX8_countBelow_177 ?_
    refine G_aI hX (atB_18 hb0) dX8_countBelow_178 (fun x20 => ?_)
    refine G_goto hX 183 (by decide) dX8_countBelow_179 ?_
    refine G_iadd hX dX8_countBelow_183 ?_
    refine G_sI hX atC12 dX8_countBelow_184 (fun μ => ?_)
    refine G_iincN hX 2 (fun x21 => [(2, .int x21), (0, .ref (cx_ad X 3)), (1, .ref (cx_ad X (b0 + 12))), (3, .int v3)]) rfl rfl (by decide) (fun _ => rfl) dX8_countBelow_185 (fun x21 => ?_)
    refine G_goto hX 38 (by decide) dX8_countBelow_188 ?_
    exact G_sub [1, 2, 0] rfl (hk38 b0 x21 hb0 μ)
set_option maxHeartbeats 4000000 in
set_option maxRecDepth 100000 in
theorem gX8_countBelow_128 {X : Ctx} {z : Unit × Mem} (hX : Fx wC X cX8_countBelow 4 RX8 none (rmo 1 23)) (hQ : Qx_v wC X z) (hcs : cx_cells X = 0 ∧ cx_slots X = 0) (N : Nat) (k38 : Nat → Int32 → Mem → Option (Unit × Mem)) (hk38 : ∀ (b0 : Nat) (v2 : Int32) (_ : kB b0) (μ : Mem), G wC X z 38 [(0, .ref (cx_ad X 3)), (1, .ref (cx_ad X (b0 + 12))), (2, .int v2)] [] μ (k38 b0 v2 μ)) (b0 : Nat) (v2 : Int32) (v3 : Int32) (s0 : Int32) (s1 : Int32) (hb0 : kB b0) (μ : Mem) : G wC X z 128 [(0, .ref (cx_ad X 3)), (1, .ref (cx_ad X (b0 + 12))), (2, .int v2), (3, .int v3)] [.int s0, .int s1, .ref (cx_ad X 13)] μ (fX8_countBelow_128 N k38 b0 v2 v3 s0 s1 μ) := by
  unfold fX8_countBelow_128
  refine G_sZ hX atC13 dX8_countBelow_128 (fun μ => ?_)
  refine G_aload_n hX 0 rfl rfl dX8_countBelow_129 ?_
  refine gf_X8_9_C3 hX dX8_countBelow_130 ?_
  refine G_iload_n hX 3 rfl rfl dX8_countBelow_133 ?_
  refine G_dup2 hX rfl rfl dX8_countBelow_134 ?_
  refine G_aI hX atC11 dX8_countBelow_135 (fun x14 => ?_)
  refine G_aload_n hX 0 rfl rfl dX8_countBelow_136 ?_
  refine gf_X8_22_C3 hX dX8_countBelow_137 ?_
  refine G_iload_n hX 2 rfl rfl dX8_countBelow_140 ?_
  refine G_aZ hX atC14 dX8_countBelow_141 (fun x15 => ?_)
  refine G_if_eq hX 154 (by decide) dX8_countBelow_142 ?_ ?_
  · refine G_iconst hX (0 : Int32) rfl dX8_countBelow_154 ?_
    exact G_sub [0, 1, 2, 3] rfl (gX8_countBelow_155 hX hQ hcs N k38 hk38 b0 v2 v3 (0 : Int32) x14 v3 hb0 μ)
  · refine G_aload_n hX 1 rfl rfl dX8_countBelow_145 ?_
    refine gf_X8_77_B12 hX hb0 dX8_countBelow_146 ?_
    refine G_iload_n hX 2 rfl rfl dX8_countBelow_149 ?_
    refine G_aI hX (atB_18 hb0) dX8_countBelow_150 (fun x16 => ?_)
    refine G_goto hX 155 (by decide) dX8_countBelow_151 ?_
    exact G_sub [0, 1, 2, 3] rfl (gX8_countBelow_155 hX hQ hcs N k38 hk38 b0 v2 v3 x16 x14 v3 hb0 μ)
set_option maxHeartbeats 4000000 in
set_option maxRecDepth 100000 in
theorem gX8_countBelow_87 {X : Ctx} {z : Unit × Mem} (hX : Fx wC X cX8_countBelow 4 RX8 none (rmo 1 23)) (hQ : Qx_v wC X z) (hcs : cx_cells X = 0 ∧ cx_slots X = 0) (N : Nat) (k38 : Nat → Int32 → Mem → Option (Unit × Mem)) (hk38 : ∀ (b0 : Nat) (v2 : Int32) (_ : kB b0) (μ : Mem), G wC X z 38 [(0, .ref (cx_ad X 3)), (1, .ref (cx_ad X (b0 + 12))), (2, .int v2)] [] μ (k38 b0 v2 μ)) (b0 : Nat) (v2 : Int32) (v3 : Int32) (s0 : Int32) (s1 : Int32) (hb0 : kB b0) (μ : Mem) : G wC X z 87 [(0, .ref (cx_ad X 3)), (1, .ref (cx_ad X (b0 + 12))), (2, .int v2), (3, .int v3)] [.int s0, .int s1, .ref (cx_ad X 14)] μ (fX8_countBelow_87 N k38 b0 v2 v3 s0 s1 μ) := by
  unfold fX8_countBelow_87
  refine G_sZ hX atC14 dX8_countBelow_87 (fun μ => ?_)
  refine G_aload_n hX 0 rfl rfl dX8_countBelow_88 ?_
  refine gf_X8_18_C3 hX dX8_countBelow_89 ?_
  refine G_iload_n hX 2 rfl rfl dX8_countBelow_92 ?_
  refine G_aload_n hX 0 rfl rfl dX8_countBelow_93 ?_
  refine gf_X8_22_C3 hX dX8_countBelow_94 ?_
  refine G_iload_n hX 2 rfl rfl dX8_countBelow_97 ?_
  refine G_aZ hX atC14 dX8_countBelow_98 (fun x9 => ?_)
  refine G_if_eq hX 127 (by decide) dX8_countBelow_99 ?_ ?_
  · refine G_iconst hX (0 : Int32) rfl dX8_countBelow_127 ?_
    exact G_sub [0, 1, 2, 3] rfl (gX8_countBelow_128 hX hQ hcs N k38 hk38 b0 v2 v3 (0 : Int32) v2 hb0 μ)
  · refine G_aload_n hX 1 rfl rfl dX8_countBelow_102 ?_
    refine gf_X8_91_B12 hX hb0 dX8_countBelow_103 ?_
    refine G_iload_n hX 2 rfl rfl dX8_countBelow_106 ?_
    refine G_aI hX (atB_21 hb0) dX8_countBelow_107 (fun x10 => ?_)
    refine G_aload_n hX 0 rfl rfl dX8_countBelow_108 ?_
    refine gf_X8_42_C3 hX dX8_countBelow_109 (fun b_11 hb_11 => ?_)
    refine G_aload_n hX 0 rfl rfl dX8_countBelow_112 ?_
    refine gf_X8_46_C3 hX dX8_countBelow_113 ?_
    refine G_nmi (fun x12 => ?_)
    refine G_iload_n hX 3 rfl rfl dX8_countBelow_116 ?_
    refine G_cVi hX b_11 1 (fun ad adK => [.int x12, .int v3]) [.int x10, .int v2, .ref (cx_ad X 13)] (fun z2 h2 => cX1_costOf_ok (cx_l X) N b_11 x12 v3 μ z2 h2) ok_X1_costOf lm_X8_94 (atB_0 hb_11).1 (atB_0 hb_11).2 rfl rfl (fun _ _ => rfl) (Nat.le_of_ble_eq_true rfl) ⟨rfl, rfl, by decide, by decide⟩ (cs0 hcs) dX8_countBelow_117 (fun r13 μ => ?_)
    refine G_icmp_ge hX 127 (by decide) dX8_countBelow_120 ?_ ?_
    · refine G_iconst hX (0 : Int32) rfl dX8_countBelow_127 ?_
      exact G_sub [0, 1, 2, 3] rfl (gX8_countBelow_128 hX hQ hcs N k38 hk38 b0 v2 v3 (0 : Int32) v2 hb0 μ)
    · refine G_iconst hX (1 : Int32) rfl dX8_countBelow_123 ?_
      refine G_goto hX 128 (by decide) dX8_countBelow_124 ?_
      exact G_sub [0, 1, 2, 3] rfl (gX8_countBelow_128 hX hQ hcs N k38 hk38 b0 v2 v3 (1 : Int32) v2 hb0 μ)
set_option maxHeartbeats 4000000 in
set_option maxRecDepth 100000 in
theorem gX8_countBelow_38 {X : Ctx} {z : Unit × Mem} (hX : Fx wC X cX8_countBelow 4 RX8 none (rmo 1 23)) (hQ : Qx_v wC X z) (hcs : cx_cells X = 0 ∧ cx_slots X = 0) (N : Nat) : ∀ (n : Nat) (b0 : Nat) (v2 : Int32) (hb0 : kB b0) (μ : Mem), G wC X z 38 [(0, .ref (cx_ad X 3)), (1, .ref (cx_ad X (b0 + 12))), (2, .int v2)] [] μ (fX8_countBelow_38 N n b0 v2 μ) := by
  intro n
  induction n with
  | zero =>
    intro b0 v2 hb0 μ
    exact G_none
  | succ n ih =>
    intro b0 v2 hb0 μ
    unfold fX8_countBelow_38
    refine G_iload_n hX 2 rfl rfl dX8_countBelow_38 ?_
    refine G_aload_n hX 1 rfl rfl dX8_countBelow_39 ?_
    refine gf_X8_64_B12 hX hb0 dX8_countBelow_40 ?_
    refine G_nmi (fun x3 => ?_)
    refine G_icmp_ge hX 191 (by decide) dX8_countBelow_43 ?_ ?_
    · exact G_vret hX hQ dX8_countBelow_191
    · refine G_aload_n hX 1 rfl rfl dX8_countBelow_46 ?_
      refine gf_X8_84_B12 hX hb0 dX8_countBelow_47 ?_
      refine G_iload_n hX 2 rfl rfl dX8_countBelow_50 ?_
      refine G_aI hX (atB_15 hb0) dX8_countBelow_51 (fun x4 => ?_)
      refine G_istore_n hX [(3, .int x4), (0, .ref (cx_ad X 3)), (1, .ref (cx_ad X (b0 + 12))), (2, .int v2)] rfl (by decide) rfl dX8_countBelow_52 ?_
      refine G_aload_n hX 1 rfl rfl dX8_countBelow_53 ?_
      refine gf_X8_22_C3 hX dX8_countBelow_54 ?_
      refine G_iload_n hX 3 rfl rfl dX8_countBelow_57 ?_
      refine G_aload_n hX 1 rfl rfl dX8_countBelow_58 ?_
      refine gf_X8_25_C3 hX dX8_countBelow_59 ?_
      refine G_nmi (fun x5 => ?_)
      refine G_iconst hX (-1 : Int32) rfl dX8_countBelow_62 ?_
      refine G_icmp_eq hX 86 (by decide) dX8_countBelow_63 ?_ ?_
      · refine G_iconst hX (0 : Int32) rfl dX8_countBelow_86 ?_
        exact G_sub [1, 2, 3, 0] rfl (gX8_countBelow_87 hX hQ hcs N (fun b0 v2 μ => fX8_countBelow_38 N n b0 v2 μ) (fun b0 v2 hb0 μ => ih b0 v2 hb0 μ) b0 v2 x4 (0 : Int32) v2 hb0 μ)
      · refine G_aload_n hX 2 rfl rfl dX8_countBelow_66 ?_
        refine G_iload_n hX 3 rfl rfl dX8_countBelow_67 ?_
        refine G_aload_n hX 1 rfl rfl dX8_countBelow_68 ?_
        refine gf_X8_46_C3 hX dX8_countBelow_69 ?_
        refine G_nmi (fun x6 => ?_)
        refine G_aload_n hX 1 rfl rfl dX8_countBelow_72 ?_
        refine gf_X8_25_C3 hX dX8_countBelow_73 ?_
        refine G_nmi (fun x7 => ?_)
        refine G_cVi hX (b0 + 12) 7 (fun ad adK => [.int v2, .int x6, .int x7]) [.int v2, .ref (cx_ad X 14)] (fun z2 h2 => cX7_isOf_ok (cx_l X) N (b0 + 12) v2 x6 x7 μ z2 h2) ok_X7_isOf lm_X8_87 (atB_12 hb0).1 (atB_12 hb0).2 rfl rfl (fun _ _ => rfl) (Nat.le_of_ble_eq_true rfl) ⟨rfl, rfl, by decide, by decide⟩ (cs0 hcs) dX8_countBelow_76 (fun r8 μ => ?_)
        refine G_if_eq hX 86 (by decide) dX8_countBelow_79 ?_ ?_
        · refine G_iconst hX (0 : Int32) rfl dX8_countBelow_86 ?_
          exact G_sub [1, 2, 3, 0] rfl (gX8_countBelow_87 hX hQ hcs N (fun b0 v2 μ => fX8_countBelow_38 N n b0 v2 μ) (fun b0 v2 hb0 μ => ih b0 v2 hb0 μ) b0 v2 x4 (0 : Int32) v2 hb0 μ)
        · refine G_iconst hX (1 : Int32) rfl dX8_countBelow_82 ?_
          refine G_goto hX 87 (by decide) dX8_countBelow_83 ?_
          exact G_sub [1, 2, 3, 0] rfl (gX8_countBelow_87 hX hQ hcs N (fun b0 v2 μ => fX8_countBelow_38 N n b0 v2 μ) (fun b0 v2 hb0 μ => ih b0 v2 hb0 μ) b0 v2 x4 (1 : Int32) v2 hb0 μ)
set_option maxHeartbeats 4000000 in
set_option maxRecDepth 100000 in
theorem gX8_countBelow_28 {X : Ctx} {z : Unit × Mem} (hX : Fx wC X cX8_countBelow 4 RX8 none (rmo 1 23)) (hQ : Qx_v wC X z) (hcs : cx_cells X = 0 ∧ cx_slots X = 0) (N : Nat) (μ : Mem) : G wC X z 28 [(0, .ref (cx_ad X 3))] [] μ (fX8_countBelow_28 N μ) := by
  unfold fX8_countBelow_28
  refine G_aload_n hX 0 rfl rfl dX8_countBelow_28 ?_
  refine gf_X8_42_C3 hX dX8_countBelow_29 (fun b_2 hb_2 => ?_)
  refine gf_X8_58_B0 hX hb_2 dX8_countBelow_32 ?_
  refine G_astore_n hX [(1, .ref (cx_ad X (b_2 + 12))), (0, .ref (cx_ad X 3))] rfl (by decide) rfl dX8_countBelow_35 ?_
  refine G_iconst hX (0 : Int32) rfl dX8_countBelow_36 ?_
  refine G_istore_n hX [(2, .int (0 : Int32)), (1, .ref (cx_ad X (b_2 + 12))), (0, .ref (cx_ad X 3))] rfl (by decide) rfl dX8_countBelow_37 ?_
  exact G_sub [2, 1, 0] rfl (gX8_countBelow_38 hX hQ hcs N N b_2 (0 : Int32) hb_2 μ)
set_option maxHeartbeats 4000000 in
set_option maxRecDepth 100000 in
theorem gX8_countBelow_2 {X : Ctx} {z : Unit × Mem} (hX : Fx wC X cX8_countBelow 4 RX8 none (rmo 1 23)) (hQ : Qx_v wC X z) (hcs : cx_cells X = 0 ∧ cx_slots X = 0) (N : Nat) : ∀ (n : Nat) (v1 : Int32) (μ : Mem), G wC X z 2 [(0, .ref (cx_ad X 3)), (1, .int v1)] [] μ (fX8_countBelow_2 N n v1 μ) := by
  intro n
  induction n with
  | zero =>
    intro v1 μ
    exact G_none
  | succ n ih =>
    intro v1 μ
    unfold fX8_countBelow_2
    refine G_iload_n hX 1 rfl rfl dX8_countBelow_2 ?_
    refine G_bipush hX (6 : Int32) rfl dX8_countBelow_3 ?_
    refine G_icmp_ge hX 28 (by decide) dX8_countBelow_5 ?_ ?_
    · exact G_sub [0] rfl (gX8_countBelow_28 hX hQ hcs N μ)
    · refine G_aload_n hX 0 rfl rfl dX8_countBelow_8 ?_
      refine gf_X8_9_C3 hX dX8_countBelow_9 ?_
      refine G_iload_n hX 1 rfl rfl dX8_countBelow_12 ?_
      refine G_iconst hX (0 : Int32) rfl dX8_countBelow_13 ?_
      refine G_sI hX atC11 dX8_countBelow_14 (fun μ => ?_)
      refine G_aload_n hX 0 rfl rfl dX8_countBelow_15 ?_
      refine gf_X8_15_C3 hX dX8_countBelow_16 ?_
      refine G_iload_n hX 1 rfl rfl dX8_countBelow_19 ?_
      refine G_iconst hX (0 : Int32) rfl dX8_countBelow_20 ?_
      refine G_sI hX atC12 dX8_countBelow_21 (fun μ => ?_)
      refine G_iincN hX 1 (fun x1 => [(1, .int x1), (0, .ref (cx_ad X 3))]) rfl rfl (by decide) (fun _ => rfl) dX8_countBelow_22 (fun x1 => ?_)
      refine G_goto hX 2 (by decide) dX8_countBelow_25 ?_
      exact G_sub [1, 0] rfl (ih x1 μ)
set_option maxHeartbeats 4000000 in
set_option maxRecDepth 100000 in
theorem gX8_countBelow_E {X : Ctx} {z : Unit × Mem} (hX : Fx wC X cX8_countBelow 4 RX8 none (rmo 1 23)) (hQ : Qx_v wC X z) (hcs : cx_cells X = 0 ∧ cx_slots X = 0) (N : Nat) (μ : Mem) : G wC X z 0 [(0, .ref (cx_ad X 3))] [] μ (fX8_countBelow N μ) := by
  unfold fX8_countBelow
  refine G_iconst hX (0 : Int32) rfl dX8_countBelow_0 ?_
  refine G_istore_n hX [(1, .int (0 : Int32)), (0, .ref (cx_ad X 3))] rfl (by decide) rfl dX8_countBelow_1 ?_
  exact G_sub [1, 0] rfl (gX8_countBelow_2 hX hQ hcs N N (0 : Int32) μ)
theorem cX8_countBelow_ok (l : Launch) (N : Nat) (μ : Mem) (z : Unit × Mem) (h : fX8_countBelow N μ = some z) : Mv wC l yX8_countBelow cX8_countBelow 4 (rmo 1 23) (fun ad adK => [.ref (ad 3)]) μ z := Mv.of h (by decide +kernel) (fun _ _ => Nat.le_of_ble_eq_true rfl) (fun X hX hQ hl hcs => gX8_countBelow_E hX hQ hcs N μ)
/-! ===== DutyCase$Study.leavesOut(I)Z ===== -/
set_option maxHeartbeats 4000000 in
set_option maxRecDepth 100000 in
theorem gX8_leavesOut_E {X : Ctx} {z : Int32 × Mem} (hX : Fx wC X cX8_leavesOut 2 RX8 (some .boolean) (rmo 0 0)) (hQ : Qx_i wC X z) (hcs : cx_cells X = 0 ∧ cx_slots X = 0) (N : Nat) (p0 : Int32) (μ : Mem) : G wC X z 0 [(0, .ref (cx_ad X 3)), (1, .int p0)] [] μ (fX8_leavesOut N p0 μ) := by
  unfold fX8_leavesOut
  refine G_aload_n hX 0 rfl rfl dX8_leavesOut_0 ?_
  refine gf_X8_15_C3 hX dX8_leavesOut_1 ?_
  refine G_iload_n hX 1 rfl rfl dX8_leavesOut_4 ?_
  refine G_aI hX atC12 dX8_leavesOut_5 (fun x1 => ?_)
  refine G_if_le hX 30 (by decide) dX8_leavesOut_6 ?_ ?_
  · refine G_iconst hX (0 : Int32) rfl dX8_leavesOut_30 ?_
    exact G_zret hX hQ rfl dX8_leavesOut_31
  · refine G_iconst hX (5 : Int32) rfl dX8_leavesOut_9 ?_
    refine G_aload_n hX 0 rfl rfl dX8_leavesOut_10 ?_
    refine gf_X8_15_C3 hX dX8_leavesOut_11 ?_
    refine G_iload_n hX 1 rfl rfl dX8_leavesOut_14 ?_
    refine G_aI hX atC12 dX8_leavesOut_15 (fun x2 => ?_)
    refine G_imul hX dX8_leavesOut_16 ?_
    refine G_aload_n hX 0 rfl rfl dX8_leavesOut_17 ?_
    refine gf_X8_9_C3 hX dX8_leavesOut_18 ?_
    refine G_iload_n hX 1 rfl rfl dX8_leavesOut_21 ?_
    refine G_aI hX atC11 dX8_leavesOut_22 (fun x3 => ?_)
    refine G_icmp_lt hX 30 (by decide) dX8_leavesOut_23 ?_ ?_
    · refine G_iconst hX (0 : Int32) rfl dX8_leavesOut_30 ?_
      exact G_zret hX hQ rfl dX8_leavesOut_31
    · refine G_iconst hX (1 : Int32) rfl dX8_leavesOut_26 ?_
      refine G_goto hX 31 (by decide) dX8_leavesOut_27 ?_
      exact G_zret hX hQ rfl dX8_leavesOut_31
theorem cX8_leavesOut_ok (l : Launch) (N : Nat) (p0 : Int32) (μ : Mem) (z : Int32 × Mem) (h : fX8_leavesOut N p0 μ = some z) : Mi wC l yX8_leavesOut cX8_leavesOut 2 .boolean (rmo 0 0) (fun ad adK => [.ref (ad 3), .int p0]) μ z := Mi.of h (by decide +kernel) (fun _ _ => Nat.le_of_ble_eq_true rfl) (fun X hX hQ hl hcs => gX8_leavesOut_E hX hQ hcs N p0 μ)
/-! ===== DutyCase$Study.countIn()V ===== -/
set_option maxHeartbeats 4000000 in
set_option maxRecDepth 100000 in
theorem gX8_countIn_110 {X : Ctx} {z : Unit × Mem} (hX : Fx wC X cX8_countIn 5 RX8 none (rmo 1 21)) (hQ : Qx_v wC X z) (hcs : cx_cells X = 0 ∧ cx_slots X = 0) (N : Nat) (k59 : Nat → Int32 → Mem → Option (Unit × Mem)) (hk59 : ∀ (b0 : Nat) (v2 : Int32) (_ : kB b0) (μ : Mem), G wC X z 59 [(0, .ref (cx_ad X 3)), (1, .ref (cx_ad X (b0 + 12))), (2, .int v2)] [] μ (k59 b0 v2 μ)) (b0 : Nat) (v2 : Int32) (v3 : Int32) (s0 : Int32) (s1 : Int32) (hb0 : kB b0) (μ : Mem) : G wC X z 110 [(0, .ref (cx_ad X 3)), (1, .ref (cx_ad X (b0 + 12))), (2, .int v2), (3, .int v3)] [.int s0, .int s1, .ref (cx_ad X 14)] μ (fX8_countIn_110 N k59 b0 v2 v3 s0 s1 μ) := by
  unfold fX8_countIn_110
  refine G_sZ hX atC14 dX8_countIn_110 (fun μ => ?_)
  refine G_aload_n hX 0 rfl rfl dX8_countIn_111 ?_
  refine gf_X8_22_C3 hX dX8_countIn_112 ?_
  refine G_iload_n hX 2 rfl rfl dX8_countIn_115 ?_
  refine G_aZ hX atC14 dX8_countIn_116 (fun x9 => ?_)
  refine G_if_eq hX 170 (by decide) dX8_countIn_117 ?_ ?_
  · refine G_iincN hX 2 (fun x10 => [(2, .int x10), (0, .ref (cx_ad X 3)), (1, .ref (cx_ad X (b0 + 12))), (3, .int v3)]) rfl rfl (by decide) (fun _ => rfl) dX8_countIn_170 (fun x10 => ?_)
    refine G_goto hX 59 (by decide) dX8_countIn_173 ?_
    exact G_sub [1, 2, 0] rfl (hk59 b0 x10 hb0 μ)
  · refine G_iload_n hX 3 rfl rfl dX8_countIn_120 ?_
    refine G_iconst hX (4 : Int32) rfl dX8_countIn_121 ?_
    refine G_imul hX dX8_countIn_122 ?_
    refine G_aload_n hX 1 rfl rfl dX8_countIn_123 ?_
    refine gf_X8_101_B12 hX hb0 dX8_countIn_124 ?_
    refine G_iload_n hX 2 rfl rfl dX8_countIn_127 ?_
    refine G_aI hX (atB_16 hb0) dX8_countIn_128 (fun x11 => ?_)
    refine G_iadd hX dX8_countIn_129 ?_
    refine G_nmi (fun x12 => ?_)
    refine G_istore hX [(4, .int x12), (0, .ref (cx_ad X 3)), (1, .ref (cx_ad X (b0 + 12))), (2, .int v2), (3, .int v3)] (by decide) rfl dX8_countIn_130 ?_
    refine G_aload_n hX 1 rfl rfl dX8_countIn_132 ?_
    refine gf_X8_32_C3 hX dX8_countIn_133 ?_
    refine G_iload hX 0 rfl dX8_countIn_136 ?_
    refine G_dup2 hX rfl rfl dX8_countIn_138 ?_
    refine G_aI hX atC16 dX8_countIn_139 (fun x13 => ?_)
    refine G_aload_n hX 2 rfl rfl dX8_countIn_140 ?_
    refine gf_X8_77_B12 hX hb0 dX8_countIn_141 ?_
    refine G_iload_n hX 3 rfl rfl dX8_countIn_144 ?_
    refine G_aI hX (atB_18 hb0) dX8_countIn_145 (fun x14 => ?_)
    refine G_iadd hX dX8_countIn_146 ?_
    refine G_sI hX atC16 dX8_countIn_147 (fun μ => ?_)
    refine G_aload_n hX 1 rfl rfl dX8_countIn_148 ?_
    refine gf_X8_35_C3 hX dX8_countIn_149 ?_
    refine G_iload hX 0 rfl dX8_countIn_152 ?_
    refine G_dup2 hX rfl rfl dX8_countIn_154 ?_
    refine G_aL hX atC17 dX8_countIn_155 (fun x15 => ?_)
    refine G_aload_n hX 2 rfl rfl dX8_countIn_156 ?_
    refine G_iload_n hX 3 rfl rfl dX8_countIn_157 ?_
    refine G_cVl hX (b0 + 12) 7 (fun ad adK => [.int v2]) [.long x15, .int x12, .ref (cx_ad X 17)] (fun z2 h2 => cX7_valueAt_ok (cx_l X) N (b0 + 12) v2 μ z2 h2) ok_X7_valueAt lm_X8_104 (atB_12 hb0).1 (atB_12 hb0).2 rfl rfl (fun _ _ => rfl) (Nat.le_of_ble_eq_true rfl) ⟨rfl, rfl, by decide, by decide⟩ (cs0 hcs) dX8_countIn_158 (fun r16 μ => ?_)
    refine G_ladd hX dX8_countIn_161 ?_
    refine G_sL hX atC17 dX8_countIn_162 (fun μ => ?_)
    refine G_aload_n hX 1 rfl rfl dX8_countIn_163 ?_
    refine gf_X8_29_C3 hX dX8_countIn_164 ?_
    refine G_iload_n hX 4 rfl rfl dX8_countIn_167 ?_
    refine G_iconst hX (1 : Int32) rfl dX8_countIn_168 ?_
    refine G_sZ hX atC15 dX8_countIn_169 (fun μ => ?_)
    refine G_iincN hX 3 (fun x17 => [(2, .int x17), (4, .int x12), (0, .ref (cx_ad X 3)), (1, .ref (cx_ad X (b0 + 12))), (3, .int v3)]) rfl rfl (by decide) (fun _ => rfl) dX8_countIn_170 (fun x17 => ?_)
    refine G_goto hX 59 (by decide) dX8_countIn_173 ?_
    exact G_sub [2, 3, 0] rfl (hk59 b0 x17 hb0 μ)
set_option maxHeartbeats 4000000 in
set_option maxRecDepth 100000 in
theorem gX8_countIn_59 {X : Ctx} {z : Unit × Mem} (hX : Fx wC X cX8_countIn 5 RX8 none (rmo 1 21)) (hQ : Qx_v wC X z) (hcs : cx_cells X = 0 ∧ cx_slots X = 0) (N : Nat) : ∀ (n : Nat) (b0 : Nat) (v2 : Int32) (hb0 : kB b0) (μ : Mem), G wC X z 59 [(0, .ref (cx_ad X 3)), (1, .ref (cx_ad X (b0 + 12))), (2, .int v2)] [] μ (fX8_countIn_59 N n b0 v2 μ) := by
  intro n
  induction n with
  | zero =>
    intro b0 v2 hb0 μ
    exact G_none
  | succ n ih =>
    intro b0 v2 hb0 μ
    unfold fX8_countIn_59
    refine G_iload_n hX 2 rfl rfl dX8_countIn_59 ?_
    refine G_aload_n hX 1 rfl rfl dX8_countIn_60 ?_
    refine gf_X8_64_B12 hX hb0 dX8_countIn_61 ?_
    refine G_nmi (fun x4 => ?_)
    refine G_icmp_ge hX 176 (by decide) dX8_countIn_64 ?_ ?_
    · exact G_vret hX hQ dX8_countIn_176
    · refine G_aload_n hX 1 rfl rfl dX8_countIn_67 ?_
      refine gf_X8_84_B12 hX hb0 dX8_countIn_68 ?_
      refine G_iload_n hX 2 rfl rfl dX8_countIn_71 ?_
      refine G_aI hX (atB_15 hb0) dX8_countIn_72 (fun x5 => ?_)
      refine G_istore_n hX [(3, .int x5), (0, .ref (cx_ad X 3)), (1, .ref (cx_ad X (b0 + 12))), (2, .int v2)] rfl (by decide) rfl dX8_countIn_73 ?_
      refine G_aload_n hX 1 rfl rfl dX8_countIn_74 ?_
      refine gf_X8_22_C3 hX dX8_countIn_75 ?_
      refine G_iload_n hX 3 rfl rfl dX8_countIn_78 ?_
      refine G_aload_n hX 1 rfl rfl dX8_countIn_79 ?_
      refine gf_X8_22_C3 hX dX8_countIn_80 ?_
      refine G_iload_n hX 3 rfl rfl dX8_countIn_83 ?_
      refine G_aZ hX atC14 dX8_countIn_84 (fun x6 => ?_)
      refine G_if_eq hX 109 (by decide) dX8_countIn_85 ?_ ?_
      · refine G_iconst hX (0 : Int32) rfl dX8_countIn_109 ?_
        exact G_sub [1, 2, 3, 0] rfl (gX8_countIn_110 hX hQ hcs N (fun b0 v2 μ => fX8_countIn_59 N n b0 v2 μ) (fun b0 v2 hb0 μ => ih b0 v2 hb0 μ) b0 v2 x5 (0 : Int32) v2 hb0 μ)
      · refine G_aload_n hX 1 rfl rfl dX8_countIn_88 ?_
        refine gf_X8_18_C3 hX dX8_countIn_89 ?_
        refine G_iload_n hX 3 rfl rfl dX8_countIn_92 ?_
        refine G_aZ hX atC13 dX8_countIn_93 (fun x7 => ?_)
        refine G_if_eq hX 105 (by decide) dX8_countIn_94 ?_ ?_
        · refine G_iconst hX (1 : Int32) rfl dX8_countIn_105 ?_
          refine G_goto hX 110 (by decide) dX8_countIn_106 ?_
          exact G_sub [1, 2, 3, 0] rfl (gX8_countIn_110 hX hQ hcs N (fun b0 v2 μ => fX8_countIn_59 N n b0 v2 μ) (fun b0 v2 hb0 μ => ih b0 v2 hb0 μ) b0 v2 x5 (1 : Int32) v2 hb0 μ)
        · refine G_aload_n hX 1 rfl rfl dX8_countIn_97 ?_
          refine G_iload_n hX 0 rfl rfl dX8_countIn_98 ?_
          refine G_cVi hX 3 8 (fun ad adK => [.int x5]) [.int v2, .ref (cx_ad X 14)] (fun z2 h2 => cX8_leavesOut_ok (cx_l X) N x5 μ z2 h2) ok_X8_leavesOut lm_X8_98 atC3.1 atC3.2 rfl rfl (fun _ _ => rfl) (Nat.le_of_ble_eq_true rfl) ⟨rfl, rfl, by decide, by decide⟩ (cs0 hcs) dX8_countIn_99 (fun r8 μ => ?_)
          refine G_if_ne hX 109 (by decide) dX8_countIn_102 ?_ ?_
          · refine G_iconst hX (0 : Int32) rfl dX8_countIn_109 ?_
            exact G_sub [1, 2, 3, 0] rfl (gX8_countIn_110 hX hQ hcs N (fun b0 v2 μ => fX8_countIn_59 N n b0 v2 μ) (fun b0 v2 hb0 μ => ih b0 v2 hb0 μ) b0 v2 x5 (0 : Int32) v2 hb0 μ)
          · refine G_iconst hX (1 : Int32) rfl dX8_countIn_105 ?_
            refine G_goto hX 110 (by decide) dX8_countIn_106 ?_
            exact G_sub [1, 2, 3, 0] rfl (gX8_countIn_110 hX hQ hcs N (fun b0 v2 μ => fX8_countIn_59 N n b0 v2 μ) (fun b0 v2 hb0 μ => ih b0 v2 hb0 μ) b0 v2 x5 (1 : Int32) v2 hb0 μ)
set_option maxHeartbeats 4000000 in
set_option maxRecDepth 100000 in
theorem gX8_countIn_49 {X : Ctx} {z : Unit × Mem} (hX : Fx wC X cX8_countIn 5 RX8 none (rmo 1 21)) (hQ : Qx_v wC X z) (hcs : cx_cells X = 0 ∧ cx_slots X = 0) (N : Nat) (μ : Mem) : G wC X z 49 [(0, .ref (cx_ad X 3))] [] μ (fX8_countIn_49 N μ) := by
  unfold fX8_countIn_49
  refine G_aload_n hX 0 rfl rfl dX8_countIn_49 ?_
  refine gf_X8_42_C3 hX dX8_countIn_50 (fun b_3 hb_3 => ?_)
  refine gf_X8_58_B0 hX hb_3 dX8_countIn_53 ?_
  refine G_astore_n hX [(1, .ref (cx_ad X (b_3 + 12))), (0, .ref (cx_ad X 3))] rfl (by decide) rfl dX8_countIn_56 ?_
  refine G_iconst hX (0 : Int32) rfl dX8_countIn_57 ?_
  refine G_istore_n hX [(2, .int (0 : Int32)), (1, .ref (cx_ad X (b_3 + 12))), (0, .ref (cx_ad X 3))] rfl (by decide) rfl dX8_countIn_58 ?_
  exact G_sub [2, 1, 0] rfl (gX8_countIn_59 hX hQ hcs N N b_3 (0 : Int32) hb_3 μ)
set_option maxHeartbeats 4000000 in
set_option maxRecDepth 100000 in
theorem gX8_countIn_23 {X : Ctx} {z : Unit × Mem} (hX : Fx wC X cX8_countIn 5 RX8 none (rmo 1 21)) (hQ : Qx_v wC X z) (hcs : cx_cells X = 0 ∧ cx_slots X = 0) (N : Nat) : ∀ (n : Nat) (v1 : Int32) (μ : Mem), G wC X z 23 [(0, .ref (cx_ad X 3)), (1, .int v1)] [] μ (fX8_countIn_23 N n v1 μ) := by
  intro n
  induction n with
  | zero =>
    intro v1 μ
    exact G_none
  | succ n ih =>
    intro v1 μ
    unfold fX8_countIn_23
    refine G_iload_n hX 1 rfl rfl dX8_countIn_23 ?_
    refine G_bipush hX (24 : Int32) rfl dX8_countIn_24 ?_
    refine G_icmp_ge hX 49 (by decide) dX8_countIn_26 ?_ ?_
    · exact G_sub [0] rfl (gX8_countIn_49 hX hQ hcs N μ)
    · refine G_aload_n hX 0 rfl rfl dX8_countIn_29 ?_
      refine gf_X8_32_C3 hX dX8_countIn_30 ?_
      refine G_iload_n hX 1 rfl rfl dX8_countIn_33 ?_
      refine G_iconst hX (0 : Int32) rfl dX8_countIn_34 ?_
      refine G_sI hX atC16 dX8_countIn_35 (fun μ => ?_)
      refine G_aload_n hX 0 rfl rfl dX8_countIn_36 ?_
      refine gf_X8_35_C3 hX dX8_countIn_37 ?_
      refine G_iload_n hX 1 rfl rfl dX8_countIn_40 ?_
      refine G_lconst hX (0 : Int64) rfl dX8_countIn_41 ?_
      refine G_sL hX atC17 dX8_countIn_42 (fun μ => ?_)
      refine G_iincN hX 1 (fun x2 => [(1, .int x2), (0, .ref (cx_ad X 3))]) rfl rfl (by decide) (fun _ => rfl) dX8_countIn_43 (fun x2 => ?_)
      refine G_goto hX 23 (by decide) dX8_countIn_46 ?_
      exact G_sub [1, 0] rfl (ih x2 μ)
set_option maxHeartbeats 4000000 in
set_option maxRecDepth 100000 in
theorem gX8_countIn_2 {X : Ctx} {z : Unit × Mem} (hX : Fx wC X cX8_countIn 5 RX8 none (rmo 1 21)) (hQ : Qx_v wC X z) (hcs : cx_cells X = 0 ∧ cx_slots X = 0) (N : Nat) : ∀ (n : Nat) (v1 : Int32) (μ : Mem), G wC X z 2 [(0, .ref (cx_ad X 3)), (1, .int v1)] [] μ (fX8_countIn_2 N n v1 μ) := by
  intro n
  induction n with
  | zero =>
    intro v1 μ
    exact G_none
  | succ n ih =>
    intro v1 μ
    unfold fX8_countIn_2
    refine G_iload_n hX 1 rfl rfl dX8_countIn_2 ?_
    refine G_bipush hX (6 : Int32) rfl dX8_countIn_3 ?_
    refine G_icmp_ge hX 21 (by decide) dX8_countIn_5 ?_ ?_
    · refine G_iconst hX (0 : Int32) rfl dX8_countIn_21 ?_
      refine G_istore_n hX [(1, .int (0 : Int32)), (0, .ref (cx_ad X 3))] rfl (by decide) rfl dX8_countIn_22 ?_
      exact G_sub [1, 0] rfl (gX8_countIn_23 hX hQ hcs N N (0 : Int32) μ)
    · refine G_aload_n hX 0 rfl rfl dX8_countIn_8 ?_
      refine gf_X8_29_C3 hX dX8_countIn_9 ?_
      refine G_iload_n hX 1 rfl rfl dX8_countIn_12 ?_
      refine G_iconst hX (0 : Int32) rfl dX8_countIn_13 ?_
      refine G_sZ hX atC15 dX8_countIn_14 (fun μ => ?_)
      refine G_iincN hX 1 (fun x1 => [(1, .int x1), (0, .ref (cx_ad X 3))]) rfl rfl (by decide) (fun _ => rfl) dX8_countIn_15 (fun x1 => ?_)
      refine G_goto hX 2 (by decide) dX8_countIn_18 ?_
      exact G_sub [1, 0] rfl (ih x1 μ)
set_option maxHeartbeats 4000000 in
set_option maxRecDepth 100000 in
theorem gX8_countIn_E {X : Ctx} {z : Unit × Mem} (hX : Fx wC X cX8_countIn 5 RX8 none (rmo 1 21)) (hQ : Qx_v wC X z) (hcs : cx_cells X = 0 ∧ cx_slots X = 0) (N : Nat) (μ : Mem) : G wC X z 0 [(0, .ref (cx_ad X 3))] [] μ (fX8_countIn N μ) := by
  unfold fX8_countIn
  refine G_iconst hX (0 : Int32) rfl dX8_countIn_0 ?_
  refine G_istore_n hX [(1, .int (0 : Int32)), (0, .ref (cx_ad X 3))] rfl (by decide) rfl dX8_countIn_1 ?_
  exact G_sub [1, 0] rfl (gX8_countIn_2 hX hQ hcs N N (0 : Int32) μ)
theorem cX8_countIn_ok (l : Launch) (N : Nat) (μ : Mem) (z : Unit × Mem) (h : fX8_countIn N μ = some z) : Mv wC l yX8_countIn cX8_countIn 5 (rmo 1 21) (fun ad adK => [.ref (ad 3)]) μ z := Mv.of h (by decide +kernel) (fun _ _ => Nat.le_of_ble_eq_true rfl) (fun X hX hQ hl hcs => gX8_countIn_E hX hQ hcs N μ)
/-! ===== DutyCase$Study.look(LDutyCase$Book;I)V ===== -/
set_option maxHeartbeats 4000000 in
set_option maxRecDepth 100000 in
theorem gX8_look_E {X : Ctx} {z : Unit × Mem} (hX : Fx wC X cX8_look 3 RX8 none (rmo 2 46)) (hQ : Qx_v wC X z) (hcs : cx_cells X = 0 ∧ cx_slots X = 0) (N : Nat) (p0 : Nat) (p1 : Int32) (μ : Mem) : G wC X z 0 [(0, .ref (cx_ad X 3)), (1, .ref (cx_ad X p0)), (2, .int p1)] [] μ (fX8_look N p0 p1 μ) := by
  unfold fX8_look
  refine G_guard (fun hp0 => ?_)
  refine G_aload_n hX 0 rfl rfl dX8_look_0 ?_
  refine G_aload_n hX 1 rfl rfl dX8_look_1 ?_
  refine pf_X8_42_C3 hX dX8_look_2 (fun μ => ?_)
  refine G_aload_n hX 0 rfl rfl dX8_look_5 ?_
  refine G_iload_n hX 2 rfl rfl dX8_look_6 ?_
  refine pf_X8_46_C3 hX dX8_look_7 (fun μ => ?_)
  refine G_aload_n hX 0 rfl rfl dX8_look_10 ?_
  refine G_cVv hX 3 8 (fun ad adK => []) [] (fun z2 h2 => cX8_chooseBase_ok (cx_l X) N μ z2 h2) ok_X8_chooseBase lm_X8_49 atC3.1 atC3.2 rfl rfl (fun _ _ => rfl) (Nat.le_of_ble_eq_true rfl) ⟨rfl, rfl, by decide, by decide⟩ (cs0 hcs) dX8_look_11 (fun μ => ?_)
  refine G_aload_n hX 0 rfl rfl dX8_look_14 ?_
  refine G_cVv hX 3 8 (fun ad adK => []) [] (fun z2 h2 => cX8_countBelow_ok (cx_l X) N μ z2 h2) ok_X8_countBelow lm_X8_52 atC3.1 atC3.2 rfl rfl (fun _ _ => rfl) (Nat.le_of_ble_eq_true rfl) ⟨rfl, rfl, by decide, by decide⟩ (cs0 hcs) dX8_look_15 (fun μ => ?_)
  refine G_aload_n hX 0 rfl rfl dX8_look_18 ?_
  refine G_cVv hX 3 8 (fun ad adK => []) [] (fun z2 h2 => cX8_countIn_ok (cx_l X) N μ z2 h2) ok_X8_countIn lm_X8_55 atC3.1 atC3.2 rfl rfl (fun _ _ => rfl) (Nat.le_of_ble_eq_true rfl) ⟨rfl, rfl, by decide, by decide⟩ (cs0 hcs) dX8_look_19 (fun μ => ?_)
  exact G_vret hX hQ dX8_look_22
theorem cX8_look_ok (l : Launch) (N : Nat) (p0 : Nat) (p1 : Int32) (μ : Mem) (z : Unit × Mem) (h : fX8_look N p0 p1 μ = some z) : Mv wC l yX8_look cX8_look 3 (rmo 2 46) (fun ad adK => [.ref (ad 3), .ref (ad p0), .int p1]) μ z := Mv.of h (by decide +kernel) (fun _ _ => Nat.le_of_ble_eq_true rfl) (fun X hX hQ hl hcs => gX8_look_E hX hQ hcs N p0 p1 μ)
/-! ===== DutyCase$Study.modelFor(I)I ===== -/
set_option maxHeartbeats 4000000 in
set_option maxRecDepth 100000 in
theorem gX8_modelFor_32 {X : Ctx} {z : Int32 × Mem} (hX : Fx wC X cX8_modelFor 7 RX8 (some .int) (rmo 1 24)) (hQ : Qx_i wC X z) (hcs : cx_cells X = 0 ∧ cx_slots X = 0) (N : Nat) : ∀ (n : Nat) (v1 : Int32) (v2 : Int32) (v3 : Int32) (v4 : Int32) (v5 : Int32) (μ : Mem), G wC X z 32 [(0, .ref (cx_ad X 3)), (1, .int v1), (2, .int v2), (3, .int v3), (4, .int v4), (5, .int v5)] [] μ (fX8_modelFor_32 N n v1 v2 v3 v4 v5 μ) := by
  intro n
  induction n with
  | zero =>
    intro v1 v2 v3 v4 v5 μ
    exact G_none
  | succ n ih =>
    intro v1 v2 v3 v4 v5 μ
    unfold fX8_modelFor_32
    refine G_iload hX 5 rfl dX8_modelFor_32 ?_
    refine G_aload_n hX 0 rfl rfl dX8_modelFor_34 ?_
    refine gf_X8_42_C3 hX dX8_modelFor_35 (fun b_5 hb_5 => ?_)
    refine gf_X8_108_B0 hX hb_5 dX8_modelFor_38 ?_
    refine gf_X8_112_B1 hX hb_5 dX8_modelFor_41 ?_
    refine G_nmi (fun x6 => ?_)
    refine G_icmp_ge hX 131 (by decide) dX8_modelFor_44 ?_ ?_
    · refine G_iload_n hX 2 rfl rfl dX8_modelFor_131 ?_
      exact G_iret hX hQ dX8_modelFor_132
    · refine G_aload_n hX 0 rfl rfl dX8_modelFor_47 ?_
      refine gf_X8_29_C3 hX dX8_modelFor_48 ?_
      refine G_iload hX 5 rfl dX8_modelFor_51 ?_
      refine G_aZ hX atC15 dX8_modelFor_53 (fun x7 => ?_)
      refine G_if_eq hX 125 (by decide) dX8_modelFor_54 ?_ ?_
      · refine G_iincN hX 5 (fun x8 => [(5, .int x8), (0, .ref (cx_ad X 3)), (1, .int v1), (2, .int v2), (3, .int v3), (4, .int v4)]) rfl rfl (by decide) (fun _ => rfl) dX8_modelFor_125 (fun x8 => ?_)
        refine G_goto hX 32 (by decide) dX8_modelFor_128 ?_
        exact G_sub [1, 2, 3, 4, 5, 0] rfl (ih v1 v2 v3 v4 x8 μ)
      · refine G_iconst hX (5 : Int32) rfl dX8_modelFor_57 ?_
        refine G_aload_n hX 0 rfl rfl dX8_modelFor_58 ?_
        refine gf_X8_42_C3 hX dX8_modelFor_59 (fun b_9 hb_9 => ?_)
        refine G_aload_n hX 0 rfl rfl dX8_modelFor_62 ?_
        refine gf_X8_46_C3 hX dX8_modelFor_63 ?_
        refine G_nmi (fun x10 => ?_)
        refine G_iload hX 5 rfl dX8_modelFor_66 ?_
        refine G_cVi hX b_9 1 (fun ad adK => [.int x10, .int v5]) [.int (5 : Int32)] (fun z2 h2 => cX1_costOf_ok (cx_l X) N b_9 x10 v5 μ z2 h2) ok_X1_costOf lm_X8_94 (atB_0 hb_9).1 (atB_0 hb_9).2 rfl rfl (fun _ _ => rfl) (Nat.le_of_ble_eq_true rfl) ⟨rfl, rfl, by decide, by decide⟩ (cs0 hcs) dX8_modelFor_68 (fun r11 μ => ?_)
        refine G_iload hX 4 rfl dX8_modelFor_71 ?_
        refine G_isub hX dX8_modelFor_73 ?_
        refine G_mabs hX lm_X8_115 ok_J9_abs_0f7a4.1 ok_J9_abs_0f7a4.2.1 ok_J9_abs_0f7a4.2.2.1 ⟨Nat.le_of_ble_eq_true rfl, Nat.le_of_ble_eq_true rfl⟩ (cs0 hcs) dX8_modelFor_74 ?_
        refine G_imul hX dX8_modelFor_77 ?_
        refine G_iload hX 4 rfl dX8_modelFor_78 ?_
        refine G_icmp_gt hX 125 (by decide) dX8_modelFor_80 ?_ ?_
        · refine G_iincN hX 5 (fun x12 => [(5, .int x12), (0, .ref (cx_ad X 3)), (1, .int v1), (2, .int v2), (3, .int v3), (4, .int v4)]) rfl rfl (by decide) (fun _ => rfl) dX8_modelFor_125 (fun x12 => ?_)
          refine G_goto hX 32 (by decide) dX8_modelFor_128 ?_
          exact G_sub [1, 2, 3, 4, 5, 0] rfl (ih v1 v2 v3 v4 x12 μ)
        · refine G_aload_n hX 0 rfl rfl dX8_modelFor_83 ?_
          refine gf_X8_42_C3 hX dX8_modelFor_84 (fun b_13 hb_13 => ?_)
          refine gf_X8_121_B0 hX hb_13 dX8_modelFor_87 ?_
          refine G_iload hX 5 rfl dX8_modelFor_90 ?_
          refine G_aI hX (atB_24 hb_13) dX8_modelFor_92 (fun x14 => ?_)
          refine G_aload_n hX 0 rfl rfl dX8_modelFor_93 ?_
          refine gf_X8_42_C3 hX dX8_modelFor_94 (fun b_15 hb_15 => ?_)
          refine gf_X8_121_B0 hX hb_15 dX8_modelFor_97 ?_
          refine G_iload_n hX 1 rfl rfl dX8_modelFor_100 ?_
          refine G_aI hX (atB_24 hb_15) dX8_modelFor_101 (fun x16 => ?_)
          refine G_isub hX dX8_modelFor_102 ?_
          refine G_mabs hX lm_X8_115 ok_J9_abs_0f7a4.1 ok_J9_abs_0f7a4.2.1 ok_J9_abs_0f7a4.2.2.1 ⟨Nat.le_of_ble_eq_true rfl, Nat.le_of_ble_eq_true rfl⟩ (cs0 hcs) dX8_modelFor_103 ?_
          refine G_nmi (fun x17 => ?_)
          refine G_istore hX [(6, .int x17), (0, .ref (cx_ad X 3)), (1, .int v1), (2, .int v2), (3, .int v3), (4, .int v4), (5, .int v5)] (by decide) rfl dX8_modelFor_106 ?_
          refine G_iload_n hX 3 rfl rfl dX8_modelFor_108 ?_
          refine G_iconst hX (-1 : Int32) rfl dX8_modelFor_109 ?_
          refine G_icmp_eq hX 119 (by decide) dX8_modelFor_110 ?_ ?_
          · refine G_iload hX 6 rfl dX8_modelFor_119 ?_
            refine G_istore_n hX [(2, .int v5), (6, .int x17), (0, .ref (cx_ad X 3)), (1, .int v1), (3, .int v3), (4, .int v4), (5, .int v5)] rfl (by decide) rfl dX8_modelFor_121 ?_
            refine G_iload hX 1 rfl dX8_modelFor_122 ?_
            refine G_istore_n hX [(3, .int x17), (2, .int v5), (6, .int x17), (0, .ref (cx_ad X 3)), (1, .int v1), (4, .int v4), (5, .int v5)] rfl (by decide) rfl dX8_modelFor_124 ?_
            refine G_iincN hX 6 (fun x18 => [(5, .int x18), (3, .int x17), (2, .int v5), (6, .int x17), (0, .ref (cx_ad X 3)), (1, .int v1), (4, .int v4)]) rfl rfl (by decide) (fun _ => rfl) dX8_modelFor_125 (fun x18 => ?_)
            refine G_goto hX 32 (by decide) dX8_modelFor_128 ?_
            exact G_sub [4, 5, 2, 1, 6, 0] rfl (ih v1 v5 x17 v4 x18 μ)
          · refine G_iload hX 0 rfl dX8_modelFor_113 ?_
            refine G_iload_n hX 4 rfl rfl dX8_modelFor_115 ?_
            refine G_icmp_ge hX 125 (by decide) dX8_modelFor_116 ?_ ?_
            · refine G_iincN hX 6 (fun x19 => [(5, .int x19), (6, .int x17), (0, .ref (cx_ad X 3)), (1, .int v1), (2, .int v2), (3, .int v3), (4, .int v4)]) rfl rfl (by decide) (fun _ => rfl) dX8_modelFor_125 (fun x19 => ?_)
              refine G_goto hX 32 (by decide) dX8_modelFor_128 ?_
              exact G_sub [2, 3, 4, 5, 6, 0] rfl (ih v1 v2 v3 v4 x19 μ)
            · refine G_iload hX 6 rfl dX8_modelFor_119 ?_
              refine G_istore_n hX [(2, .int v5), (6, .int x17), (0, .ref (cx_ad X 3)), (1, .int v1), (3, .int v3), (4, .int v4), (5, .int v5)] rfl (by decide) rfl dX8_modelFor_121 ?_
              refine G_iload hX 1 rfl dX8_modelFor_122 ?_
              refine G_istore_n hX [(3, .int x17), (2, .int v5), (6, .int x17), (0, .ref (cx_ad X 3)), (1, .int v1), (4, .int v4), (5, .int v5)] rfl (by decide) rfl dX8_modelFor_124 ?_
              refine G_iincN hX 6 (fun x20 => [(5, .int x20), (3, .int x17), (2, .int v5), (6, .int x17), (0, .ref (cx_ad X 3)), (1, .int v1), (4, .int v4)]) rfl rfl (by decide) (fun _ => rfl) dX8_modelFor_125 (fun x20 => ?_)
              refine G_goto hX 32 (by decide) dX8_modelFor_128 ?_
              exact G_sub [4, 5, 2, 1, 6, 0] rfl (ih v1 v5 x17 v4 x20 μ)
set_option maxHeartbeats 4000000 in
set_option maxRecDepth 100000 in
theorem gX8_modelFor_E {X : Ctx} {z : Int32 × Mem} (hX : Fx wC X cX8_modelFor 7 RX8 (some .int) (rmo 1 24)) (hQ : Qx_i wC X z) (hcs : cx_cells X = 0 ∧ cx_slots X = 0) (N : Nat) (p0 : Int32) (μ : Mem) : G wC X z 0 [(0, .ref (cx_ad X 3)), (1, .int p0)] [] μ (fX8_modelFor N p0 μ) := by
  unfold fX8_modelFor
  refine G_aload_n hX 0 rfl rfl dX8_modelFor_0 ?_
  refine gf_X8_29_C3 hX dX8_modelFor_1 ?_
  refine G_iload_n hX 1 rfl rfl dX8_modelFor_4 ?_
  refine G_aZ hX atC15 dX8_modelFor_5 (fun x1 => ?_)
  refine G_if_eq hX 11 (by decide) dX8_modelFor_6 ?_ ?_
  · refine G_iconst hX (-1 : Int32) rfl dX8_modelFor_11 ?_
    refine G_istore_n hX [(2, .int (-1 : Int32)), (0, .ref (cx_ad X 3)), (1, .int p0)] rfl (by decide) rfl dX8_modelFor_12 ?_
    refine G_iconst hX (0 : Int32) rfl dX8_modelFor_13 ?_
    refine G_istore_n hX [(3, .int (0 : Int32)), (2, .int (-1 : Int32)), (0, .ref (cx_ad X 3)), (1, .int p0)] rfl (by decide) rfl dX8_modelFor_14 ?_
    refine G_aload_n hX 2 rfl rfl dX8_modelFor_15 ?_
    refine gf_X8_42_C3 hX dX8_modelFor_16 (fun b_2 hb_2 => ?_)
    refine G_aload_n hX 2 rfl rfl dX8_modelFor_19 ?_
    refine gf_X8_46_C3 hX dX8_modelFor_20 ?_
    refine G_nmi (fun x3 => ?_)
    refine G_iload_n hX 3 rfl rfl dX8_modelFor_23 ?_
    refine G_cVi hX b_2 1 (fun ad adK => [.int x3, .int p0]) [] (fun z2 h2 => cX1_costOf_ok (cx_l X) N b_2 x3 p0 μ z2 h2) ok_X1_costOf lm_X8_94 (atB_0 hb_2).1 (atB_0 hb_2).2 rfl rfl (fun _ _ => rfl) (Nat.le_of_ble_eq_true rfl) ⟨rfl, rfl, by decide, by decide⟩ (cs0 hcs) dX8_modelFor_24 (fun r4 μ => ?_)
    refine G_istore hX [(4, .int r4), (3, .int (0 : Int32)), (2, .int (-1 : Int32)), (0, .ref (cx_ad X 3)), (1, .int p0)] (by decide) rfl dX8_modelFor_27 ?_
    refine G_iconst hX (0 : Int32) rfl dX8_modelFor_29 ?_
    refine G_istore hX [(5, .int (0 : Int32)), (4, .int r4), (3, .int (0 : Int32)), (2, .int (-1 : Int32)), (0, .ref (cx_ad X 3)), (1, .int p0)] (by decide) rfl dX8_modelFor_30 ?_
    exact G_sub [4, 5, 3, 2, 1, 0] rfl (gX8_modelFor_32 hX hQ hcs N N p0 (-1 : Int32) (0 : Int32) r4 (0 : Int32) μ)
  · refine G_iload_n hX 1 rfl rfl dX8_modelFor_9 ?_
    exact G_iret hX hQ dX8_modelFor_10
theorem cX8_modelFor_ok (l : Launch) (N : Nat) (p0 : Int32) (μ : Mem) (z : Int32 × Mem) (h : fX8_modelFor N p0 μ = some z) : Mi wC l yX8_modelFor cX8_modelFor 7 .int (rmo 1 24) (fun ad adK => [.ref (ad 3), .int p0]) μ z := Mi.of h (by decide +kernel) (fun _ _ => Nat.le_of_ble_eq_true rfl) (fun X hX hQ hl hcs => gX8_modelFor_E hX hQ hcs N p0 μ)
/-! ===== DutyCase$Study.levelFor(II)I ===== -/
set_option maxHeartbeats 4000000 in
set_option maxRecDepth 100000 in
theorem gX8_levelFor_5 {X : Ctx} {z : Int32 × Mem} (hX : Fx wC X cX8_levelFor 5 RX8 (some .int) (rmo 1 24)) (hQ : Qx_i wC X z) (hcs : cx_cells X = 0 ∧ cx_slots X = 0) (N : Nat) : ∀ (n : Nat) (v1 : Int32) (v2 : Int32) (v3 : Int32) (v4 : Int32) (μ : Mem), G wC X z 5 [(0, .ref (cx_ad X 3)), (1, .int v1), (2, .int v2), (3, .int v3), (4, .int v4)] [] μ (fX8_levelFor_5 N n v1 v2 v3 v4 μ) := by
  intro n
  induction n with
  | zero =>
    intro v1 v2 v3 v4 μ
    exact G_none
  | succ n ih =>
    intro v1 v2 v3 v4 μ
    unfold fX8_levelFor_5
    refine G_iload_n hX 1 rfl rfl dX8_levelFor_5 ?_
    refine G_iconst hX (-1 : Int32) rfl dX8_levelFor_6 ?_
    refine G_icmp_eq hX 60 (by decide) dX8_levelFor_7 ?_ ?_
    · refine G_iload_n hX 3 rfl rfl dX8_levelFor_60 ?_
      exact G_iret hX hQ dX8_levelFor_61
    · refine G_iload hX 4 rfl dX8_levelFor_10 ?_
      refine G_iconst hX (4 : Int32) rfl dX8_levelFor_12 ?_
      refine G_icmp_ge hX 60 (by decide) dX8_levelFor_13 ?_ ?_
      · refine G_iload_n hX 3 rfl rfl dX8_levelFor_60 ?_
        exact G_iret hX hQ dX8_levelFor_61
      · refine G_aload_n hX 0 rfl rfl dX8_levelFor_16 ?_
        refine gf_X8_32_C3 hX dX8_levelFor_17 ?_
        refine G_iload_n hX 1 rfl rfl dX8_levelFor_20 ?_
        refine G_iconst hX (4 : Int32) rfl dX8_levelFor_21 ?_
        refine G_imul hX dX8_levelFor_22 ?_
        refine G_iload hX 4 rfl dX8_levelFor_23 ?_
        refine G_iadd hX dX8_levelFor_25 ?_
        refine G_aI hX atC16 dX8_levelFor_26 (fun x1 => ?_)
        refine G_if_le hX 54 (by decide) dX8_levelFor_27 ?_ ?_
        · refine G_iincN hX 4 (fun x2 => [(4, .int x2), (0, .ref (cx_ad X 3)), (1, .int v1), (2, .int v2), (3, .int v3)]) rfl rfl (by decide) (fun _ => rfl) dX8_levelFor_54 (fun x2 => ?_)
          refine G_goto hX 5 (by decide) dX8_levelFor_57 ?_
          exact G_sub [1, 2, 3, 4, 0] rfl (ih v1 v2 v3 x2 μ)
        · refine G_iload_n hX 3 rfl rfl dX8_levelFor_30 ?_
          refine G_iconst hX (-1 : Int32) rfl dX8_levelFor_31 ?_
          refine G_icmp_eq hX 51 (by decide) dX8_levelFor_32 ?_ ?_
          · refine G_iload hX 4 rfl dX8_levelFor_51 ?_
            refine G_istore_n hX [(3, .int v4), (0, .ref (cx_ad X 3)), (1, .int v1), (2, .int v2), (4, .int v4)] rfl (by decide) rfl dX8_levelFor_53 ?_
            refine G_iincN hX 4 (fun x3 => [(4, .int x3), (3, .int v4), (0, .ref (cx_ad X 3)), (1, .int v1), (2, .int v2)]) rfl rfl (by decide) (fun _ => rfl) dX8_levelFor_54 (fun x3 => ?_)
            refine G_goto hX 5 (by decide) dX8_levelFor_57 ?_
            exact G_sub [2, 3, 4, 1, 0] rfl (ih v1 v2 v4 x3 μ)
          · refine G_iload hX 4 rfl dX8_levelFor_35 ?_
            refine G_iload_n hX 2 rfl rfl dX8_levelFor_37 ?_
            refine G_isub hX dX8_levelFor_38 ?_
            refine G_mabs hX lm_X8_115 ok_J9_abs_0f7a4.1 ok_J9_abs_0f7a4.2.1 ok_J9_abs_0f7a4.2.2.1 ⟨Nat.le_of_ble_eq_true rfl, Nat.le_of_ble_eq_true rfl⟩ (cs0 hcs) dX8_levelFor_39 ?_
            refine G_iload_n hX 3 rfl rfl dX8_levelFor_42 ?_
            refine G_iload_n hX 2 rfl rfl dX8_levelFor_43 ?_
            refine G_isub hX dX8_levelFor_44 ?_
            refine G_mabs hX lm_X8_115 ok_J9_abs_0f7a4.1 ok_J9_abs_0f7a4.2.1 ok_J9_abs_0f7a4.2.2.1 ⟨Nat.le_of_ble_eq_true rfl, Nat.le_of_ble_eq_true rfl⟩ (cs0 hcs) dX8_levelFor_45 ?_
            refine G_icmp_ge hX 54 (by decide) dX8_levelFor_48 ?_ ?_
            · refine G_iincN hX 4 (fun x4 => [(4, .int x4), (0, .ref (cx_ad X 3)), (1, .int v1), (2, .int v2), (3, .int v3)]) rfl rfl (by decide) (fun _ => rfl) dX8_levelFor_54 (fun x4 => ?_)
              refine G_goto hX 5 (by decide) dX8_levelFor_57 ?_
              exact G_sub [1, 2, 3, 4, 0] rfl (ih v1 v2 v3 x4 μ)
            · refine G_iload hX 4 rfl dX8_levelFor_51 ?_
              refine G_istore_n hX [(3, .int v4), (0, .ref (cx_ad X 3)), (1, .int v1), (2, .int v2), (4, .int v4)] rfl (by decide) rfl dX8_levelFor_53 ?_
              refine G_iincN hX 4 (fun x5 => [(4, .int x5), (3, .int v4), (0, .ref (cx_ad X 3)), (1, .int v1), (2, .int v2)]) rfl rfl (by decide) (fun _ => rfl) dX8_levelFor_54 (fun x5 => ?_)
              refine G_goto hX 5 (by decide) dX8_levelFor_57 ?_
              exact G_sub [2, 3, 4, 1, 0] rfl (ih v1 v2 v4 x5 μ)
set_option maxHeartbeats 4000000 in
set_option maxRecDepth 100000 in
theorem gX8_levelFor_E {X : Ctx} {z : Int32 × Mem} (hX : Fx wC X cX8_levelFor 5 RX8 (some .int) (rmo 1 24)) (hQ : Qx_i wC X z) (hcs : cx_cells X = 0 ∧ cx_slots X = 0) (N : Nat) (p0 : Int32) (p1 : Int32) (μ : Mem) : G wC X z 0 [(0, .ref (cx_ad X 3)), (1, .int p0), (2, .int p1)] [] μ (fX8_levelFor N p0 p1 μ) := by
  unfold fX8_levelFor
  refine G_iconst hX (-1 : Int32) rfl dX8_levelFor_0 ?_
  refine G_istore_n hX [(3, .int (-1 : Int32)), (0, .ref (cx_ad X 3)), (1, .int p0), (2, .int p1)] rfl (by decide) rfl dX8_levelFor_1 ?_
  refine G_iconst hX (0 : Int32) rfl dX8_levelFor_2 ?_
  refine G_istore hX [(4, .int (0 : Int32)), (3, .int (-1 : Int32)), (0, .ref (cx_ad X 3)), (1, .int p0), (2, .int p1)] (by decide) rfl dX8_levelFor_3 ?_
  exact G_sub [2, 3, 4, 1, 0] rfl (gX8_levelFor_5 hX hQ hcs N N p0 p1 (-1 : Int32) (0 : Int32) μ)
theorem cX8_levelFor_ok (l : Launch) (N : Nat) (p0 : Int32) (p1 : Int32) (μ : Mem) (z : Int32 × Mem) (h : fX8_levelFor N p0 p1 μ = some z) : Mi wC l yX8_levelFor cX8_levelFor 5 .int (rmo 1 24) (fun ad adK => [.ref (ad 3), .int p0, .int p1]) μ z := Mi.of h (by decide +kernel) (fun _ _ => Nat.le_of_ble_eq_true rfl) (fun X hX hQ hl hcs => gX8_levelFor_E hX hQ hcs N p0 p1 μ)
/-! ===== DutyCase$Study.averageAt(III)J ===== -/
set_option maxHeartbeats 4000000 in
set_option maxRecDepth 100000 in
theorem gX8_averageAt_134 {X : Ctx} {z : Int64 × Mem} (hX : Fx wC X cX8_averageAt 12 RX8 (some .long) (rmo 1 21)) (hQ : Qx_l wC X z) (hcs : cx_cells X = 0 ∧ cx_slots X = 0) (N : Nat) (v4 : Int32) (v5 : Int64) (v8 : Int32) (v9 : Int64) (μ : Mem) : G wC X z 134 [(4, .int v4), (5, .long v5), (8, .int v8), (9, .long v9)] [] μ (fX8_averageAt_134 N v4 v5 v8 v9 μ) := by
  unfold fX8_averageAt_134
  refine G_iload hX 2 rfl dX8_averageAt_134 ?_
  refine G_if_le hX 146 (by decide) dX8_averageAt_136 ?_ ?_
  · refine G_iload hX 0 rfl dX8_averageAt_146 ?_
    refine G_if_le hX 160 (by decide) dX8_averageAt_148 ?_ ?_
    · refine G_lconst hX (0 : Int64) rfl dX8_averageAt_160 ?_
      exact G_lret hX hQ dX8_averageAt_161
    · refine G_lload hX 1 rfl dX8_averageAt_151 ?_
      refine G_iload hX 0 rfl dX8_averageAt_153 ?_
      refine G_i2l hX dX8_averageAt_155 ?_
      refine G_ldv hX dX8_averageAt_156 ?_
      refine G_goto hX 161 (by decide) dX8_averageAt_157 ?_
      exact G_lret hX hQ dX8_averageAt_161
  · refine G_lload hX 3 rfl dX8_averageAt_139 ?_
    refine G_iload hX 2 rfl dX8_averageAt_141 ?_
    refine G_i2l hX dX8_averageAt_143 ?_
    refine G_ldv hX dX8_averageAt_144 ?_
    exact G_lret hX hQ dX8_averageAt_145
set_option maxHeartbeats 4000000 in
set_option maxRecDepth 100000 in
theorem gX8_averageAt_42 {X : Ctx} {z : Int64 × Mem} (hX : Fx wC X cX8_averageAt 12 RX8 (some .long) (rmo 1 21)) (hQ : Qx_l wC X z) (hcs : cx_cells X = 0 ∧ cx_slots X = 0) (N : Nat) : ∀ (n : Nat) (b0 : Nat) (v1 : Int32) (v2 : Int32) (v3 : Int32) (v4 : Int32) (v5 : Int64) (v8 : Int32) (v9 : Int64) (v11 : Int32) (hb0 : kB b0) (μ : Mem), G wC X z 42 [(0, .ref (cx_ad X 3)), (1, .int v1), (2, .int v2), (3, .int v3), (4, .int v4), (5, .long v5), (7, .ref (cx_ad X (b0 + 12))), (8, .int v8), (9, .long v9), (11, .int v11)] [] μ (fX8_averageAt_42 N n b0 v1 v2 v3 v4 v5 v8 v9 v11 μ) := by
  intro n
  induction n with
  | zero =>
    intro b0 v1 v2 v3 v4 v5 v8 v9 v11 hb0 μ
    exact G_none
  | succ n ih =>
    intro b0 v1 v2 v3 v4 v5 v8 v9 v11 hb0 μ
    unfold fX8_averageAt_42
    refine G_iload_n hX 3 rfl rfl dX8_averageAt_42 ?_
    refine G_iconst hX (-1 : Int32) rfl dX8_averageAt_43 ?_
    refine G_icmp_eq hX 134 (by decide) dX8_averageAt_44 ?_ ?_
    · exact G_sub [4, 5, 7, 8] rfl (gX8_averageAt_134 hX hQ hcs N v4 v5 v8 v9 μ)
    · refine G_iload hX 9 rfl dX8_averageAt_47 ?_
      refine G_aload hX 6 rfl dX8_averageAt_49 ?_
      refine gf_X8_64_B12 hX hb0 dX8_averageAt_51 ?_
      refine G_nmi (fun x4 => ?_)
      refine G_icmp_ge hX 134 (by decide) dX8_averageAt_54 ?_ ?_
      · exact G_sub [4, 5, 7, 8] rfl (gX8_averageAt_134 hX hQ hcs N v4 v5 v8 v9 μ)
      · refine G_aload_n hX 0 rfl rfl dX8_averageAt_57 ?_
        refine gf_X8_22_C3 hX dX8_averageAt_58 ?_
        refine G_iload hX 9 rfl dX8_averageAt_61 ?_
        refine G_aZ hX atC14 dX8_averageAt_63 (fun x5 => ?_)
        refine G_if_eq hX 128 (by decide) dX8_averageAt_64 ?_ ?_
        · refine G_iincN hX 9 (fun x6 => [(11, .int x6), (0, .ref (cx_ad X 3)), (1, .int v1), (2, .int v2), (3, .int v3), (4, .int v4), (5, .long v5), (7, .ref (cx_ad X (b0 + 12))), (8, .int v8), (9, .long v9)]) rfl rfl (by decide) (fun _ => rfl) dX8_averageAt_128 (fun x6 => ?_)
          refine G_goto hX 42 (by decide) dX8_averageAt_131 ?_
          exact G_sub [1, 2, 3, 4, 5, 6, 7, 8, 9, 0] rfl (ih b0 v1 v2 v3 v4 v5 v8 v9 x6 hb0 μ)
        · refine G_aload hX 6 rfl dX8_averageAt_67 ?_
          refine gf_X8_84_B12 hX hb0 dX8_averageAt_69 ?_
          refine G_iload hX 9 rfl dX8_averageAt_72 ?_
          refine G_aI hX (atB_15 hb0) dX8_averageAt_74 (fun x7 => ?_)
          refine G_iload_n hX 1 rfl rfl dX8_averageAt_75 ?_
          refine G_icmp_ne hX 128 (by decide) dX8_averageAt_76 ?_ ?_
          · refine G_iincN hX 9 (fun x8 => [(11, .int x8), (0, .ref (cx_ad X 3)), (1, .int v1), (2, .int v2), (3, .int v3), (4, .int v4), (5, .long v5), (7, .ref (cx_ad X (b0 + 12))), (8, .int v8), (9, .long v9)]) rfl rfl (by decide) (fun _ => rfl) dX8_averageAt_128 (fun x8 => ?_)
            refine G_goto hX 42 (by decide) dX8_averageAt_131 ?_
            exact G_sub [1, 2, 3, 4, 5, 6, 7, 8, 9, 0] rfl (ih b0 v1 v2 v3 v4 v5 v8 v9 x8 hb0 μ)
          · refine G_aload hX 6 rfl dX8_averageAt_79 ?_
            refine gf_X8_101_B12 hX hb0 dX8_averageAt_81 ?_
            refine G_iload hX 9 rfl dX8_averageAt_84 ?_
            refine G_aI hX (atB_16 hb0) dX8_averageAt_86 (fun x9 => ?_)
            refine G_iload_n hX 2 rfl rfl dX8_averageAt_87 ?_
            refine G_icmp_ne hX 128 (by decide) dX8_averageAt_88 ?_ ?_
            · refine G_iincN hX 9 (fun x10 => [(11, .int x10), (0, .ref (cx_ad X 3)), (1, .int v1), (2, .int v2), (3, .int v3), (4, .int v4), (5, .long v5), (7, .ref (cx_ad X (b0 + 12))), (8, .int v8), (9, .long v9)]) rfl rfl (by decide) (fun _ => rfl) dX8_averageAt_128 (fun x10 => ?_)
              refine G_goto hX 42 (by decide) dX8_averageAt_131 ?_
              exact G_sub [1, 2, 3, 4, 5, 6, 7, 8, 9, 0] rfl (ih b0 v1 v2 v3 v4 v5 v8 v9 x10 hb0 μ)
            · refine G_aload hX 6 rfl dX8_averageAt_91 ?_
              refine gf_X8_143_B12 hX hb0 dX8_averageAt_93 ?_
              refine G_iload hX 9 rfl dX8_averageAt_96 ?_
              refine G_aI hX (atB_17 hb0) dX8_averageAt_98 (fun x11 => ?_)
              refine G_iload_n hX 3 rfl rfl dX8_averageAt_99 ?_
              refine G_icmp_ne hX 128 (by decide) dX8_averageAt_100 ?_ ?_
              · refine G_iincN hX 9 (fun x12 => [(11, .int x12), (0, .ref (cx_ad X 3)), (1, .int v1), (2, .int v2), (3, .int v3), (4, .int v4), (5, .long v5), (7, .ref (cx_ad X (b0 + 12))), (8, .int v8), (9, .long v9)]) rfl rfl (by decide) (fun _ => rfl) dX8_averageAt_128 (fun x12 => ?_)
                refine G_goto hX 42 (by decide) dX8_averageAt_131 ?_
                exact G_sub [1, 2, 3, 4, 5, 6, 7, 8, 9, 0] rfl (ih b0 v1 v2 v3 v4 v5 v8 v9 x12 hb0 μ)
              · refine G_iload hX 7 rfl dX8_averageAt_103 ?_
                refine G_aload hX 6 rfl dX8_averageAt_105 ?_
                refine gf_X8_77_B12 hX hb0 dX8_averageAt_107 ?_
                refine G_iload hX 9 rfl dX8_averageAt_110 ?_
                refine G_aI hX (atB_18 hb0) dX8_averageAt_112 (fun x13 => ?_)
                refine G_iadd hX dX8_averageAt_113 ?_
                refine G_nmi (fun x14 => ?_)
                refine G_istore hX [(8, .int x14), (0, .ref (cx_ad X 3)), (1, .int v1), (2, .int v2), (3, .int v3), (4, .int v4), (5, .long v5), (7, .ref (cx_ad X (b0 + 12))), (9, .long v9), (11, .int v11)] (by decide) rfl dX8_averageAt_114 ?_
                refine G_lload hX 8 rfl dX8_averageAt_116 ?_
                refine G_aload hX 7 rfl dX8_averageAt_118 ?_
                refine G_iload hX 9 rfl dX8_averageAt_120 ?_
                refine G_cVl hX (b0 + 12) 7 (fun ad adK => [.int v11]) [.long v9] (fun z2 h2 => cX7_valueAt_ok (cx_l X) N (b0 + 12) v11 μ z2 h2) ok_X7_valueAt lm_X8_104 (atB_12 hb0).1 (atB_12 hb0).2 rfl rfl (fun _ _ => rfl) (Nat.le_of_ble_eq_true rfl) ⟨rfl, rfl, by decide, by decide⟩ (cs0 hcs) dX8_averageAt_122 (fun r15 μ => ?_)
                refine G_ladd hX dX8_averageAt_125 ?_
                refine G_nml (fun x16 => ?_)
                refine G_lstore hX [(9, .long x16), (8, .int x14), (0, .ref (cx_ad X 3)), (1, .int v1), (2, .int v2), (3, .int v3), (4, .int v4), (5, .long v5), (7, .ref (cx_ad X (b0 + 12))), (11, .int v11)] (by decide) rfl dX8_averageAt_126 ?_
                refine G_iincN hX 9 (fun x17 => [(11, .int x17), (9, .long x16), (8, .int x14), (0, .ref (cx_ad X 3)), (1, .int v1), (2, .int v2), (3, .int v3), (4, .int v4), (5, .long v5), (7, .ref (cx_ad X (b0 + 12)))]) rfl rfl (by decide) (fun _ => rfl) dX8_averageAt_128 (fun x17 => ?_)
                refine G_goto hX 42 (by decide) dX8_averageAt_131 ?_
                exact G_sub [3, 4, 5, 6, 7, 8, 9, 2, 1, 0] rfl (ih b0 v1 v2 v3 v4 v5 x14 x16 x17 hb0 μ)
set_option maxHeartbeats 4000000 in
set_option maxRecDepth 100000 in
theorem gX8_averageAt_E {X : Ctx} {z : Int64 × Mem} (hX : Fx wC X cX8_averageAt 12 RX8 (some .long) (rmo 1 21)) (hQ : Qx_l wC X z) (hcs : cx_cells X = 0 ∧ cx_slots X = 0) (N : Nat) (p0 : Int32) (p1 : Int32) (p2 : Int32) (μ : Mem) : G wC X z 0 [(0, .ref (cx_ad X 3)), (1, .int p0), (2, .int p1), (3, .int p2)] [] μ (fX8_averageAt N p0 p1 p2 μ) := by
  unfold fX8_averageAt
  refine G_aload_n hX 0 rfl rfl dX8_averageAt_0 ?_
  refine gf_X8_32_C3 hX dX8_averageAt_1 ?_
  refine G_iload_n hX 1 rfl rfl dX8_averageAt_4 ?_
  refine G_iconst hX (4 : Int32) rfl dX8_averageAt_5 ?_
  refine G_imul hX dX8_averageAt_6 ?_
  refine G_iload_n hX 2 rfl rfl dX8_averageAt_7 ?_
  refine G_iadd hX dX8_averageAt_8 ?_
  refine G_aI hX atC16 dX8_averageAt_9 (fun x1 => ?_)
  refine G_istore hX [(4, .int x1), (0, .ref (cx_ad X 3)), (1, .int p0), (2, .int p1), (3, .int p2)] (by decide) rfl dX8_averageAt_10 ?_
  refine G_aload_n hX 1 rfl rfl dX8_averageAt_12 ?_
  refine gf_X8_35_C3 hX dX8_averageAt_13 ?_
  refine G_iload_n hX 2 rfl rfl dX8_averageAt_16 ?_
  refine G_iconst hX (4 : Int32) rfl dX8_averageAt_17 ?_
  refine G_imul hX dX8_averageAt_18 ?_
  refine G_iload_n hX 3 rfl rfl dX8_averageAt_19 ?_
  refine G_iadd hX dX8_averageAt_20 ?_
  refine G_aL hX atC17 dX8_averageAt_21 (fun x2 => ?_)
  refine G_lstore hX [(5, .long x2), (4, .int x1), (0, .ref (cx_ad X 3)), (1, .int p0), (2, .int p1), (3, .int p2)] (by decide) rfl dX8_averageAt_22 ?_
  refine G_aload_n hX 2 rfl rfl dX8_averageAt_24 ?_
  refine gf_X8_42_C3 hX dX8_averageAt_25 (fun b_3 hb_3 => ?_)
  refine gf_X8_58_B0 hX hb_3 dX8_averageAt_28 ?_
  refine G_astore hX [(7, .ref (cx_ad X (b_3 + 12))), (5, .long x2), (4, .int x1), (0, .ref (cx_ad X 3)), (1, .int p0), (2, .int p1), (3, .int p2)] (by decide) rfl dX8_averageAt_31 ?_
  refine G_iconst hX (0 : Int32) rfl dX8_averageAt_33 ?_
  refine G_istore hX [(8, .int (0 : Int32)), (7, .ref (cx_ad X (b_3 + 12))), (5, .long x2), (4, .int x1), (0, .ref (cx_ad X 3)), (1, .int p0), (2, .int p1), (3, .int p2)] (by decide) rfl dX8_averageAt_34 ?_
  refine G_lconst hX (0 : Int64) rfl dX8_averageAt_36 ?_
  refine G_lstore hX [(9, .long (0 : Int64)), (8, .int (0 : Int32)), (7, .ref (cx_ad X (b_3 + 12))), (5, .long x2), (4, .int x1), (0, .ref (cx_ad X 3)), (1, .int p0), (2, .int p1), (3, .int p2)] (by decide) rfl dX8_averageAt_37 ?_
  refine G_iconst hX (0 : Int32) rfl dX8_averageAt_39 ?_
  refine G_istore hX [(11, .int (0 : Int32)), (9, .long (0 : Int64)), (8, .int (0 : Int32)), (7, .ref (cx_ad X (b_3 + 12))), (5, .long x2), (4, .int x1), (0, .ref (cx_ad X 3)), (1, .int p0), (2, .int p1), (3, .int p2)] (by decide) rfl dX8_averageAt_40 ?_
  exact G_sub [6, 7, 8, 9, 5, 4, 3, 2, 1, 0] rfl (gX8_averageAt_42 hX hQ hcs N N b_3 p0 p1 p2 x1 x2 (0 : Int32) (0 : Int64) (0 : Int32) hb_3 μ)
theorem cX8_averageAt_ok (l : Launch) (N : Nat) (p0 : Int32) (p1 : Int32) (p2 : Int32) (μ : Mem) (z : Int64 × Mem) (h : fX8_averageAt N p0 p1 p2 μ = some z) : Ml wC l yX8_averageAt cX8_averageAt 12 .long (rmo 1 21) (fun ad adK => [.ref (ad 3), .int p0, .int p1, .int p2]) μ z := Ml.of h (by decide +kernel) (fun _ _ => Nat.le_of_ble_eq_true rfl) (fun X hX hQ hl hcs => gX8_averageAt_E hX hQ hcs N p0 p1 p2 μ)
/-! ===== DutyCase$Study.worthAt(III)J ===== -/
set_option maxHeartbeats 4000000 in
set_option maxRecDepth 100000 in
theorem gX8_worthAt_42 {X : Ctx} {z : Int64 × Mem} (hX : Fx wC X cX8_worthAt 8 RX8 (some .long) (rmo 2 52)) (hQ : Qx_l wC X z) (hcs : cx_cells X = 0 ∧ cx_slots X = 0) (N : Nat) (v4 : Int32) (μ : Mem) : G wC X z 42 [(0, .ref (cx_ad X 3)), (4, .int v4)] [] μ (fX8_worthAt_42 N v4 μ) := by
  unfold fX8_worthAt_42
  refine G_ldc2 hX lc_X8_130 dX8_worthAt_42 ?_
  refine G_iload hX 1 rfl dX8_worthAt_45 ?_
  refine G_iload hX 1 rfl dX8_worthAt_47 ?_
  refine G_aload_n hX 0 rfl rfl dX8_worthAt_49 ?_
  refine gf_X8_42_C3 hX dX8_worthAt_50 (fun b_13 hb_13 => ?_)
  refine gf_X8_132_B0 hX hb_13 dX8_worthAt_53 ?_
  refine G_iconst hX (4 : Int32) rfl dX8_worthAt_56 ?_
  refine G_aI hX (atB_28 hb_13) dX8_worthAt_57 (fun x14 => ?_)
  refine G_imul hX dX8_worthAt_58 ?_
  refine G_bipush hX (100 : Int32) rfl dX8_worthAt_59 ?_
  refine G_idiv0 hX (by decide) dX8_worthAt_61 ?_
  refine G_iadd hX dX8_worthAt_62 ?_
  refine G_i2l hX dX8_worthAt_63 ?_
  refine G_lmul hX dX8_worthAt_64 ?_
  exact G_lret hX hQ dX8_worthAt_65
set_option maxHeartbeats 4000000 in
set_option maxRecDepth 100000 in
theorem gX8_worthAt_E {X : Ctx} {z : Int64 × Mem} (hX : Fx wC X cX8_worthAt 8 RX8 (some .long) (rmo 2 52)) (hQ : Qx_l wC X z) (hcs : cx_cells X = 0 ∧ cx_slots X = 0) (N : Nat) (p0 : Int32) (p1 : Int32) (p2 : Int32) (μ : Mem) : G wC X z 0 [(0, .ref (cx_ad X 3)), (1, .int p0), (2, .int p1), (3, .int p2)] [] μ (fX8_worthAt N p0 p1 p2 μ) := by
  unfold fX8_worthAt
  refine G_aload_n hX 0 rfl rfl dX8_worthAt_0 ?_
  refine gf_X8_42_C3 hX dX8_worthAt_1 (fun b_1 hb_1 => ?_)
  refine G_aload_n hX 0 rfl rfl dX8_worthAt_4 ?_
  refine gf_X8_46_C3 hX dX8_worthAt_5 ?_
  refine G_nmi (fun x2 => ?_)
  refine G_iload_n hX 1 rfl rfl dX8_worthAt_8 ?_
  refine G_cVi hX b_1 1 (fun ad adK => [.int x2, .int p0]) [] (fun z2 h2 => cX1_costOf_ok (cx_l X) N b_1 x2 p0 μ z2 h2) ok_X1_costOf lm_X8_94 (atB_0 hb_1).1 (atB_0 hb_1).2 rfl rfl (fun _ _ => rfl) (Nat.le_of_ble_eq_true rfl) ⟨rfl, rfl, by decide, by decide⟩ (cs0 hcs) dX8_worthAt_9 (fun r3 μ => ?_)
  refine G_istore hX [(4, .int r3), (0, .ref (cx_ad X 3)), (1, .int p0), (2, .int p1), (3, .int p2)] (by decide) rfl dX8_worthAt_12 ?_
  refine G_aload_n hX 1 rfl rfl dX8_worthAt_14 ?_
  refine G_iload_n hX 2 rfl rfl dX8_worthAt_15 ?_
  refine G_cVi hX 3 8 (fun ad adK => [.int p0]) [] (fun z2 h2 => cX8_modelFor_ok (cx_l X) N p0 μ z2 h2) ok_X8_modelFor lm_X8_124 atC3.1 atC3.2 rfl rfl (fun _ _ => rfl) (Nat.le_of_ble_eq_true rfl) ⟨rfl, rfl, by decide, by decide⟩ (cs0 hcs) dX8_worthAt_16 (fun r4 μ => ?_)
  refine G_istore hX [(5, .int r4), (4, .int r3), (0, .ref (cx_ad X 3)), (1, .int p0), (2, .int p1), (3, .int p2)] (by decide) rfl dX8_worthAt_19 ?_
  refine G_aload_n hX 2 rfl rfl dX8_worthAt_21 ?_
  refine G_iload hX 0 rfl dX8_worthAt_22 ?_
  refine G_iload_n hX 4 rfl rfl dX8_worthAt_24 ?_
  refine G_cVi hX 3 8 (fun ad adK => [.int r4, .int p1]) [] (fun z2 h2 => cX8_levelFor_ok (cx_l X) N r4 p1 μ z2 h2) ok_X8_levelFor lm_X8_127 atC3.1 atC3.2 rfl rfl (fun _ _ => rfl) (Nat.le_of_ble_eq_true rfl) ⟨rfl, rfl, by decide, by decide⟩ (cs0 hcs) dX8_worthAt_25 (fun r5 μ => ?_)
  refine G_istore hX [(6, .int r5), (5, .int r4), (4, .int r3), (0, .ref (cx_ad X 3)), (1, .int p0), (2, .int p1), (3, .int p2)] (by decide) rfl dX8_worthAt_28 ?_
  refine G_iload hX 1 rfl dX8_worthAt_30 ?_
  refine G_iconst hX (-1 : Int32) rfl dX8_worthAt_32 ?_
  refine G_icmp_eq hX 42 (by decide) dX8_worthAt_33 ?_ ?_
  · exact G_sub [3, 2] rfl (gX8_worthAt_42 hX hQ hcs N r3 μ)
  · refine G_iload hX 0 rfl dX8_worthAt_36 ?_
    refine G_iconst hX (-1 : Int32) rfl dX8_worthAt_38 ?_
    refine G_icmp_ne hX 66 (by decide) dX8_worthAt_39 ?_ ?_
    · refine G_aload_n hX 3 rfl rfl dX8_worthAt_66 ?_
      refine gf_X8_42_C3 hX dX8_worthAt_67 (fun b_6 hb_6 => ?_)
      refine gf_X8_132_B0 hX hb_6 dX8_worthAt_70 ?_
      refine G_iconst hX (5 : Int32) rfl dX8_worthAt_73 ?_
      refine G_aI hX (atB_28 hb_6) dX8_worthAt_74 (fun x7 => ?_)
      refine G_iload_n hX 5 rfl rfl dX8_worthAt_75 ?_
      refine G_iload hX 0 rfl dX8_worthAt_76 ?_
      refine G_isub hX dX8_worthAt_78 ?_
      refine G_imul hX dX8_worthAt_79 ?_
      refine G_iload hX 2 rfl dX8_worthAt_80 ?_
      refine G_iadd hX dX8_worthAt_82 ?_
      refine G_aload_n hX 3 rfl rfl dX8_worthAt_83 ?_
      refine gf_X8_42_C3 hX dX8_worthAt_84 (fun b_8 hb_8 => ?_)
      refine G_aload_n hX 3 rfl rfl dX8_worthAt_87 ?_
      refine gf_X8_46_C3 hX dX8_worthAt_88 ?_
      refine G_nmi (fun x9 => ?_)
      refine G_iload hX 1 rfl dX8_worthAt_91 ?_
      refine G_cVi hX b_8 1 (fun ad adK => [.int x9, .int r4]) [.int ((x7 * (p1 - r5)) + r3)] (fun z2 h2 => cX1_costOf_ok (cx_l X) N b_8 x9 r4 μ z2 h2) ok_X1_costOf lm_X8_94 (atB_0 hb_8).1 (atB_0 hb_8).2 rfl rfl (fun _ _ => rfl) (Nat.le_of_ble_eq_true rfl) ⟨rfl, rfl, by decide, by decide⟩ (cs0 hcs) dX8_worthAt_93 (fun r10 μ => ?_)
      refine G_isub hX dX8_worthAt_96 ?_
      refine G_nmi (fun x11 => ?_)
      refine G_istore hX [(7, .int x11), (6, .int r5), (5, .int r4), (4, .int r3), (0, .ref (cx_ad X 3)), (1, .int p0), (2, .int p1), (3, .int p2)] (by decide) rfl dX8_worthAt_97 ?_
      refine G_lconst hX (0 : Int64) rfl dX8_worthAt_99 ?_
      refine G_aload_n hX 4 rfl rfl dX8_worthAt_100 ?_
      refine G_iload hX 2 rfl dX8_worthAt_101 ?_
      refine G_iload hX 1 rfl dX8_worthAt_103 ?_
      refine G_iload_n hX 7 rfl rfl dX8_worthAt_105 ?_
      refine G_cVl hX 3 8 (fun ad adK => [.int r4, .int r5, .int p2]) [.long (0 : Int64)] (fun z2 h2 => cX8_averageAt_ok (cx_l X) N r4 r5 p2 μ z2 h2) ok_X8_averageAt lm_X8_135 atC3.1 atC3.2 rfl rfl (fun _ _ => rfl) (Nat.le_of_ble_eq_true rfl) ⟨rfl, rfl, by decide, by decide⟩ (cs0 hcs) dX8_worthAt_106 (fun r12 μ => ?_)
      refine G_ldc2 hX lc_X8_130 dX8_worthAt_109 ?_
      refine G_iload hX 0 rfl dX8_worthAt_112 ?_
      refine G_i2l hX dX8_worthAt_114 ?_
      refine G_lmul hX dX8_worthAt_115 ?_
      refine G_ladd hX dX8_worthAt_116 ?_
      refine G_mmaxL hX lm_X8_139 ok_J9_max_f86c9.1 ok_J9_max_f86c9.2.1 ok_J9_max_f86c9.2.2.1 ⟨Nat.le_of_ble_eq_true rfl, Nat.le_of_ble_eq_true rfl⟩ (cs0 hcs) dX8_worthAt_117 ?_
      exact G_lret hX hQ dX8_worthAt_120
    · exact G_sub [3, 2] rfl (gX8_worthAt_42 hX hQ hcs N r3 μ)
theorem cX8_worthAt_ok (l : Launch) (N : Nat) (p0 : Int32) (p1 : Int32) (p2 : Int32) (μ : Mem) (z : Int64 × Mem) (h : fX8_worthAt N p0 p1 p2 μ = some z) : Ml wC l yX8_worthAt cX8_worthAt 8 .long (rmo 2 52) (fun ad adK => [.ref (ad 3), .int p0, .int p1, .int p2]) μ z := Ml.of h (by decide +kernel) (fun _ _ => Nat.le_of_ble_eq_true rfl) (fun X hX hQ hl hcs => gX8_worthAt_E hX hQ hcs N p0 p1 p2 μ)
/-! ===== DutyCase$Study.apart(II)I ===== -/
set_option maxHeartbeats 4000000 in
set_option maxRecDepth 100000 in
theorem gX8_apart_E {X : Ctx} {z : Int32 × Mem} (hX : Fx wC X cX8_apart 7 RX8 (some .int) (rmo 1 24)) (hQ : Qx_i wC X z) (hcs : cx_cells X = 0 ∧ cx_slots X = 0) (N : Nat) (p0 : Int32) (p1 : Int32) (μ : Mem) : G wC X z 0 [(0, .ref (cx_ad X 3)), (1, .int p0), (2, .int p1)] [] μ (fX8_apart N p0 p1 μ) := by
  unfold fX8_apart
  refine G_aload_n hX 0 rfl rfl dX8_apart_0 ?_
  refine gf_X8_42_C3 hX dX8_apart_1 (fun b_1 hb_1 => ?_)
  refine gf_X8_58_B0 hX hb_1 dX8_apart_4 ?_
  refine G_astore_n hX [(3, .ref (cx_ad X (b_1 + 12))), (0, .ref (cx_ad X 3)), (1, .int p0), (2, .int p1)] rfl (by decide) rfl dX8_apart_7 ?_
  refine G_aload_n hX 0 rfl rfl dX8_apart_8 ?_
  refine gf_X8_101_B12 hX hb_1 dX8_apart_9 ?_
  refine G_iload_n hX 2 rfl rfl dX8_apart_12 ?_
  refine G_aI hX (atB_16 hb_1) dX8_apart_13 (fun x2 => ?_)
  refine G_aload_n hX 0 rfl rfl dX8_apart_14 ?_
  refine gf_X8_101_B12 hX hb_1 dX8_apart_15 ?_
  refine G_iload_n hX 3 rfl rfl dX8_apart_18 ?_
  refine G_aI hX (atB_16 hb_1) dX8_apart_19 (fun x3 => ?_)
  refine G_isub hX dX8_apart_20 ?_
  refine G_mabs hX lm_X8_115 ok_J9_abs_0f7a4.1 ok_J9_abs_0f7a4.2.1 ok_J9_abs_0f7a4.2.2.1 ⟨Nat.le_of_ble_eq_true rfl, Nat.le_of_ble_eq_true rfl⟩ (cs0 hcs) dX8_apart_21 ?_
  refine G_nmi (fun x4 => ?_)
  refine G_istore hX [(4, .int x4), (3, .ref (cx_ad X (b_1 + 12))), (0, .ref (cx_ad X 3)), (1, .int p0), (2, .int p1)] (by decide) rfl dX8_apart_24 ?_
  refine G_aload_n hX 1 rfl rfl dX8_apart_26 ?_
  refine gf_X8_143_B12 hX hb_1 dX8_apart_27 ?_
  refine G_iload_n hX 3 rfl rfl dX8_apart_30 ?_
  refine G_aI hX (atB_17 hb_1) dX8_apart_31 (fun x5 => ?_)
  refine G_aload_n hX 1 rfl rfl dX8_apart_32 ?_
  refine gf_X8_143_B12 hX hb_1 dX8_apart_33 ?_
  refine G_iload_n hX 4 rfl rfl dX8_apart_36 ?_
  refine G_aI hX (atB_17 hb_1) dX8_apart_37 (fun x6 => ?_)
  refine G_isub hX dX8_apart_38 ?_
  refine G_mabs hX lm_X8_115 ok_J9_abs_0f7a4.1 ok_J9_abs_0f7a4.2.1 ok_J9_abs_0f7a4.2.2.1 ⟨Nat.le_of_ble_eq_true rfl, Nat.le_of_ble_eq_true rfl⟩ (cs0 hcs) dX8_apart_39 ?_
  refine G_nmi (fun x7 => ?_)
  refine G_istore hX [(5, .int x7), (4, .int x4), (3, .ref (cx_ad X (b_1 + 12))), (0, .ref (cx_ad X 3)), (1, .int p0), (2, .int p1)] (by decide) rfl dX8_apart_42 ?_
  refine G_aload_n hX 2 rfl rfl dX8_apart_44 ?_
  refine gf_X8_77_B12 hX hb_1 dX8_apart_45 ?_
  refine G_iload_n hX 4 rfl rfl dX8_apart_48 ?_
  refine G_aI hX (atB_18 hb_1) dX8_apart_49 (fun x8 => ?_)
  refine G_aload_n hX 2 rfl rfl dX8_apart_50 ?_
  refine gf_X8_77_B12 hX hb_1 dX8_apart_51 ?_
  refine G_iload_n hX 5 rfl rfl dX8_apart_54 ?_
  refine G_aI hX (atB_18 hb_1) dX8_apart_55 (fun x9 => ?_)
  refine G_isub hX dX8_apart_56 ?_
  refine G_mabs hX lm_X8_115 ok_J9_abs_0f7a4.1 ok_J9_abs_0f7a4.2.1 ok_J9_abs_0f7a4.2.2.1 ⟨Nat.le_of_ble_eq_true rfl, Nat.le_of_ble_eq_true rfl⟩ (cs0 hcs) dX8_apart_57 ?_
  refine G_nmi (fun x10 => ?_)
  refine G_istore hX [(6, .int x10), (5, .int x7), (4, .int x4), (3, .ref (cx_ad X (b_1 + 12))), (0, .ref (cx_ad X 3)), (1, .int p0), (2, .int p1)] (by decide) rfl dX8_apart_60 ?_
  refine G_iload hX 2 rfl dX8_apart_62 ?_
  refine G_bipush hX (12 : Int32) rfl dX8_apart_64 ?_
  refine G_imul hX dX8_apart_66 ?_
  refine G_iload hX 1 rfl dX8_apart_67 ?_
  refine G_iadd hX dX8_apart_69 ?_
  refine G_sipush hX (1000 : Int32) rfl dX8_apart_70 ?_
  refine G_imul hX dX8_apart_73 ?_
  refine G_iload hX 0 rfl dX8_apart_74 ?_
  refine G_iadd hX dX8_apart_76 ?_
  exact G_iret hX hQ dX8_apart_77
theorem cX8_apart_ok (l : Launch) (N : Nat) (p0 : Int32) (p1 : Int32) (μ : Mem) (z : Int32 × Mem) (h : fX8_apart N p0 p1 μ = some z) : Mi wC l yX8_apart cX8_apart 7 .int (rmo 1 24) (fun ad adK => [.ref (ad 3), .int p0, .int p1]) μ z := Mi.of h (by decide +kernel) (fun _ _ => Nat.le_of_ble_eq_true rfl) (fun X hX hQ hl hcs => gX8_apart_E hX hQ hcs N p0 p1 μ)
/-! ===== DutyCase$Study.matchFor(I)I ===== -/
set_option maxHeartbeats 4000000 in
set_option maxRecDepth 100000 in
theorem gX8_matchFor_16 {X : Ctx} {z : Int32 × Mem} (hX : Fx wC X cX8_matchFor 7 RX8 (some .int) (rmo 2 50)) (hQ : Qx_i wC X z) (hcs : cx_cells X = 0 ∧ cx_slots X = 0) (N : Nat) : ∀ (n : Nat) (b0 : Nat) (v1 : Int32) (v3 : Int32) (v4 : Int32) (v5 : Int32) (hb0 : kB b0) (μ : Mem), G wC X z 16 [(0, .ref (cx_ad X 3)), (1, .int v1), (2, .ref (cx_ad X (b0 + 12))), (3, .int v3), (4, .int v4), (5, .int v5)] [] μ (fX8_matchFor_16 N n b0 v1 v3 v4 v5 μ) := by
  intro n
  induction n with
  | zero =>
    intro b0 v1 v3 v4 v5 hb0 μ
    exact G_none
  | succ n ih =>
    intro b0 v1 v3 v4 v5 hb0 μ
    unfold fX8_matchFor_16
    refine G_iload hX 5 rfl dX8_matchFor_16 ?_
    refine G_aload_n hX 2 rfl rfl dX8_matchFor_18 ?_
    refine gf_X8_64_B12 hX hb0 dX8_matchFor_19 ?_
    refine G_nmi (fun x2 => ?_)
    refine G_icmp_ge hX 85 (by decide) dX8_matchFor_22 ?_ ?_
    · refine G_iload_n hX 3 rfl rfl dX8_matchFor_85 ?_
      exact G_iret hX hQ dX8_matchFor_86
    · refine G_aload_n hX 0 rfl rfl dX8_matchFor_25 ?_
      refine gf_X8_22_C3 hX dX8_matchFor_26 ?_
      refine G_iload hX 5 rfl dX8_matchFor_29 ?_
      refine G_aZ hX atC14 dX8_matchFor_31 (fun x3 => ?_)
      refine G_if_eq hX 79 (by decide) dX8_matchFor_32 ?_ ?_
      · refine G_iincN hX 5 (fun x4 => [(5, .int x4), (0, .ref (cx_ad X 3)), (1, .int v1), (2, .ref (cx_ad X (b0 + 12))), (3, .int v3), (4, .int v4)]) rfl rfl (by decide) (fun _ => rfl) dX8_matchFor_79 (fun x4 => ?_)
        refine G_goto hX 16 (by decide) dX8_matchFor_82 ?_
        exact G_sub [1, 2, 3, 4, 5, 0] rfl (ih b0 v1 v3 v4 x4 hb0 μ)
      · refine G_aload_n hX 2 rfl rfl dX8_matchFor_35 ?_
        refine gf_X8_84_B12 hX hb0 dX8_matchFor_36 ?_
        refine G_iload hX 5 rfl dX8_matchFor_39 ?_
        refine G_aI hX (atB_15 hb0) dX8_matchFor_41 (fun x5 => ?_)
        refine G_aload_n hX 2 rfl rfl dX8_matchFor_42 ?_
        refine gf_X8_84_B12 hX hb0 dX8_matchFor_43 ?_
        refine G_iload_n hX 1 rfl rfl dX8_matchFor_46 ?_
        refine G_aI hX (atB_15 hb0) dX8_matchFor_47 (fun x6 => ?_)
        refine G_icmp_ne hX 79 (by decide) dX8_matchFor_48 ?_ ?_
        · refine G_iincN hX 5 (fun x7 => [(5, .int x7), (0, .ref (cx_ad X 3)), (1, .int v1), (2, .ref (cx_ad X (b0 + 12))), (3, .int v3), (4, .int v4)]) rfl rfl (by decide) (fun _ => rfl) dX8_matchFor_79 (fun x7 => ?_)
          refine G_goto hX 16 (by decide) dX8_matchFor_82 ?_
          exact G_sub [1, 2, 3, 4, 5, 0] rfl (ih b0 v1 v3 v4 x7 hb0 μ)
        · refine G_aload_n hX 0 rfl rfl dX8_matchFor_51 ?_
          refine G_iload hX 5 rfl dX8_matchFor_52 ?_
          refine G_iload_n hX 1 rfl rfl dX8_matchFor_54 ?_
          refine G_cVi hX 3 8 (fun ad adK => [.int v5, .int v1]) [] (fun z2 h2 => cX8_apart_ok (cx_l X) N v5 v1 μ z2 h2) ok_X8_apart lm_X8_146 atC3.1 atC3.2 rfl rfl (fun _ _ => rfl) (Nat.le_of_ble_eq_true rfl) ⟨rfl, rfl, by decide, by decide⟩ (cs0 hcs) dX8_matchFor_55 (fun r8 μ => ?_)
          refine G_istore hX [(6, .int r8), (0, .ref (cx_ad X 3)), (1, .int v1), (2, .ref (cx_ad X (b0 + 12))), (3, .int v3), (4, .int v4), (5, .int v5)] (by decide) rfl dX8_matchFor_58 ?_
          refine G_iload_n hX 4 rfl rfl dX8_matchFor_60 ?_
          refine G_iconst hX (-1 : Int32) rfl dX8_matchFor_61 ?_
          refine G_icmp_eq hX 72 (by decide) dX8_matchFor_62 ?_ ?_
          · refine G_iload hX 6 rfl dX8_matchFor_72 ?_
            refine G_istore_n hX [(3, .int v5), (6, .int r8), (0, .ref (cx_ad X 3)), (1, .int v1), (2, .ref (cx_ad X (b0 + 12))), (4, .int v4), (5, .int v5)] rfl (by decide) rfl dX8_matchFor_74 ?_
            refine G_iload hX 1 rfl dX8_matchFor_75 ?_
            refine G_istore hX [(4, .int r8), (3, .int v5), (6, .int r8), (0, .ref (cx_ad X 3)), (1, .int v1), (2, .ref (cx_ad X (b0 + 12))), (5, .int v5)] (by decide) rfl dX8_matchFor_77 ?_
            refine G_iincN hX 6 (fun x9 => [(5, .int x9), (4, .int r8), (3, .int v5), (6, .int r8), (0, .ref (cx_ad X 3)), (1, .int v1), (2, .ref (cx_ad X (b0 + 12)))]) rfl rfl (by decide) (fun _ => rfl) dX8_matchFor_79 (fun x9 => ?_)
            refine G_goto hX 16 (by decide) dX8_matchFor_82 ?_
            exact G_sub [4, 5, 6, 2, 1, 0] rfl (ih b0 v1 v5 r8 x9 hb0 μ)
          · refine G_iload hX 0 rfl dX8_matchFor_65 ?_
            refine G_iload hX 5 rfl dX8_matchFor_67 ?_
            refine G_icmp_ge hX 79 (by decide) dX8_matchFor_69 ?_ ?_
            · refine G_iincN hX 6 (fun x10 => [(5, .int x10), (6, .int r8), (0, .ref (cx_ad X 3)), (1, .int v1), (2, .ref (cx_ad X (b0 + 12))), (3, .int v3), (4, .int v4)]) rfl rfl (by decide) (fun _ => rfl) dX8_matchFor_79 (fun x10 => ?_)
              refine G_goto hX 16 (by decide) dX8_matchFor_82 ?_
              exact G_sub [2, 3, 4, 5, 6, 0] rfl (ih b0 v1 v3 v4 x10 hb0 μ)
            · refine G_iload hX 6 rfl dX8_matchFor_72 ?_
              refine G_istore_n hX [(3, .int v5), (6, .int r8), (0, .ref (cx_ad X 3)), (1, .int v1), (2, .ref (cx_ad X (b0 + 12))), (4, .int v4), (5, .int v5)] rfl (by decide) rfl dX8_matchFor_74 ?_
              refine G_iload hX 1 rfl dX8_matchFor_75 ?_
              refine G_istore hX [(4, .int r8), (3, .int v5), (6, .int r8), (0, .ref (cx_ad X 3)), (1, .int v1), (2, .ref (cx_ad X (b0 + 12))), (5, .int v5)] (by decide) rfl dX8_matchFor_77 ?_
              refine G_iincN hX 6 (fun x11 => [(5, .int x11), (4, .int r8), (3, .int v5), (6, .int r8), (0, .ref (cx_ad X 3)), (1, .int v1), (2, .ref (cx_ad X (b0 + 12)))]) rfl rfl (by decide) (fun _ => rfl) dX8_matchFor_79 (fun x11 => ?_)
              refine G_goto hX 16 (by decide) dX8_matchFor_82 ?_
              exact G_sub [4, 5, 6, 2, 1, 0] rfl (ih b0 v1 v5 r8 x11 hb0 μ)
set_option maxHeartbeats 4000000 in
set_option maxRecDepth 100000 in
theorem gX8_matchFor_E {X : Ctx} {z : Int32 × Mem} (hX : Fx wC X cX8_matchFor 7 RX8 (some .int) (rmo 2 50)) (hQ : Qx_i wC X z) (hcs : cx_cells X = 0 ∧ cx_slots X = 0) (N : Nat) (p0 : Int32) (μ : Mem) : G wC X z 0 [(0, .ref (cx_ad X 3)), (1, .int p0)] [] μ (fX8_matchFor N p0 μ) := by
  unfold fX8_matchFor
  refine G_aload_n hX 0 rfl rfl dX8_matchFor_0 ?_
  refine gf_X8_42_C3 hX dX8_matchFor_1 (fun b_1 hb_1 => ?_)
  refine gf_X8_58_B0 hX hb_1 dX8_matchFor_4 ?_
  refine G_astore_n hX [(2, .ref (cx_ad X (b_1 + 12))), (0, .ref (cx_ad X 3)), (1, .int p0)] rfl (by decide) rfl dX8_matchFor_7 ?_
  refine G_iconst hX (-1 : Int32) rfl dX8_matchFor_8 ?_
  refine G_istore_n hX [(3, .int (-1 : Int32)), (2, .ref (cx_ad X (b_1 + 12))), (0, .ref (cx_ad X 3)), (1, .int p0)] rfl (by decide) rfl dX8_matchFor_9 ?_
  refine G_iconst hX (0 : Int32) rfl dX8_matchFor_10 ?_
  refine G_istore hX [(4, .int (0 : Int32)), (3, .int (-1 : Int32)), (2, .ref (cx_ad X (b_1 + 12))), (0, .ref (cx_ad X 3)), (1, .int p0)] (by decide) rfl dX8_matchFor_11 ?_
  refine G_iconst hX (0 : Int32) rfl dX8_matchFor_13 ?_
  refine G_istore hX [(5, .int (0 : Int32)), (4, .int (0 : Int32)), (3, .int (-1 : Int32)), (2, .ref (cx_ad X (b_1 + 12))), (0, .ref (cx_ad X 3)), (1, .int p0)] (by decide) rfl dX8_matchFor_14 ?_
  exact G_sub [4, 5, 3, 2, 1, 0] rfl (gX8_matchFor_16 hX hQ hcs N N b_1 p0 (-1 : Int32) (0 : Int32) (0 : Int32) hb_1 μ)
theorem cX8_matchFor_ok (l : Launch) (N : Nat) (p0 : Int32) (μ : Mem) (z : Int32 × Mem) (h : fX8_matchFor N p0 μ = some z) : Mi wC l yX8_matchFor cX8_matchFor 7 .int (rmo 2 50) (fun ad adK => [.ref (ad 3), .int p0]) μ z := Mi.of h (by decide +kernel) (fun _ _ => Nat.le_of_ble_eq_true rfl) (fun X hX hQ hl hcs => gX8_matchFor_E hX hQ hcs N p0 μ)
/-! ===== DutyCase$Study.worthByMatch(II)J ===== -/
set_option maxHeartbeats 4000000 in
set_option maxRecDepth 100000 in
theorem gX8_worthByMatch_E {X : Ctx} {z : Int64 × Mem} (hX : Fx wC X cX8_worthByMatch 5 RX8 (some .long) (rmo 1 24)) (hQ : Qx_l wC X z) (hcs : cx_cells X = 0 ∧ cx_slots X = 0) (N : Nat) (p0 : Int32) (p1 : Int32) (μ : Mem) : G wC X z 0 [(0, .ref (cx_ad X 3)), (1, .int p0), (2, .int p1)] [] μ (fX8_worthByMatch N p0 p1 μ) := by
  unfold fX8_worthByMatch
  refine G_aload_n hX 0 rfl rfl dX8_worthByMatch_0 ?_
  refine gf_X8_42_C3 hX dX8_worthByMatch_1 (fun b_1 hb_1 => ?_)
  refine gf_X8_58_B0 hX hb_1 dX8_worthByMatch_4 ?_
  refine G_astore_n hX [(3, .ref (cx_ad X (b_1 + 12))), (0, .ref (cx_ad X 3)), (1, .int p0), (2, .int p1)] rfl (by decide) rfl dX8_worthByMatch_7 ?_
  refine G_aload_n hX 1 rfl rfl dX8_worthByMatch_8 ?_
  refine gf_X8_42_C3 hX dX8_worthByMatch_9 (fun b_2 hb_2 => ?_)
  refine gf_X8_132_B0 hX hb_2 dX8_worthByMatch_12 ?_
  refine G_iconst hX (5 : Int32) rfl dX8_worthByMatch_15 ?_
  refine G_aI hX (atB_28 hb_2) dX8_worthByMatch_16 (fun x3 => ?_)
  refine G_aload_n hX 0 rfl rfl dX8_worthByMatch_17 ?_
  refine gf_X8_101_B12 hX hb_1 dX8_worthByMatch_18 ?_
  refine G_iload_n hX 2 rfl rfl dX8_worthByMatch_21 ?_
  refine G_aI hX (atB_16 hb_1) dX8_worthByMatch_22 (fun x4 => ?_)
  refine G_aload_n hX 0 rfl rfl dX8_worthByMatch_23 ?_
  refine gf_X8_101_B12 hX hb_1 dX8_worthByMatch_24 ?_
  refine G_iload_n hX 3 rfl rfl dX8_worthByMatch_27 ?_
  refine G_aI hX (atB_16 hb_1) dX8_worthByMatch_28 (fun x5 => ?_)
  refine G_isub hX dX8_worthByMatch_29 ?_
  refine G_imul hX dX8_worthByMatch_30 ?_
  refine G_nmi (fun x6 => ?_)
  refine G_istore hX [(4, .int x6), (3, .ref (cx_ad X (b_1 + 12))), (0, .ref (cx_ad X 3)), (1, .int p0), (2, .int p1)] (by decide) rfl dX8_worthByMatch_31 ?_
  refine G_ldc2 hX lc_X8_130 dX8_worthByMatch_33 ?_
  refine G_iconst hX (0 : Int32) rfl dX8_worthByMatch_36 ?_
  refine G_aload_n hX 1 rfl rfl dX8_worthByMatch_37 ?_
  refine gf_X8_91_B12 hX hb_1 dX8_worthByMatch_38 ?_
  refine G_iload_n hX 4 rfl rfl dX8_worthByMatch_41 ?_
  refine G_aI hX (atB_21 hb_1) dX8_worthByMatch_42 (fun x7 => ?_)
  refine G_iload hX 0 rfl dX8_worthByMatch_43 ?_
  refine G_iadd hX dX8_worthByMatch_45 ?_
  refine G_mmax hX lm_X8_149 ok_J9_max_7cf53.1 ok_J9_max_7cf53.2.1 ok_J9_max_7cf53.2.2.1 ⟨Nat.le_of_ble_eq_true rfl, Nat.le_of_ble_eq_true rfl⟩ (cs0 hcs) dX8_worthByMatch_46 ?_
  refine G_i2l hX dX8_worthByMatch_49 ?_
  refine G_lmul hX dX8_worthByMatch_50 ?_
  exact G_lret hX hQ dX8_worthByMatch_51
theorem cX8_worthByMatch_ok (l : Launch) (N : Nat) (p0 : Int32) (p1 : Int32) (μ : Mem) (z : Int64 × Mem) (h : fX8_worthByMatch N p0 p1 μ = some z) : Ml wC l yX8_worthByMatch cX8_worthByMatch 5 .long (rmo 1 24) (fun ad adK => [.ref (ad 3), .int p0, .int p1]) μ z := Ml.of h (by decide +kernel) (fun _ _ => Nat.le_of_ble_eq_true rfl) (fun X hX hQ hl hcs => gX8_worthByMatch_E hX hQ hcs N p0 p1 μ)
