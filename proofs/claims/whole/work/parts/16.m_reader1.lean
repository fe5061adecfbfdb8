/-! ===== DutyCase$Reader.isBlank(I)Z ===== -/
set_option maxHeartbeats 4000000 in
set_option maxRecDepth 100000 in
theorem gX5_isBlank_E {X : Ctx} {z : Int32 × Mem} (hX : Fx wC X cX5_isBlank 1 RX5 (some .boolean) (rmo 0 0)) (hQ : Qx_i wC X z) (hcs : cx_cells X = 0 ∧ cx_slots X = 0) (N : Nat) (p0 : Int32) (μ : Mem) : G wC X z 0 [(0, .int p0)] [] μ (fX5_isBlank N p0 μ) := by
  unfold fX5_isBlank
  refine G_iload_n hX 0 rfl rfl dX5_isBlank_0 ?_
  refine G_bipush hX (9 : Int32) rfl dX5_isBlank_1 ?_
  refine G_icmp_eq hX 18 (by decide) dX5_isBlank_3 ?_ ?_
  · refine G_iconst hX (1 : Int32) rfl dX5_isBlank_18 ?_
    refine G_goto hX 23 (by decide) dX5_isBlank_19 ?_
    exact G_zret hX hQ rfl dX5_isBlank_23
  · refine G_iload_n hX 0 rfl rfl dX5_isBlank_6 ?_
    refine G_bipush hX (10 : Int32) rfl dX5_isBlank_7 ?_
    refine G_icmp_eq hX 18 (by decide) dX5_isBlank_9 ?_ ?_
    · refine G_iconst hX (1 : Int32) rfl dX5_isBlank_18 ?_
      refine G_goto hX 23 (by decide) dX5_isBlank_19 ?_
      exact G_zret hX hQ rfl dX5_isBlank_23
    · refine G_iload_n hX 0 rfl rfl dX5_isBlank_12 ?_
      refine G_bipush hX (32 : Int32) rfl dX5_isBlank_13 ?_
      refine G_icmp_ne hX 22 (by decide) dX5_isBlank_15 ?_ ?_
      · refine G_iconst hX (0 : Int32) rfl dX5_isBlank_22 ?_
        exact G_zret hX hQ rfl dX5_isBlank_23
      · refine G_iconst hX (1 : Int32) rfl dX5_isBlank_18 ?_
        refine G_goto hX 23 (by decide) dX5_isBlank_19 ?_
        exact G_zret hX hQ rfl dX5_isBlank_23
theorem cX5_isBlank_ok (l : Launch) (N : Nat) (p0 : Int32) (μ : Mem) (z : Int32 × Mem) (h : fX5_isBlank N p0 μ = some z) : Mi wC l yX5_isBlank cX5_isBlank 1 .boolean (rmo 0 0) (fun ad adK => [.int p0]) μ z := Mi.of h (by decide +kernel) (fun _ _ => Nat.le_of_ble_eq_true rfl) (fun X hX hQ hl hcs => gX5_isBlank_E hX hQ hcs N p0 μ)
/-! ===== DutyCase$Reader.isLetter(I)Z ===== -/
set_option maxHeartbeats 4000000 in
set_option maxRecDepth 100000 in
theorem gX5_isLetter_E {X : Ctx} {z : Int32 × Mem} (hX : Fx wC X cX5_isLetter 1 RX5 (some .boolean) (rmo 0 0)) (hQ : Qx_i wC X z) (hcs : cx_cells X = 0 ∧ cx_slots X = 0) (N : Nat) (p0 : Int32) (μ : Mem) : G wC X z 0 [(0, .int p0)] [] μ (fX5_isLetter N p0 μ) := by
  unfold fX5_isLetter
  refine G_iload_n hX 0 rfl rfl dX5_isLetter_0 ?_
  refine G_bipush hX (97 : Int32) rfl dX5_isLetter_1 ?_
  refine G_icmp_lt hX 16 (by decide) dX5_isLetter_3 ?_ ?_
  · refine G_iconst hX (0 : Int32) rfl dX5_isLetter_16 ?_
    exact G_zret hX hQ rfl dX5_isLetter_17
  · refine G_iload_n hX 0 rfl rfl dX5_isLetter_6 ?_
    refine G_bipush hX (122 : Int32) rfl dX5_isLetter_7 ?_
    refine G_icmp_gt hX 16 (by decide) dX5_isLetter_9 ?_ ?_
    · refine G_iconst hX (0 : Int32) rfl dX5_isLetter_16 ?_
      exact G_zret hX hQ rfl dX5_isLetter_17
    · refine G_iconst hX (1 : Int32) rfl dX5_isLetter_12 ?_
      refine G_goto hX 17 (by decide) dX5_isLetter_13 ?_
      exact G_zret hX hQ rfl dX5_isLetter_17
theorem cX5_isLetter_ok (l : Launch) (N : Nat) (p0 : Int32) (μ : Mem) (z : Int32 × Mem) (h : fX5_isLetter N p0 μ = some z) : Mi wC l yX5_isLetter cX5_isLetter 1 .boolean (rmo 0 0) (fun ad adK => [.int p0]) μ z := Mi.of h (by decide +kernel) (fun _ _ => Nat.le_of_ble_eq_true rfl) (fun X hX hQ hl hcs => gX5_isLetter_E hX hQ hcs N p0 μ)
/-! ===== DutyCase$Reader.isDigit(I)Z ===== -/
set_option maxHeartbeats 4000000 in
set_option maxRecDepth 100000 in
theorem gX5_isDigit_E {X : Ctx} {z : Int32 × Mem} (hX : Fx wC X cX5_isDigit 1 RX5 (some .boolean) (rmo 0 0)) (hQ : Qx_i wC X z) (hcs : cx_cells X = 0 ∧ cx_slots X = 0) (N : Nat) (p0 : Int32) (μ : Mem) : G wC X z 0 [(0, .int p0)] [] μ (fX5_isDigit N p0 μ) := by
  unfold fX5_isDigit
  refine G_iload_n hX 0 rfl rfl dX5_isDigit_0 ?_
  refine G_bipush hX (48 : Int32) rfl dX5_isDigit_1 ?_
  refine G_icmp_lt hX 16 (by decide) dX5_isDigit_3 ?_ ?_
  · refine G_iconst hX (0 : Int32) rfl dX5_isDigit_16 ?_
    exact G_zret hX hQ rfl dX5_isDigit_17
  · refine G_iload_n hX 0 rfl rfl dX5_isDigit_6 ?_
    refine G_bipush hX (57 : Int32) rfl dX5_isDigit_7 ?_
    refine G_icmp_gt hX 16 (by decide) dX5_isDigit_9 ?_ ?_
    · refine G_iconst hX (0 : Int32) rfl dX5_isDigit_16 ?_
      exact G_zret hX hQ rfl dX5_isDigit_17
    · refine G_iconst hX (1 : Int32) rfl dX5_isDigit_12 ?_
      refine G_goto hX 17 (by decide) dX5_isDigit_13 ?_
      exact G_zret hX hQ rfl dX5_isDigit_17
theorem cX5_isDigit_ok (l : Launch) (N : Nat) (p0 : Int32) (μ : Mem) (z : Int32 × Mem) (h : fX5_isDigit N p0 μ = some z) : Mi wC l yX5_isDigit cX5_isDigit 1 .boolean (rmo 0 0) (fun ad adK => [.int p0]) μ z := Mi.of h (by decide +kernel) (fun _ _ => Nat.le_of_ble_eq_true rfl) (fun X hX hQ hl hcs => gX5_isDigit_E hX hQ hcs N p0 μ)
/-! ===== DutyCase$Reader.step()V ===== -/
set_option maxHeartbeats 4000000 in
set_option maxRecDepth 100000 in
theorem gX5_step_151 {X : Ctx} {z : Unit × Mem} (hX : Fx wC X cX5_step 1 RX5 none (rmo 1 20)) (hQ : Qx_v wC X z) (hcs : cx_cells X = 0 ∧ cx_slots X = 0) (N : Nat) : ∀ (n : Nat) (μ : Mem), G wC X z 151 [(0, .ref (cx_ad X 1))] [] μ (fX5_step_151 N n μ) := by
  intro n
  induction n with
  | zero =>
    intro μ
    exact G_none
  | succ n ih =>
    intro μ
    unfold fX5_step_151
    refine G_aload_n hX 0 rfl rfl dX5_step_151 ?_
    refine gf_X5_31_C1 hX dX5_step_152 ?_
    refine G_nmi (fun x21 => ?_)
    refine G_aload_n hX 0 rfl rfl dX5_step_155 ?_
    refine gf_X5_23_C1 hX dX5_step_156 ?_
    refine G_nmi (fun x22 => ?_)
    refine G_icmp_ge hX 213 (by decide) dX5_step_159 ?_ ?_
    · exact G_vret hX hQ dX5_step_213
    · refine G_aload_n hX 0 rfl rfl dX5_step_162 ?_
      refine gf_X5_9_C1 hX dX5_step_163 ?_
      refine G_aload_n hX 0 rfl rfl dX5_step_166 ?_
      refine gf_X5_31_C1 hX dX5_step_167 ?_
      refine G_nmi (fun x23 => ?_)
      refine G_aB hX atC7 dX5_step_170 (fun x24 => ?_)
      refine G_cSi hX (fun ad adK => [.int x24]) [] (fun z2 h2 => cX5_isDigit_ok (cx_l X) N x24 μ z2 h2) ok_X5_isDigit lm_X5_214 rfl (fun _ _ => rfl) (Nat.le_of_ble_eq_true rfl) ⟨rfl, rfl, by decide, by decide⟩ (cs0 hcs) dX5_step_171 (fun r25 μ => ?_)
      refine G_if_eq hX 213 (by decide) dX5_step_174 ?_ ?_
      · exact G_vret hX hQ dX5_step_213
      · refine G_aload_n hX 0 rfl rfl dX5_step_177 ?_
        refine G_dup hX rfl dX5_step_178 ?_
        refine gf_X5_31_C1 hX dX5_step_179 ?_
        refine G_nmi (fun x26 => ?_)
        refine G_iconst hX (1 : Int32) rfl dX5_step_182 ?_
        refine G_iadd hX dX5_step_183 ?_
        refine G_nmi (fun x27 => ?_)
        refine pf_X5_31_C1 hX dX5_step_184 (fun μ => ?_)
        refine G_goto hX 151 (by decide) dX5_step_187 ?_
        exact G_sub [0] rfl (ih μ)
set_option maxHeartbeats 4000000 in
set_option maxRecDepth 100000 in
theorem gX5_step_90 {X : Ctx} {z : Unit × Mem} (hX : Fx wC X cX5_step 1 RX5 none (rmo 1 20)) (hQ : Qx_v wC X z) (hcs : cx_cells X = 0 ∧ cx_slots X = 0) (N : Nat) : ∀ (n : Nat) (μ : Mem), G wC X z 90 [(0, .ref (cx_ad X 1))] [] μ (fX5_step_90 N n μ) := by
  intro n
  induction n with
  | zero =>
    intro μ
    exact G_none
  | succ n ih =>
    intro μ
    unfold fX5_step_90
    refine G_aload_n hX 0 rfl rfl dX5_step_90 ?_
    refine gf_X5_31_C1 hX dX5_step_91 ?_
    refine G_nmi (fun x28 => ?_)
    refine G_aload_n hX 0 rfl rfl dX5_step_94 ?_
    refine gf_X5_23_C1 hX dX5_step_95 ?_
    refine G_nmi (fun x29 => ?_)
    refine G_icmp_ge hX 213 (by decide) dX5_step_98 ?_ ?_
    · exact G_vret hX hQ dX5_step_213
    · refine G_aload_n hX 0 rfl rfl dX5_step_101 ?_
      refine gf_X5_9_C1 hX dX5_step_102 ?_
      refine G_aload_n hX 0 rfl rfl dX5_step_105 ?_
      refine gf_X5_31_C1 hX dX5_step_106 ?_
      refine G_nmi (fun x30 => ?_)
      refine G_aB hX atC7 dX5_step_109 (fun x31 => ?_)
      refine G_cSi hX (fun ad adK => [.int x31]) [] (fun z2 h2 => cX5_isLetter_ok (cx_l X) N x31 μ z2 h2) ok_X5_isLetter lm_X5_211 rfl (fun _ _ => rfl) (Nat.le_of_ble_eq_true rfl) ⟨rfl, rfl, by decide, by decide⟩ (cs0 hcs) dX5_step_110 (fun r32 μ => ?_)
      refine G_if_eq hX 213 (by decide) dX5_step_113 ?_ ?_
      · exact G_vret hX hQ dX5_step_213
      · refine G_aload_n hX 0 rfl rfl dX5_step_116 ?_
        refine G_dup hX rfl dX5_step_117 ?_
        refine gf_X5_31_C1 hX dX5_step_118 ?_
        refine G_nmi (fun x33 => ?_)
        refine G_iconst hX (1 : Int32) rfl dX5_step_121 ?_
        refine G_iadd hX dX5_step_122 ?_
        refine G_nmi (fun x34 => ?_)
        refine pf_X5_31_C1 hX dX5_step_123 (fun μ => ?_)
        refine G_goto hX 90 (by decide) dX5_step_126 ?_
        exact G_sub [0] rfl (ih μ)
set_option maxHeartbeats 4000000 in
set_option maxRecDepth 100000 in
theorem gX5_step_39 {X : Ctx} {z : Unit × Mem} (hX : Fx wC X cX5_step 1 RX5 none (rmo 1 20)) (hQ : Qx_v wC X z) (hcs : cx_cells X = 0 ∧ cx_slots X = 0) (N : Nat) (μ : Mem) : G wC X z 39 [(0, .ref (cx_ad X 1))] [] μ (fX5_step_39 N μ) := by
  unfold fX5_step_39
  refine G_aload_n hX 0 rfl rfl dX5_step_39 ?_
  refine G_aload_n hX 0 rfl rfl dX5_step_40 ?_
  refine gf_X5_31_C1 hX dX5_step_41 ?_
  refine G_nmi (fun x8 => ?_)
  refine pf_X5_159_C1 hX dX5_step_44 (fun μ => ?_)
  refine G_aload_n hX 0 rfl rfl dX5_step_47 ?_
  refine gf_X5_31_C1 hX dX5_step_48 ?_
  refine G_nmi (fun x9 => ?_)
  refine G_aload_n hX 0 rfl rfl dX5_step_51 ?_
  refine gf_X5_23_C1 hX dX5_step_52 ?_
  refine G_nmi (fun x10 => ?_)
  refine G_icmp_lt hX 68 (by decide) dX5_step_55 ?_ ?_
  · refine G_aload_n hX 0 rfl rfl dX5_step_68 ?_
    refine gf_X5_9_C1 hX dX5_step_69 ?_
    refine G_aload_n hX 0 rfl rfl dX5_step_72 ?_
    refine gf_X5_31_C1 hX dX5_step_73 ?_
    refine G_nmi (fun x11 => ?_)
    refine G_aB hX atC7 dX5_step_76 (fun x12 => ?_)
    refine G_cSi hX (fun ad adK => [.int x12]) [] (fun z2 h2 => cX5_isLetter_ok (cx_l X) N x12 μ z2 h2) ok_X5_isLetter lm_X5_211 rfl (fun _ _ => rfl) (Nat.le_of_ble_eq_true rfl) ⟨rfl, rfl, by decide, by decide⟩ (cs0 hcs) dX5_step_77 (fun r13 μ => ?_)
    refine G_if_eq hX 129 (by decide) dX5_step_80 ?_ ?_
    · refine G_aload_n hX 0 rfl rfl dX5_step_129 ?_
      refine gf_X5_9_C1 hX dX5_step_130 ?_
      refine G_aload_n hX 0 rfl rfl dX5_step_133 ?_
      refine gf_X5_31_C1 hX dX5_step_134 ?_
      refine G_nmi (fun x14 => ?_)
      refine G_aB hX atC7 dX5_step_137 (fun x15 => ?_)
      refine G_cSi hX (fun ad adK => [.int x15]) [] (fun z2 h2 => cX5_isDigit_ok (cx_l X) N x15 μ z2 h2) ok_X5_isDigit lm_X5_214 rfl (fun _ _ => rfl) (Nat.le_of_ble_eq_true rfl) ⟨rfl, rfl, by decide, by decide⟩ (cs0 hcs) dX5_step_138 (fun r16 μ => ?_)
      refine G_if_eq hX 190 (by decide) dX5_step_141 ?_ ?_
      · refine G_aload_n hX 0 rfl rfl dX5_step_190 ?_
        refine G_aload_n hX 0 rfl rfl dX5_step_191 ?_
        refine gf_X5_9_C1 hX dX5_step_192 ?_
        refine G_aload_n hX 0 rfl rfl dX5_step_195 ?_
        refine gf_X5_31_C1 hX dX5_step_196 ?_
        refine G_nmi (fun x17 => ?_)
        refine G_aB hX atC7 dX5_step_199 (fun x18 => ?_)
        refine pf_X5_37_C1 hX dX5_step_200 (fun μ => ?_)
        refine G_aload_n hX 0 rfl rfl dX5_step_203 ?_
        refine G_dup hX rfl dX5_step_204 ?_
        refine gf_X5_31_C1 hX dX5_step_205 ?_
        refine G_nmi (fun x19 => ?_)
        refine G_iconst hX (1 : Int32) rfl dX5_step_208 ?_
        refine G_iadd hX dX5_step_209 ?_
        refine G_nmi (fun x20 => ?_)
        refine pf_X5_31_C1 hX dX5_step_210 (fun μ => ?_)
        exact G_vret hX hQ dX5_step_213
      · refine G_aload_n hX 0 rfl rfl dX5_step_144 ?_
        refine G_sipush hX (257 : Int32) rfl dX5_step_145 ?_
        refine pf_X5_37_C1 hX dX5_step_148 (fun μ => ?_)
        exact G_sub [0] rfl (gX5_step_151 hX hQ hcs N N μ)
    · refine G_aload_n hX 0 rfl rfl dX5_step_83 ?_
      refine G_sipush hX (256 : Int32) rfl dX5_step_84 ?_
      refine pf_X5_37_C1 hX dX5_step_87 (fun μ => ?_)
      exact G_sub [0] rfl (gX5_step_90 hX hQ hcs N N μ)
  · refine G_aload_n hX 0 rfl rfl dX5_step_58 ?_
    refine G_sipush hX (258 : Int32) rfl dX5_step_59 ?_
    refine pf_X5_37_C1 hX dX5_step_62 (fun μ => ?_)
    refine G_goto hX 213 (by decide) dX5_step_65 ?_
    exact G_vret hX hQ dX5_step_213
set_option maxHeartbeats 4000000 in
set_option maxRecDepth 100000 in
theorem gX5_step_0 {X : Ctx} {z : Unit × Mem} (hX : Fx wC X cX5_step 1 RX5 none (rmo 1 20)) (hQ : Qx_v wC X z) (hcs : cx_cells X = 0 ∧ cx_slots X = 0) (N : Nat) : ∀ (n : Nat) (μ : Mem), G wC X z 0 [(0, .ref (cx_ad X 1))] [] μ (fX5_step_0 N n μ) := by
  intro n
  induction n with
  | zero =>
    intro μ
    exact G_none
  | succ n ih =>
    intro μ
    unfold fX5_step_0
    refine G_aload_n hX 0 rfl rfl dX5_step_0 ?_
    refine gf_X5_31_C1 hX dX5_step_1 ?_
    refine G_nmi (fun x1 => ?_)
    refine G_aload_n hX 0 rfl rfl dX5_step_4 ?_
    refine gf_X5_23_C1 hX dX5_step_5 ?_
    refine G_nmi (fun x2 => ?_)
    refine G_icmp_ge hX 39 (by decide) dX5_step_8 ?_ ?_
    · exact G_sub [0] rfl (gX5_step_39 hX hQ hcs N μ)
    · refine G_aload_n hX 0 rfl rfl dX5_step_11 ?_
      refine gf_X5_9_C1 hX dX5_step_12 ?_
      refine G_aload_n hX 0 rfl rfl dX5_step_15 ?_
      refine gf_X5_31_C1 hX dX5_step_16 ?_
      refine G_nmi (fun x3 => ?_)
      refine G_aB hX atC7 dX5_step_19 (fun x4 => ?_)
      refine G_cSi hX (fun ad adK => [.int x4]) [] (fun z2 h2 => cX5_isBlank_ok (cx_l X) N x4 μ z2 h2) ok_X5_isBlank lm_X5_207 rfl (fun _ _ => rfl) (Nat.le_of_ble_eq_true rfl) ⟨rfl, rfl, by decide, by decide⟩ (cs0 hcs) dX5_step_20 (fun r5 μ => ?_)
      refine G_if_eq hX 39 (by decide) dX5_step_23 ?_ ?_
      · exact G_sub [0] rfl (gX5_step_39 hX hQ hcs N μ)
      · refine G_aload_n hX 0 rfl rfl dX5_step_26 ?_
        refine G_dup hX rfl dX5_step_27 ?_
        refine gf_X5_31_C1 hX dX5_step_28 ?_
        refine G_nmi (fun x6 => ?_)
        refine G_iconst hX (1 : Int32) rfl dX5_step_31 ?_
        refine G_iadd hX dX5_step_32 ?_
        refine G_nmi (fun x7 => ?_)
        refine pf_X5_31_C1 hX dX5_step_33 (fun μ => ?_)
        refine G_goto hX 0 (by decide) dX5_step_36 ?_
        exact G_sub [0] rfl (ih μ)
set_option maxHeartbeats 4000000 in
set_option maxRecDepth 100000 in
theorem gX5_step_E {X : Ctx} {z : Unit × Mem} (hX : Fx wC X cX5_step 1 RX5 none (rmo 1 20)) (hQ : Qx_v wC X z) (hcs : cx_cells X = 0 ∧ cx_slots X = 0) (N : Nat) (μ : Mem) : G wC X z 0 [(0, .ref (cx_ad X 1))] [] μ (fX5_step N μ) := by
  unfold fX5_step
  exact G_sub [0] rfl (gX5_step_0 hX hQ hcs N N μ)
theorem cX5_step_ok (l : Launch) (N : Nat) (μ : Mem) (z : Unit × Mem) (h : fX5_step N μ = some z) : Mv wC l yX5_step cX5_step 1 (rmo 1 20) (fun ad adK => [.ref (ad 1)]) μ z := Mv.of h (by decide +kernel) (fun _ _ => Nat.le_of_ble_eq_true rfl) (fun X hX hQ hl hcs => gX5_step_E hX hQ hcs N μ)
/-! ===== DutyCase$Reader.fail()V ===== -/
set_option maxHeartbeats 4000000 in
set_option maxRecDepth 100000 in
theorem gX5_fail_E {X : Ctx} {z : Unit × Mem} (hX : Fx wC X cX5_fail 1 RX5 none (rmo 0 0)) (hQ : Qx_v wC X z) (hcs : cx_cells X = 0 ∧ cx_slots X = 0) (N : Nat) (μ : Mem) : G wC X z 0 [(0, .ref (cx_ad X 1))] [] μ (fX5_fail N μ) := by
  unfold fX5_fail
  refine G_aload_n hX 0 rfl rfl dX5_fail_0 ?_
  refine gf_X5_15_C1 hX dX5_fail_1 ?_
  refine G_nmi (fun x1 => ?_)
  refine G_iconst hX (-1 : Int32) rfl dX5_fail_4 ?_
  refine G_icmp_ne hX 16 (by decide) dX5_fail_5 ?_ ?_
  · exact G_vret hX hQ dX5_fail_16
  · refine G_aload_n hX 0 rfl rfl dX5_fail_8 ?_
    refine G_aload_n hX 0 rfl rfl dX5_fail_9 ?_
    refine gf_X5_159_C1 hX dX5_fail_10 ?_
    refine G_nmi (fun x2 => ?_)
    refine pf_X5_15_C1 hX dX5_fail_13 (fun μ => ?_)
    exact G_vret hX hQ dX5_fail_16
theorem cX5_fail_ok (l : Launch) (N : Nat) (μ : Mem) (z : Unit × Mem) (h : fX5_fail N μ = some z) : Mv wC l yX5_fail cX5_fail 1 (rmo 0 0) (fun ad adK => [.ref (ad 1)]) μ z := Mv.of h (by decide +kernel) (fun _ _ => Nat.le_of_ble_eq_true rfl) (fun X hX hQ hl hcs => gX5_fail_E hX hQ hcs N μ)
/-! ===== DutyCase$Reader.digits()I ===== -/
set_option maxHeartbeats 4000000 in
set_option maxRecDepth 100000 in
theorem gX5_digits_7 {X : Ctx} {z : Int32 × Mem} (hX : Fx wC X cX5_digits 3 RX5 (some .int) (rmo 0 0)) (hQ : Qx_i wC X z) (hcs : cx_cells X = 0 ∧ cx_slots X = 0) (N : Nat) : ∀ (n : Nat) (v1 : Int32) (v2 : Int32) (μ : Mem), G wC X z 7 [(0, .ref (cx_ad X 1)), (1, .int v1), (2, .int v2)] [] μ (fX5_digits_7 N n v1 v2 μ) := by
  intro n
  induction n with
  | zero =>
    intro v1 v2 μ
    exact G_none
  | succ n ih =>
    intro v1 v2 μ
    unfold fX5_digits_7
    refine G_iload_n hX 2 rfl rfl dX5_digits_7 ?_
    refine G_aload_n hX 0 rfl rfl dX5_digits_8 ?_
    refine gf_X5_31_C1 hX dX5_digits_9 ?_
    refine G_nmi (fun x2 => ?_)
    refine G_icmp_ge hX 36 (by decide) dX5_digits_12 ?_ ?_
    · refine G_iload_n hX 1 rfl rfl dX5_digits_36 ?_
      exact G_iret hX hQ dX5_digits_37
    · refine G_iload_n hX 1 rfl rfl dX5_digits_15 ?_
      refine G_bipush hX (10 : Int32) rfl dX5_digits_16 ?_
      refine G_imul hX dX5_digits_18 ?_
      refine G_aload_n hX 0 rfl rfl dX5_digits_19 ?_
      refine gf_X5_9_C1 hX dX5_digits_20 ?_
      refine G_iload_n hX 2 rfl rfl dX5_digits_23 ?_
      refine G_aB hX atC7 dX5_digits_24 (fun x3 => ?_)
      refine G_bipush hX (48 : Int32) rfl dX5_digits_25 ?_
      refine G_isub hX dX5_digits_27 ?_
      refine G_iadd hX dX5_digits_28 ?_
      refine G_nmi (fun x4 => ?_)
      refine G_istore_n hX [(1, .int x4), (0, .ref (cx_ad X 1)), (2, .int v2)] rfl (by decide) rfl dX5_digits_29 ?_
      refine G_iincN hX 2 (fun x5 => [(2, .int x5), (1, .int x4), (0, .ref (cx_ad X 1))]) rfl rfl (by decide) (fun _ => rfl) dX5_digits_30 (fun x5 => ?_)
      refine G_goto hX 7 (by decide) dX5_digits_33 ?_
      exact G_sub [2, 1, 0] rfl (ih x4 x5 μ)
set_option maxHeartbeats 4000000 in
set_option maxRecDepth 100000 in
theorem gX5_digits_E {X : Ctx} {z : Int32 × Mem} (hX : Fx wC X cX5_digits 3 RX5 (some .int) (rmo 0 0)) (hQ : Qx_i wC X z) (hcs : cx_cells X = 0 ∧ cx_slots X = 0) (N : Nat) (μ : Mem) : G wC X z 0 [(0, .ref (cx_ad X 1))] [] μ (fX5_digits N μ) := by
  unfold fX5_digits
  refine G_iconst hX (0 : Int32) rfl dX5_digits_0 ?_
  refine G_istore_n hX [(1, .int (0 : Int32)), (0, .ref (cx_ad X 1))] rfl (by decide) rfl dX5_digits_1 ?_
  refine G_aload_n hX 1 rfl rfl dX5_digits_2 ?_
  refine gf_X5_159_C1 hX dX5_digits_3 ?_
  refine G_nmi (fun x1 => ?_)
  refine G_istore_n hX [(2, .int x1), (1, .int (0 : Int32)), (0, .ref (cx_ad X 1))] rfl (by decide) rfl dX5_digits_6 ?_
  exact G_sub [2, 1, 0] rfl (gX5_digits_7 hX hQ hcs N N (0 : Int32) x1 μ)
theorem cX5_digits_ok (l : Launch) (N : Nat) (μ : Mem) (z : Int32 × Mem) (h : fX5_digits N μ = some z) : Mi wC l yX5_digits cX5_digits 3 .int (rmo 0 0) (fun ad adK => [.ref (ad 1)]) μ z := Mi.of h (by decide +kernel) (fun _ _ => Nat.le_of_ble_eq_true rfl) (fun X hX hQ hl hcs => gX5_digits_E hX hQ hcs N μ)
/-! ===== DutyCase$Reader.take(I)V ===== -/
set_option maxHeartbeats 4000000 in
set_option maxRecDepth 100000 in
theorem gX5_take_E {X : Ctx} {z : Unit × Mem} (hX : Fx wC X cX5_take 2 RX5 none (rmo 2 40)) (hQ : Qx_v wC X z) (hcs : cx_cells X = 0 ∧ cx_slots X = 0) (N : Nat) (p0 : Int32) (μ : Mem) : G wC X z 0 [(0, .ref (cx_ad X 1)), (1, .int p0)] [] μ (fX5_take N p0 μ) := by
  unfold fX5_take
  refine G_aload_n hX 0 rfl rfl dX5_take_0 ?_
  refine gf_X5_37_C1 hX dX5_take_1 ?_
  refine G_nmi (fun x1 => ?_)
  refine G_iload_n hX 1 rfl rfl dX5_take_4 ?_
  refine G_icmp_ne hX 23 (by decide) dX5_take_5 ?_ ?_
  · refine G_aload_n hX 0 rfl rfl dX5_take_23 ?_
    refine G_cVv hX 1 5 (fun ad adK => []) [] (fun z2 h2 => cX5_fail_ok (cx_l X) N μ z2 h2) ok_X5_fail lm_X5_75 atC1.1 atC1.2 rfl rfl (fun _ _ => rfl) (Nat.le_of_ble_eq_true rfl) ⟨rfl, rfl, by decide, by decide⟩ (cs0 hcs) dX5_take_24 (fun μ => ?_)
    exact G_vret hX hQ dX5_take_27
  · refine G_aload_n hX 0 rfl rfl dX5_take_8 ?_
    refine gf_X5_15_C1 hX dX5_take_9 ?_
    refine G_nmi (fun x2 => ?_)
    refine G_iconst hX (-1 : Int32) rfl dX5_take_12 ?_
    refine G_icmp_ne hX 23 (by decide) dX5_take_13 ?_ ?_
    · refine G_aload_n hX 0 rfl rfl dX5_take_23 ?_
      refine G_cVv hX 1 5 (fun ad adK => []) [] (fun z2 h2 => cX5_fail_ok (cx_l X) N μ z2 h2) ok_X5_fail lm_X5_75 atC1.1 atC1.2 rfl rfl (fun _ _ => rfl) (Nat.le_of_ble_eq_true rfl) ⟨rfl, rfl, by decide, by decide⟩ (cs0 hcs) dX5_take_24 (fun μ => ?_)
      exact G_vret hX hQ dX5_take_27
    · refine G_aload_n hX 0 rfl rfl dX5_take_16 ?_
      refine G_cVv hX 1 5 (fun ad adK => []) [] (fun z2 h2 => cX5_step_ok (cx_l X) N μ z2 h2) ok_X5_step lm_X5_34 atC1.1 atC1.2 rfl rfl (fun _ _ => rfl) (Nat.le_of_ble_eq_true rfl) ⟨rfl, rfl, by decide, by decide⟩ (cs0 hcs) dX5_take_17 (fun μ => ?_)
      refine G_goto hX 27 (by decide) dX5_take_20 ?_
      exact G_vret hX hQ dX5_take_27
theorem cX5_take_ok (l : Launch) (N : Nat) (p0 : Int32) (μ : Mem) (z : Unit × Mem) (h : fX5_take N p0 μ = some z) : Mv wC l yX5_take cX5_take 2 (rmo 2 40) (fun ad adK => [.ref (ad 1), .int p0]) μ z := Mv.of h (by decide +kernel) (fun _ _ => Nat.le_of_ble_eq_true rfl) (fun X hX hQ hl hcs => gX5_take_E hX hQ hcs N p0 μ)
/-! ===== DutyCase$Reader.letterCode()I ===== -/
set_option maxHeartbeats 4000000 in
set_option maxRecDepth 100000 in
theorem gX5_letterCode_E {X : Ctx} {z : Int32 × Mem} (hX : Fx wC X cX5_letterCode 1 RX5 (some .int) (rmo 0 0)) (hQ : Qx_i wC X z) (hcs : cx_cells X = 0 ∧ cx_slots X = 0) (N : Nat) (μ : Mem) : G wC X z 0 [(0, .ref (cx_ad X 1))] [] μ (fX5_letterCode N μ) := by
  unfold fX5_letterCode
  refine G_aload_n hX 0 rfl rfl dX5_letterCode_0 ?_
  refine gf_X5_9_C1 hX dX5_letterCode_1 ?_
  refine G_aload_n hX 0 rfl rfl dX5_letterCode_4 ?_
  refine gf_X5_159_C1 hX dX5_letterCode_5 ?_
  refine G_nmi (fun x1 => ?_)
  refine G_aB hX atC7 dX5_letterCode_8 (fun x2 => ?_)
  refine G_sw (fun hc99 => ?_) (fun hc99 => ?_)
  · refine G_swIn hX 95 0 (99) (by rw [hc99]; rfl) (by decide) (by decide) rfl rfl (by decide) dX5_letterCode_9 ?_
    refine G_bipush hX (-5 : Int32) rfl dX5_letterCode_95 ?_
    exact G_iret hX hQ dX5_letterCode_97
  refine G_sw (fun hc100 => ?_) (fun hc100 => ?_)
  · refine G_swIn hX 98 1 (100) (by rw [hc100]; rfl) (by decide) (by decide) rfl rfl (by decide) dX5_letterCode_9 ?_
    refine G_iconst hX (0 : Int32) rfl dX5_letterCode_98 ?_
    exact G_iret hX hQ dX5_letterCode_99
  refine G_sw (fun hc101 => ?_) (fun hc101 => ?_)
  · refine G_swIn hX 98 2 (101) (by rw [hc101]; rfl) (by decide) (by decide) rfl rfl (by decide) dX5_letterCode_9 ?_
    refine G_iconst hX (0 : Int32) rfl dX5_letterCode_98 ?_
    exact G_iret hX hQ dX5_letterCode_99
  refine G_sw (fun hc102 => ?_) (fun hc102 => ?_)
  · refine G_swIn hX 98 3 (102) (by rw [hc102]; rfl) (by decide) (by decide) rfl rfl (by decide) dX5_letterCode_9 ?_
    refine G_iconst hX (0 : Int32) rfl dX5_letterCode_98 ?_
    exact G_iret hX hQ dX5_letterCode_99
  refine G_sw (fun hc103 => ?_) (fun hc103 => ?_)
  · refine G_swIn hX 98 4 (103) (by rw [hc103]; rfl) (by decide) (by decide) rfl rfl (by decide) dX5_letterCode_9 ?_
    refine G_iconst hX (0 : Int32) rfl dX5_letterCode_98 ?_
    exact G_iret hX hQ dX5_letterCode_99
  refine G_sw (fun hc104 => ?_) (fun hc104 => ?_)
  · refine G_swIn hX 98 5 (104) (by rw [hc104]; rfl) (by decide) (by decide) rfl rfl (by decide) dX5_letterCode_9 ?_
    refine G_iconst hX (0 : Int32) rfl dX5_letterCode_98 ?_
    exact G_iret hX hQ dX5_letterCode_99
  refine G_sw (fun hc105 => ?_) (fun hc105 => ?_)
  · refine G_swIn hX 98 6 (105) (by rw [hc105]; rfl) (by decide) (by decide) rfl rfl (by decide) dX5_letterCode_9 ?_
    refine G_iconst hX (0 : Int32) rfl dX5_letterCode_98 ?_
    exact G_iret hX hQ dX5_letterCode_99
  refine G_sw (fun hc106 => ?_) (fun hc106 => ?_)
  · refine G_swIn hX 98 7 (106) (by rw [hc106]; rfl) (by decide) (by decide) rfl rfl (by decide) dX5_letterCode_9 ?_
    refine G_iconst hX (0 : Int32) rfl dX5_letterCode_98 ?_
    exact G_iret hX hQ dX5_letterCode_99
  refine G_sw (fun hc107 => ?_) (fun hc107 => ?_)
  · refine G_swIn hX 98 8 (107) (by rw [hc107]; rfl) (by decide) (by decide) rfl rfl (by decide) dX5_letterCode_9 ?_
    refine G_iconst hX (0 : Int32) rfl dX5_letterCode_98 ?_
    exact G_iret hX hQ dX5_letterCode_99
  refine G_sw (fun hc108 => ?_) (fun hc108 => ?_)
  · refine G_swIn hX 89 9 (108) (by rw [hc108]; rfl) (by decide) (by decide) rfl rfl (by decide) dX5_letterCode_9 ?_
    refine G_bipush hX (-3 : Int32) rfl dX5_letterCode_89 ?_
    exact G_iret hX hQ dX5_letterCode_91
  refine G_sw (fun hc109 => ?_) (fun hc109 => ?_)
  · refine G_swIn hX 92 10 (109) (by rw [hc109]; rfl) (by decide) (by decide) rfl rfl (by decide) dX5_letterCode_9 ?_
    refine G_bipush hX (-4 : Int32) rfl dX5_letterCode_92 ?_
    exact G_iret hX hQ dX5_letterCode_94
  refine G_sw (fun hc110 => ?_) (fun hc110 => ?_)
  · refine G_swIn hX 98 11 (110) (by rw [hc110]; rfl) (by decide) (by decide) rfl rfl (by decide) dX5_letterCode_9 ?_
    refine G_iconst hX (0 : Int32) rfl dX5_letterCode_98 ?_
    exact G_iret hX hQ dX5_letterCode_99
  refine G_sw (fun hc111 => ?_) (fun hc111 => ?_)
  · refine G_swIn hX 98 12 (111) (by rw [hc111]; rfl) (by decide) (by decide) rfl rfl (by decide) dX5_letterCode_9 ?_
    refine G_iconst hX (0 : Int32) rfl dX5_letterCode_98 ?_
    exact G_iret hX hQ dX5_letterCode_99
  refine G_sw (fun hc112 => ?_) (fun hc112 => ?_)
  · refine G_swIn hX 86 13 (112) (by rw [hc112]; rfl) (by decide) (by decide) rfl rfl (by decide) dX5_letterCode_9 ?_
    refine G_bipush hX (-2 : Int32) rfl dX5_letterCode_86 ?_
    exact G_iret hX hQ dX5_letterCode_88
  refine G_sw (fun hc113 => ?_) (fun hc113 => ?_)
  · refine G_swIn hX 84 14 (113) (by rw [hc113]; rfl) (by decide) (by decide) rfl rfl (by decide) dX5_letterCode_9 ?_
    refine G_iconst hX (-1 : Int32) rfl dX5_letterCode_84 ?_
    exact G_iret hX hQ dX5_letterCode_85
  refine G_swOut hX 98 (by decide) dX5_letterCode_9 (by have e0 := lv_neT (a := (99 : Int)) hc99 rfl; have e1 := lv_neT (a := (100 : Int)) hc100 rfl; have e2 := lv_neT (a := (101 : Int)) hc101 rfl; have e3 := lv_neT (a := (102 : Int)) hc102 rfl; have e4 := lv_neT (a := (103 : Int)) hc103 rfl; have e5 := lv_neT (a := (104 : Int)) hc104 rfl; have e6 := lv_neT (a := (105 : Int)) hc105 rfl; have e7 := lv_neT (a := (106 : Int)) hc106 rfl; have e8 := lv_neT (a := (107 : Int)) hc107 rfl; have e9 := lv_neT (a := (108 : Int)) hc108 rfl; have e10 := lv_neT (a := (109 : Int)) hc109 rfl; have e11 := lv_neT (a := (110 : Int)) hc110 rfl; have e12 := lv_neT (a := (111 : Int)) hc111 rfl; have e13 := lv_neT (a := (112 : Int)) hc112 rfl; have e14 := lv_neT (a := (113 : Int)) hc113 rfl; omega) ?_
  refine G_iconst hX (0 : Int32) rfl dX5_letterCode_98 ?_
  exact G_iret hX hQ dX5_letterCode_99
theorem cX5_letterCode_ok (l : Launch) (N : Nat) (μ : Mem) (z : Int32 × Mem) (h : fX5_letterCode N μ = some z) : Mi wC l yX5_letterCode cX5_letterCode 1 .int (rmo 0 0) (fun ad adK => [.ref (ad 1)]) μ z := Mi.of h (by decide +kernel) (fun _ _ => Nat.le_of_ble_eq_true rfl) (fun X hX hQ hl hcs => gX5_letterCode_E hX hQ hcs N μ)
/-! ===== DutyCase$Reader.readAtom(I)V ===== -/
set_option maxHeartbeats 4000000 in
set_option maxRecDepth 100000 in
theorem gX5_readAtom_88 {X : Ctx} {z : Unit × Mem} {d : Nat} (hX : Fx wC X cX5_readAtom 2 RX5 none (rmo (3 * d + 4) (67 * d + 113))) (hQ : Qx_v wC X z) (hcs : cx_cells X = 0 ∧ cx_slots X = 0) (N : Nat) (rs : Int32 → Mem → Option (Unit × Mem)) (hrs : ∀ (l : Launch) (p : Int32) (μ : Mem) (z : Unit × Mem), rs p μ = some z → Mv wC l yX5_readSum cX5_readSum 4 (rmo (3 * d + 3) (67 * d + 90)) (fun ad adK => [.ref (ad 1), .int p]) μ z) (μ : Mem) : G wC X z 88 [(0, .ref (cx_ad X 1))] [] μ (fX5_readAtom_88 N rs μ) := by
  unfold fX5_readAtom_88
  refine G_aload_n hX 0 rfl rfl dX5_readAtom_88 ?_
  refine gf_X5_37_C1 hX dX5_readAtom_89 ?_
  refine G_nmi (fun x8 => ?_)
  refine G_sipush hX (256 : Int32) rfl dX5_readAtom_92 ?_
  refine G_icmp_ne hX 139 (by decide) dX5_readAtom_95 ?_ ?_
  · refine G_aload_n hX 0 rfl rfl dX5_readAtom_139 ?_
    refine G_cVv hX 1 5 (fun ad adK => []) [] (fun z2 h2 => cX5_fail_ok (cx_l X) N μ z2 h2) ok_X5_fail lm_X5_75 atC1.1 atC1.2 rfl rfl (fun _ _ => rfl) (Nat.le_of_ble_eq_true rfl) ⟨rfl, rfl, by simp only [rmo]; omega, by simp only [rmo]; omega⟩ (cs0 hcs) dX5_readAtom_140 (fun μ => ?_)
    exact G_vret hX hQ dX5_readAtom_143
  · refine G_aload_n hX 0 rfl rfl dX5_readAtom_98 ?_
    refine gf_X5_31_C1 hX dX5_readAtom_99 ?_
    refine G_nmi (fun x9 => ?_)
    refine G_aload_n hX 0 rfl rfl dX5_readAtom_102 ?_
    refine gf_X5_159_C1 hX dX5_readAtom_103 ?_
    refine G_nmi (fun x10 => ?_)
    refine G_isub hX dX5_readAtom_106 ?_
    refine G_iconst hX (1 : Int32) rfl dX5_readAtom_107 ?_
    refine G_icmp_ne hX 139 (by decide) dX5_readAtom_108 ?_ ?_
    · refine G_aload_n hX 0 rfl rfl dX5_readAtom_139 ?_
      refine G_cVv hX 1 5 (fun ad adK => []) [] (fun z2 h2 => cX5_fail_ok (cx_l X) N μ z2 h2) ok_X5_fail lm_X5_75 atC1.1 atC1.2 rfl rfl (fun _ _ => rfl) (Nat.le_of_ble_eq_true rfl) ⟨rfl, rfl, by simp only [rmo]; omega, by simp only [rmo]; omega⟩ (cs0 hcs) dX5_readAtom_140 (fun μ => ?_)
      exact G_vret hX hQ dX5_readAtom_143
    · refine G_aload_n hX 0 rfl rfl dX5_readAtom_111 ?_
      refine G_cVi hX 1 5 (fun ad adK => []) [] (fun z2 h2 => cX5_letterCode_ok (cx_l X) N μ z2 h2) ok_X5_letterCode lm_X5_165 atC1.1 atC1.2 rfl rfl (fun _ _ => rfl) (Nat.le_of_ble_eq_true rfl) ⟨rfl, rfl, by simp only [rmo]; omega, by simp only [rmo]; omega⟩ (cs0 hcs) dX5_readAtom_112 (fun r11 μ => ?_)
      refine G_if_eq hX 139 (by decide) dX5_readAtom_115 ?_ ?_
      · refine G_aload_n hX 0 rfl rfl dX5_readAtom_139 ?_
        refine G_cVv hX 1 5 (fun ad adK => []) [] (fun z2 h2 => cX5_fail_ok (cx_l X) N μ z2 h2) ok_X5_fail lm_X5_75 atC1.1 atC1.2 rfl rfl (fun _ _ => rfl) (Nat.le_of_ble_eq_true rfl) ⟨rfl, rfl, by simp only [rmo]; omega, by simp only [rmo]; omega⟩ (cs0 hcs) dX5_readAtom_140 (fun μ => ?_)
        exact G_vret hX hQ dX5_readAtom_143
      · refine G_aload_n hX 0 rfl rfl dX5_readAtom_118 ?_
        refine gf_X5_19_C1 hX dX5_readAtom_119 (fun b_12 hb_12 => ?_)
        refine gf_X5_122_B0 hX hb_12 dX5_readAtom_122 ?_
        refine G_aload_n hX 0 rfl rfl dX5_readAtom_125 ?_
        refine G_cVi hX 1 5 (fun ad adK => []) [.ref (cx_ad X (b_12 + 7))] (fun z2 h2 => cX5_letterCode_ok (cx_l X) N μ z2 h2) ok_X5_letterCode lm_X5_165 atC1.1 atC1.2 rfl rfl (fun _ _ => rfl) (Nat.le_of_ble_eq_true rfl) ⟨rfl, rfl, by simp only [rmo]; omega, by simp only [rmo]; omega⟩ (cs0 hcs) dX5_readAtom_126 (fun r13 μ => ?_)
        refine G_cVv hX (b_12 + 7) 9 (fun ad adK => [.int r13]) [] (fun z2 h2 => cX9_emit_ok (cx_l X) N (b_12 + 7) r13 μ z2 h2) ok_X9_emit lm_X5_153 (atB_7 hb_12).1 (atB_7 hb_12).2 rfl rfl (fun _ _ => rfl) (Nat.le_of_ble_eq_true rfl) ⟨rfl, rfl, by simp only [rmo]; omega, by simp only [rmo]; omega⟩ (cs0 hcs) dX5_readAtom_129 (fun μ => ?_)
        refine G_aload_n hX 0 rfl rfl dX5_readAtom_132 ?_
        refine G_cVv hX 1 5 (fun ad adK => []) [] (fun z2 h2 => cX5_step_ok (cx_l X) N μ z2 h2) ok_X5_step lm_X5_34 atC1.1 atC1.2 rfl rfl (fun _ _ => rfl) (Nat.le_of_ble_eq_true rfl) ⟨rfl, rfl, by simp only [rmo]; omega, by simp only [rmo]; omega⟩ (cs0 hcs) dX5_readAtom_133 (fun μ => ?_)
        refine G_goto hX 143 (by decide) dX5_readAtom_136 ?_
        exact G_vret hX hQ dX5_readAtom_143
set_option maxHeartbeats 4000000 in
set_option maxRecDepth 100000 in
theorem gX5_readAtom_44 {X : Ctx} {z : Unit × Mem} {d : Nat} (hX : Fx wC X cX5_readAtom 2 RX5 none (rmo (3 * d + 4) (67 * d + 113))) (hQ : Qx_v wC X z) (hcs : cx_cells X = 0 ∧ cx_slots X = 0) (N : Nat) (rs : Int32 → Mem → Option (Unit × Mem)) (hrs : ∀ (l : Launch) (p : Int32) (μ : Mem) (z : Unit × Mem), rs p μ = some z → Mv wC l yX5_readSum cX5_readSum 4 (rmo (3 * d + 3) (67 * d + 90)) (fun ad adK => [.ref (ad 1), .int p]) μ z) (μ : Mem) : G wC X z 44 [(0, .ref (cx_ad X 1))] [] μ (fX5_readAtom_44 N rs μ) := by
  unfold fX5_readAtom_44
  refine G_aload_n hX 0 rfl rfl dX5_readAtom_44 ?_
  refine gf_X5_37_C1 hX dX5_readAtom_45 ?_
  refine G_nmi (fun x3 => ?_)
  refine G_sipush hX (257 : Int32) rfl dX5_readAtom_48 ?_
  refine G_icmp_ne hX 88 (by decide) dX5_readAtom_51 ?_ ?_
  · exact G_sub [0] rfl (gX5_readAtom_88 hX hQ hcs N rs hrs μ)
  · refine G_aload_n hX 0 rfl rfl dX5_readAtom_54 ?_
    refine gf_X5_31_C1 hX dX5_readAtom_55 ?_
    refine G_nmi (fun x4 => ?_)
    refine G_aload_n hX 0 rfl rfl dX5_readAtom_58 ?_
    refine gf_X5_159_C1 hX dX5_readAtom_59 ?_
    refine G_nmi (fun x5 => ?_)
    refine G_isub hX dX5_readAtom_62 ?_
    refine G_iconst hX (4 : Int32) rfl dX5_readAtom_63 ?_
    refine G_icmp_gt hX 88 (by decide) dX5_readAtom_64 ?_ ?_
    · exact G_sub [0] rfl (gX5_readAtom_88 hX hQ hcs N rs hrs μ)
    · refine G_aload_n hX 0 rfl rfl dX5_readAtom_67 ?_
      refine gf_X5_19_C1 hX dX5_readAtom_68 (fun b_6 hb_6 => ?_)
      refine gf_X5_122_B0 hX hb_6 dX5_readAtom_71 ?_
      refine G_aload_n hX 0 rfl rfl dX5_readAtom_74 ?_
      refine G_cVi hX 1 5 (fun ad adK => []) [.ref (cx_ad X (b_6 + 7))] (fun z2 h2 => cX5_digits_ok (cx_l X) N μ z2 h2) ok_X5_digits lm_X5_162 atC1.1 atC1.2 rfl rfl (fun _ _ => rfl) (Nat.le_of_ble_eq_true rfl) ⟨rfl, rfl, by simp only [rmo]; omega, by simp only [rmo]; omega⟩ (cs0 hcs) dX5_readAtom_75 (fun r7 μ => ?_)
      refine G_cVv hX (b_6 + 7) 9 (fun ad adK => [.int r7]) [] (fun z2 h2 => cX9_emit_ok (cx_l X) N (b_6 + 7) r7 μ z2 h2) ok_X9_emit lm_X5_153 (atB_7 hb_6).1 (atB_7 hb_6).2 rfl rfl (fun _ _ => rfl) (Nat.le_of_ble_eq_true rfl) ⟨rfl, rfl, by simp only [rmo]; omega, by simp only [rmo]; omega⟩ (cs0 hcs) dX5_readAtom_78 (fun μ => ?_)
      refine G_aload_n hX 0 rfl rfl dX5_readAtom_81 ?_
      refine G_cVv hX 1 5 (fun ad adK => []) [] (fun z2 h2 => cX5_step_ok (cx_l X) N μ z2 h2) ok_X5_step lm_X5_34 atC1.1 atC1.2 rfl rfl (fun _ _ => rfl) (Nat.le_of_ble_eq_true rfl) ⟨rfl, rfl, by simp only [rmo]; omega, by simp only [rmo]; omega⟩ (cs0 hcs) dX5_readAtom_82 (fun μ => ?_)
      refine G_goto hX 143 (by decide) dX5_readAtom_85 ?_
      exact G_vret hX hQ dX5_readAtom_143
set_option maxHeartbeats 4000000 in
set_option maxRecDepth 100000 in
theorem gX5_readAtom_E {X : Ctx} {z : Unit × Mem} {d : Nat} (hX : Fx wC X cX5_readAtom 2 RX5 none (rmo (3 * d + 4) (67 * d + 113))) (hQ : Qx_v wC X z) (hcs : cx_cells X = 0 ∧ cx_slots X = 0) (N : Nat) (rs : Int32 → Mem → Option (Unit × Mem)) (hrs : ∀ (l : Launch) (p : Int32) (μ : Mem) (z : Unit × Mem), rs p μ = some z → Mv wC l yX5_readSum cX5_readSum 4 (rmo (3 * d + 3) (67 * d + 90)) (fun ad adK => [.ref (ad 1), .int p]) μ z) (p0 : Int32) (μ : Mem) : G wC X z 0 [(0, .ref (cx_ad X 1)), (1, .int p0)] [] μ (fX5_readAtom N rs p0 μ) := by
  unfold fX5_readAtom
  refine G_aload_n hX 0 rfl rfl dX5_readAtom_0 ?_
  refine gf_X5_15_C1 hX dX5_readAtom_1 ?_
  refine G_nmi (fun x1 => ?_)
  refine G_iconst hX (-1 : Int32) rfl dX5_readAtom_4 ?_
  refine G_icmp_eq hX 9 (by decide) dX5_readAtom_5 ?_ ?_
  · refine G_aload_n hX 0 rfl rfl dX5_readAtom_9 ?_
    refine gf_X5_37_C1 hX dX5_readAtom_10 ?_
    refine G_nmi (fun x2 => ?_)
    refine G_bipush hX (40 : Int32) rfl dX5_readAtom_13 ?_
    refine G_icmp_ne hX 44 (by decide) dX5_readAtom_15 ?_ ?_
    · exact G_sub [0] rfl (gX5_readAtom_44 hX hQ hcs N rs hrs μ)
    · refine G_iload_n hX 1 rfl rfl dX5_readAtom_18 ?_
      refine G_bipush hX (6 : Int32) rfl dX5_readAtom_19 ?_
      refine G_icmp_ge hX 44 (by decide) dX5_readAtom_21 ?_ ?_
      · exact G_sub [0] rfl (gX5_readAtom_44 hX hQ hcs N rs hrs μ)
      · refine G_aload_n hX 0 rfl rfl dX5_readAtom_24 ?_
        refine G_cVv hX 1 5 (fun ad adK => []) [] (fun z2 h2 => cX5_step_ok (cx_l X) N μ z2 h2) ok_X5_step lm_X5_34 atC1.1 atC1.2 rfl rfl (fun _ _ => rfl) (Nat.le_of_ble_eq_true rfl) ⟨rfl, rfl, by simp only [rmo]; omega, by simp only [rmo]; omega⟩ (cs0 hcs) dX5_readAtom_25 (fun μ => ?_)
        refine G_aload_n hX 0 rfl rfl dX5_readAtom_28 ?_
        refine G_iload_n hX 1 rfl rfl dX5_readAtom_29 ?_
        refine G_iconst hX (1 : Int32) rfl dX5_readAtom_30 ?_
        refine G_iadd hX dX5_readAtom_31 ?_
        refine G_cVv hX 1 5 (fun ad adK => [.int (p0 + (1 : Int32))]) [] (fun z2 h2 => hrs (cx_l X) (p0 + (1 : Int32)) μ z2 h2) ok_X5_readSum lm_X5_129 atC1.1 atC1.2 rfl rfl (fun _ _ => rfl) (Nat.le_of_ble_eq_true rfl) ⟨rfl, rfl, by simp only [rmo]; omega, by simp only [rmo]; omega⟩ (cs0 hcs) dX5_readAtom_32 (fun μ => ?_)
        refine G_aload_n hX 0 rfl rfl dX5_readAtom_35 ?_
        refine G_bipush hX (41 : Int32) rfl dX5_readAtom_36 ?_
        refine G_cVv hX 1 5 (fun ad adK => [.int (41 : Int32)]) [] (fun z2 h2 => cX5_take_ok (cx_l X) N (41 : Int32) μ z2 h2) ok_X5_take lm_X5_43 atC1.1 atC1.2 rfl rfl (fun _ _ => rfl) (Nat.le_of_ble_eq_true rfl) ⟨rfl, rfl, by simp only [rmo]; omega, by simp only [rmo]; omega⟩ (cs0 hcs) dX5_readAtom_38 (fun μ => ?_)
        refine G_goto hX 143 (by decide) dX5_readAtom_41 ?_
        exact G_vret hX hQ dX5_readAtom_143
  · exact G_vret hX hQ dX5_readAtom_8
theorem cX5_readAtom_ok (l : Launch) {d : Nat} (N : Nat) (rs : Int32 → Mem → Option (Unit × Mem)) (hrs : ∀ (l : Launch) (p : Int32) (μ : Mem) (z : Unit × Mem), rs p μ = some z → Mv wC l yX5_readSum cX5_readSum 4 (rmo (3 * d + 3) (67 * d + 90)) (fun ad adK => [.ref (ad 1), .int p]) μ z) (p0 : Int32) (μ : Mem) (z : Unit × Mem) (h : fX5_readAtom N rs p0 μ = some z) : Mv wC l yX5_readAtom cX5_readAtom 2 (rmo (3 * d + 4) (67 * d + 113)) (fun ad adK => [.ref (ad 1), .int p0]) μ z := Mv.of h (by decide +kernel) (fun _ _ => Nat.le_of_ble_eq_true rfl) (fun X hX hQ hl hcs => gX5_readAtom_E hX hQ hcs N rs hrs p0 μ)
/-! ===== DutyCase$Reader.readTerm(I)V ===== -/
set_option maxHeartbeats 4000000 in
set_option maxRecDepth 100000 in
theorem gX5_readTerm_56 {X : Ctx} {z : Unit × Mem} {d : Nat} (hX : Fx wC X cX5_readTerm 4 RX5 none (rmo (3 * d + 5) (67 * d + 134))) (hQ : Qx_v wC X z) (hcs : cx_cells X = 0 ∧ cx_slots X = 0) (N : Nat) (rs : Int32 → Mem → Option (Unit × Mem)) (hrs : ∀ (l : Launch) (p : Int32) (μ : Mem) (z : Unit × Mem), rs p μ = some z → Mv wC l yX5_readSum cX5_readSum 4 (rmo (3 * d + 3) (67 * d + 90)) (fun ad adK => [.ref (ad 1), .int p]) μ z) (k7 : Int32 → Int32 → Mem → Option (Unit × Mem)) (hk7 : ∀ (v1 : Int32) (v2 : Int32) (μ : Mem), G wC X z 7 [(0, .ref (cx_ad X 1)), (1, .int v1), (2, .int v2)] [] μ (k7 v1 v2 μ)) (v1 : Int32) (v2 : Int32) (s0 : Int32) (μ : Mem) : G wC X z 56 [(0, .ref (cx_ad X 1)), (1, .int v1), (2, .int v2)] [.int s0] μ (fX5_readTerm_56 N rs k7 v1 v2 s0 μ) := by
  unfold fX5_readTerm_56
  refine G_istore_n hX [(3, .int s0), (0, .ref (cx_ad X 1)), (1, .int v1), (2, .int v2)] rfl (by decide) rfl dX5_readTerm_56 ?_
  refine G_aload_n hX 1 rfl rfl dX5_readTerm_57 ?_
  refine G_cVv hX 1 5 (fun ad adK => []) [] (fun z2 h2 => cX5_step_ok (cx_l X) N μ z2 h2) ok_X5_step lm_X5_34 atC1.1 atC1.2 rfl rfl (fun _ _ => rfl) (Nat.le_of_ble_eq_true rfl) ⟨rfl, rfl, by simp only [rmo]; omega, by simp only [rmo]; omega⟩ (cs0 hcs) dX5_readTerm_58 (fun μ => ?_)
  refine G_aload_n hX 1 rfl rfl dX5_readTerm_61 ?_
  refine G_iload_n hX 2 rfl rfl dX5_readTerm_62 ?_
  refine G_cVv hX 1 5 (fun ad adK => [.int v1]) [] (fun z2 h2 => cX5_readAtom_ok (cx_l X) N rs hrs v1 μ z2 h2) ok_X5_readAtom lm_X5_156 atC1.1 atC1.2 rfl rfl (fun _ _ => rfl) (Nat.le_of_ble_eq_true rfl) ⟨rfl, rfl, by simp only [rmo]; omega, by simp only [rmo]; omega⟩ (cs0 hcs) dX5_readTerm_63 (fun μ => ?_)
  refine G_aload_n hX 1 rfl rfl dX5_readTerm_66 ?_
  refine gf_X5_19_C1 hX dX5_readTerm_67 (fun b_6 hb_6 => ?_)
  refine gf_X5_122_B0 hX hb_6 dX5_readTerm_70 ?_
  refine G_iload_n hX 0 rfl rfl dX5_readTerm_73 ?_
  refine G_cVv hX (b_6 + 7) 9 (fun ad adK => [.int s0]) [] (fun z2 h2 => cX9_emit_ok (cx_l X) N (b_6 + 7) s0 μ z2 h2) ok_X9_emit lm_X5_153 (atB_7 hb_6).1 (atB_7 hb_6).2 rfl rfl (fun _ _ => rfl) (Nat.le_of_ble_eq_true rfl) ⟨rfl, rfl, by simp only [rmo]; omega, by simp only [rmo]; omega⟩ (cs0 hcs) dX5_readTerm_74 (fun μ => ?_)
  refine G_iincN hX 3 (fun x7 => [(2, .int x7), (3, .int s0), (0, .ref (cx_ad X 1)), (1, .int v1)]) rfl rfl (by decide) (fun _ => rfl) dX5_readTerm_77 (fun x7 => ?_)
  refine G_goto hX 7 (by decide) dX5_readTerm_80 ?_
  exact G_sub [2, 3, 0] rfl (hk7 v1 x7 μ)
set_option maxHeartbeats 4000000 in
set_option maxRecDepth 100000 in
theorem gX5_readTerm_7 {X : Ctx} {z : Unit × Mem} {d : Nat} (hX : Fx wC X cX5_readTerm 4 RX5 none (rmo (3 * d + 5) (67 * d + 134))) (hQ : Qx_v wC X z) (hcs : cx_cells X = 0 ∧ cx_slots X = 0) (N : Nat) (rs : Int32 → Mem → Option (Unit × Mem)) (hrs : ∀ (l : Launch) (p : Int32) (μ : Mem) (z : Unit × Mem), rs p μ = some z → Mv wC l yX5_readSum cX5_readSum 4 (rmo (3 * d + 3) (67 * d + 90)) (fun ad adK => [.ref (ad 1), .int p]) μ z) : ∀ (n : Nat) (v1 : Int32) (v2 : Int32) (μ : Mem), G wC X z 7 [(0, .ref (cx_ad X 1)), (1, .int v1), (2, .int v2)] [] μ (fX5_readTerm_7 N rs n v1 v2 μ) := by
  intro n
  induction n with
  | zero =>
    intro v1 v2 μ
    exact G_none
  | succ n ih =>
    intro v1 v2 μ
    unfold fX5_readTerm_7
    refine G_iload_n hX 2 rfl rfl dX5_readTerm_7 ?_
    refine G_sipush hX (400 : Int32) rfl dX5_readTerm_8 ?_
    refine G_icmp_ge hX 83 (by decide) dX5_readTerm_11 ?_ ?_
    · exact G_vret hX hQ dX5_readTerm_83
    · refine G_aload_n hX 0 rfl rfl dX5_readTerm_14 ?_
      refine gf_X5_15_C1 hX dX5_readTerm_15 ?_
      refine G_nmi (fun x1 => ?_)
      refine G_iconst hX (-1 : Int32) rfl dX5_readTerm_18 ?_
      refine G_icmp_ne hX 83 (by decide) dX5_readTerm_19 ?_ ?_
      · exact G_vret hX hQ dX5_readTerm_83
      · refine G_aload_n hX 0 rfl rfl dX5_readTerm_22 ?_
        refine gf_X5_37_C1 hX dX5_readTerm_23 ?_
        refine G_nmi (fun x2 => ?_)
        refine G_bipush hX (42 : Int32) rfl dX5_readTerm_26 ?_
        refine G_icmp_eq hX 40 (by decide) dX5_readTerm_28 ?_ ?_
        · refine G_aload_n hX 0 rfl rfl dX5_readTerm_40 ?_
          refine gf_X5_37_C1 hX dX5_readTerm_41 ?_
          refine G_nmi (fun x3 => ?_)
          refine G_bipush hX (42 : Int32) rfl dX5_readTerm_44 ?_
          refine G_icmp_ne hX 54 (by decide) dX5_readTerm_46 ?_ ?_
          · refine G_bipush hX (-9 : Int32) rfl dX5_readTerm_54 ?_
            exact G_sub [0, 1, 2] rfl (gX5_readTerm_56 hX hQ hcs N rs hrs (fun v1 v2 μ => fX5_readTerm_7 N rs n v1 v2 μ) (fun v1 v2  μ => ih v1 v2  μ) v1 v2 (-9 : Int32) μ)
          · refine G_bipush hX (-8 : Int32) rfl dX5_readTerm_49 ?_
            refine G_goto hX 56 (by decide) dX5_readTerm_51 ?_
            exact G_sub [0, 1, 2] rfl (gX5_readTerm_56 hX hQ hcs N rs hrs (fun v1 v2 μ => fX5_readTerm_7 N rs n v1 v2 μ) (fun v1 v2  μ => ih v1 v2  μ) v1 v2 (-8 : Int32) μ)
        · refine G_aload_n hX 0 rfl rfl dX5_readTerm_31 ?_
          refine gf_X5_37_C1 hX dX5_readTerm_32 ?_
          refine G_nmi (fun x4 => ?_)
          refine G_bipush hX (47 : Int32) rfl dX5_readTerm_35 ?_
          refine G_icmp_ne hX 83 (by decide) dX5_readTerm_37 ?_ ?_
          · exact G_vret hX hQ dX5_readTerm_83
          · refine G_aload_n hX 0 rfl rfl dX5_readTerm_40 ?_
            refine gf_X5_37_C1 hX dX5_readTerm_41 ?_
            refine G_nmi (fun x5 => ?_)
            refine G_bipush hX (42 : Int32) rfl dX5_readTerm_44 ?_
            refine G_icmp_ne hX 54 (by decide) dX5_readTerm_46 ?_ ?_
            · refine G_bipush hX (-9 : Int32) rfl dX5_readTerm_54 ?_
              exact G_sub [0, 1, 2] rfl (gX5_readTerm_56 hX hQ hcs N rs hrs (fun v1 v2 μ => fX5_readTerm_7 N rs n v1 v2 μ) (fun v1 v2  μ => ih v1 v2  μ) v1 v2 (-9 : Int32) μ)
            · refine G_bipush hX (-8 : Int32) rfl dX5_readTerm_49 ?_
              refine G_goto hX 56 (by decide) dX5_readTerm_51 ?_
              exact G_sub [0, 1, 2] rfl (gX5_readTerm_56 hX hQ hcs N rs hrs (fun v1 v2 μ => fX5_readTerm_7 N rs n v1 v2 μ) (fun v1 v2  μ => ih v1 v2  μ) v1 v2 (-8 : Int32) μ)
set_option maxHeartbeats 4000000 in
set_option maxRecDepth 100000 in
theorem gX5_readTerm_E {X : Ctx} {z : Unit × Mem} {d : Nat} (hX : Fx wC X cX5_readTerm 4 RX5 none (rmo (3 * d + 5) (67 * d + 134))) (hQ : Qx_v wC X z) (hcs : cx_cells X = 0 ∧ cx_slots X = 0) (N : Nat) (rs : Int32 → Mem → Option (Unit × Mem)) (hrs : ∀ (l : Launch) (p : Int32) (μ : Mem) (z : Unit × Mem), rs p μ = some z → Mv wC l yX5_readSum cX5_readSum 4 (rmo (3 * d + 3) (67 * d + 90)) (fun ad adK => [.ref (ad 1), .int p]) μ z) (p0 : Int32) (μ : Mem) : G wC X z 0 [(0, .ref (cx_ad X 1)), (1, .int p0)] [] μ (fX5_readTerm N rs p0 μ) := by
  unfold fX5_readTerm
  refine G_aload_n hX 0 rfl rfl dX5_readTerm_0 ?_
  refine G_iload_n hX 1 rfl rfl dX5_readTerm_1 ?_
  refine G_cVv hX 1 5 (fun ad adK => [.int p0]) [] (fun z2 h2 => cX5_readAtom_ok (cx_l X) N rs hrs p0 μ z2 h2) ok_X5_readAtom lm_X5_156 atC1.1 atC1.2 rfl rfl (fun _ _ => rfl) (Nat.le_of_ble_eq_true rfl) ⟨rfl, rfl, by simp only [rmo]; omega, by simp only [rmo]; omega⟩ (cs0 hcs) dX5_readTerm_2 (fun μ => ?_)
  refine G_iconst hX (0 : Int32) rfl dX5_readTerm_5 ?_
  refine G_istore_n hX [(2, .int (0 : Int32)), (0, .ref (cx_ad X 1)), (1, .int p0)] rfl (by decide) rfl dX5_readTerm_6 ?_
  exact G_sub [1, 2, 0] rfl (gX5_readTerm_7 hX hQ hcs N rs hrs N p0 (0 : Int32) μ)
theorem cX5_readTerm_ok (l : Launch) {d : Nat} (N : Nat) (rs : Int32 → Mem → Option (Unit × Mem)) (hrs : ∀ (l : Launch) (p : Int32) (μ : Mem) (z : Unit × Mem), rs p μ = some z → Mv wC l yX5_readSum cX5_readSum 4 (rmo (3 * d + 3) (67 * d + 90)) (fun ad adK => [.ref (ad 1), .int p]) μ z) (p0 : Int32) (μ : Mem) (z : Unit × Mem) (h : fX5_readTerm N rs p0 μ = some z) : Mv wC l yX5_readTerm cX5_readTerm 4 (rmo (3 * d + 5) (67 * d + 134)) (fun ad adK => [.ref (ad 1), .int p0]) μ z := Mv.of h (by decide +kernel) (fun _ _ => Nat.le_of_ble_eq_true rfl) (fun X hX hQ hl hcs => gX5_readTerm_E hX hQ hcs N rs hrs p0 μ)
/-! ===== DutyCase$Reader.readSum(I)V ===== -/
set_option maxHeartbeats 4000000 in
set_option maxRecDepth 100000 in
theorem gX5_readSum_56 {X : Ctx} {z : Unit × Mem} {d : Nat} (hX : Fx wC X cX5_readSum 4 RX5 none (rmo (3 * d + 6) (67 * d + 157))) (hQ : Qx_v wC X z) (hcs : cx_cells X = 0 ∧ cx_slots X = 0) (N : Nat) (rs : Int32 → Mem → Option (Unit × Mem)) (hrs : ∀ (l : Launch) (p : Int32) (μ : Mem) (z : Unit × Mem), rs p μ = some z → Mv wC l yX5_readSum cX5_readSum 4 (rmo (3 * d + 3) (67 * d + 90)) (fun ad adK => [.ref (ad 1), .int p]) μ z) (k7 : Int32 → Int32 → Mem → Option (Unit × Mem)) (hk7 : ∀ (v1 : Int32) (v2 : Int32) (μ : Mem), G wC X z 7 [(0, .ref (cx_ad X 1)), (1, .int v1), (2, .int v2)] [] μ (k7 v1 v2 μ)) (v1 : Int32) (v2 : Int32) (s0 : Int32) (μ : Mem) : G wC X z 56 [(0, .ref (cx_ad X 1)), (1, .int v1), (2, .int v2)] [.int s0] μ (fX5_readSum_56 N rs k7 v1 v2 s0 μ) := by
  unfold fX5_readSum_56
  refine G_istore_n hX [(3, .int s0), (0, .ref (cx_ad X 1)), (1, .int v1), (2, .int v2)] rfl (by decide) rfl dX5_readSum_56 ?_
  refine G_aload_n hX 1 rfl rfl dX5_readSum_57 ?_
  refine G_cVv hX 1 5 (fun ad adK => []) [] (fun z2 h2 => cX5_step_ok (cx_l X) N μ z2 h2) ok_X5_step lm_X5_34 atC1.1 atC1.2 rfl rfl (fun _ _ => rfl) (Nat.le_of_ble_eq_true rfl) ⟨rfl, rfl, by simp only [rmo]; omega, by simp only [rmo]; omega⟩ (cs0 hcs) dX5_readSum_58 (fun μ => ?_)
  refine G_aload_n hX 1 rfl rfl dX5_readSum_61 ?_
  refine G_iload_n hX 2 rfl rfl dX5_readSum_62 ?_
  refine G_cVv hX 1 5 (fun ad adK => [.int v1]) [] (fun z2 h2 => cX5_readTerm_ok (cx_l X) N rs hrs v1 μ z2 h2) ok_X5_readTerm lm_X5_150 atC1.1 atC1.2 rfl rfl (fun _ _ => rfl) (Nat.le_of_ble_eq_true rfl) ⟨rfl, rfl, by simp only [rmo]; omega, by simp only [rmo]; omega⟩ (cs0 hcs) dX5_readSum_63 (fun μ => ?_)
  refine G_aload_n hX 1 rfl rfl dX5_readSum_66 ?_
  refine gf_X5_19_C1 hX dX5_readSum_67 (fun b_6 hb_6 => ?_)
  refine gf_X5_122_B0 hX hb_6 dX5_readSum_70 ?_
  refine G_iload_n hX 0 rfl rfl dX5_readSum_73 ?_
  refine G_cVv hX (b_6 + 7) 9 (fun ad adK => [.int s0]) [] (fun z2 h2 => cX9_emit_ok (cx_l X) N (b_6 + 7) s0 μ z2 h2) ok_X9_emit lm_X5_153 (atB_7 hb_6).1 (atB_7 hb_6).2 rfl rfl (fun _ _ => rfl) (Nat.le_of_ble_eq_true rfl) ⟨rfl, rfl, by simp only [rmo]; omega, by simp only [rmo]; omega⟩ (cs0 hcs) dX5_readSum_74 (fun μ => ?_)
  refine G_iincN hX 3 (fun x7 => [(2, .int x7), (3, .int s0), (0, .ref (cx_ad X 1)), (1, .int v1)]) rfl rfl (by decide) (fun _ => rfl) dX5_readSum_77 (fun x7 => ?_)
  refine G_goto hX 7 (by decide) dX5_readSum_80 ?_
  exact G_sub [2, 3, 0] rfl (hk7 v1 x7 μ)
set_option maxHeartbeats 4000000 in
set_option maxRecDepth 100000 in
theorem gX5_readSum_7 {X : Ctx} {z : Unit × Mem} {d : Nat} (hX : Fx wC X cX5_readSum 4 RX5 none (rmo (3 * d + 6) (67 * d + 157))) (hQ : Qx_v wC X z) (hcs : cx_cells X = 0 ∧ cx_slots X = 0) (N : Nat) (rs : Int32 → Mem → Option (Unit × Mem)) (hrs : ∀ (l : Launch) (p : Int32) (μ : Mem) (z : Unit × Mem), rs p μ = some z → Mv wC l yX5_readSum cX5_readSum 4 (rmo (3 * d + 3) (67 * d + 90)) (fun ad adK => [.ref (ad 1), .int p]) μ z) : ∀ (n : Nat) (v1 : Int32) (v2 : Int32) (μ : Mem), G wC X z 7 [(0, .ref (cx_ad X 1)), (1, .int v1), (2, .int v2)] [] μ (fX5_readSum_7 N rs n v1 v2 μ) := by
  intro n
  induction n with
  | zero =>
    intro v1 v2 μ
    exact G_none
  | succ n ih =>
    intro v1 v2 μ
    unfold fX5_readSum_7
    refine G_iload_n hX 2 rfl rfl dX5_readSum_7 ?_
    refine G_sipush hX (400 : Int32) rfl dX5_readSum_8 ?_
    refine G_icmp_ge hX 83 (by decide) dX5_readSum_11 ?_ ?_
    · exact G_vret hX hQ dX5_readSum_83
    · refine G_aload_n hX 0 rfl rfl dX5_readSum_14 ?_
      refine gf_X5_15_C1 hX dX5_readSum_15 ?_
      refine G_nmi (fun x1 => ?_)
      refine G_iconst hX (-1 : Int32) rfl dX5_readSum_18 ?_
      refine G_icmp_ne hX 83 (by decide) dX5_readSum_19 ?_ ?_
      · exact G_vret hX hQ dX5_readSum_83
      · refine G_aload_n hX 0 rfl rfl dX5_readSum_22 ?_
        refine gf_X5_37_C1 hX dX5_readSum_23 ?_
        refine G_nmi (fun x2 => ?_)
        refine G_bipush hX (43 : Int32) rfl dX5_readSum_26 ?_
        refine G_icmp_eq hX 40 (by decide) dX5_readSum_28 ?_ ?_
        · refine G_aload_n hX 0 rfl rfl dX5_readSum_40 ?_
          refine gf_X5_37_C1 hX dX5_readSum_41 ?_
          refine G_nmi (fun x3 => ?_)
          refine G_bipush hX (43 : Int32) rfl dX5_readSum_44 ?_
          refine G_icmp_ne hX 54 (by decide) dX5_readSum_46 ?_ ?_
          · refine G_bipush hX (-7 : Int32) rfl dX5_readSum_54 ?_
            exact G_sub [0, 1, 2] rfl (gX5_readSum_56 hX hQ hcs N rs hrs (fun v1 v2 μ => fX5_readSum_7 N rs n v1 v2 μ) (fun v1 v2  μ => ih v1 v2  μ) v1 v2 (-7 : Int32) μ)
          · refine G_bipush hX (-6 : Int32) rfl dX5_readSum_49 ?_
            refine G_goto hX 56 (by decide) dX5_readSum_51 ?_
            exact G_sub [0, 1, 2] rfl (gX5_readSum_56 hX hQ hcs N rs hrs (fun v1 v2 μ => fX5_readSum_7 N rs n v1 v2 μ) (fun v1 v2  μ => ih v1 v2  μ) v1 v2 (-6 : Int32) μ)
        · refine G_aload_n hX 0 rfl rfl dX5_readSum_31 ?_
          refine gf_X5_37_C1 hX dX5_readSum_32 ?_
          refine G_nmi (fun x4 => ?_)
          refine G_bipush hX (45 : Int32) rfl dX5_readSum_35 ?_
          refine G_icmp_ne hX 83 (by decide) dX5_readSum_37 ?_ ?_
          · exact G_vret hX hQ dX5_readSum_83
          · refine G_aload_n hX 0 rfl rfl dX5_readSum_40 ?_
            refine gf_X5_37_C1 hX dX5_readSum_41 ?_
            refine G_nmi (fun x5 => ?_)
            refine G_bipush hX (43 : Int32) rfl dX5_readSum_44 ?_
            refine G_icmp_ne hX 54 (by decide) dX5_readSum_46 ?_ ?_
            · refine G_bipush hX (-7 : Int32) rfl dX5_readSum_54 ?_
              exact G_sub [0, 1, 2] rfl (gX5_readSum_56 hX hQ hcs N rs hrs (fun v1 v2 μ => fX5_readSum_7 N rs n v1 v2 μ) (fun v1 v2  μ => ih v1 v2  μ) v1 v2 (-7 : Int32) μ)
            · refine G_bipush hX (-6 : Int32) rfl dX5_readSum_49 ?_
              refine G_goto hX 56 (by decide) dX5_readSum_51 ?_
              exact G_sub [0, 1, 2] rfl (gX5_readSum_56 hX hQ hcs N rs hrs (fun v1 v2 μ => fX5_readSum_7 N rs n v1 v2 μ) (fun v1 v2  μ => ih v1 v2  μ) v1 v2 (-6 : Int32) μ)
set_option maxHeartbeats 4000000 in
set_option maxRecDepth 100000 in
theorem gX5_readSum_E {X : Ctx} {z : Unit × Mem} {d : Nat} (hX : Fx wC X cX5_readSum 4 RX5 none (rmo (3 * d + 6) (67 * d + 157))) (hQ : Qx_v wC X z) (hcs : cx_cells X = 0 ∧ cx_slots X = 0) (N : Nat) (rs : Int32 → Mem → Option (Unit × Mem)) (hrs : ∀ (l : Launch) (p : Int32) (μ : Mem) (z : Unit × Mem), rs p μ = some z → Mv wC l yX5_readSum cX5_readSum 4 (rmo (3 * d + 3) (67 * d + 90)) (fun ad adK => [.ref (ad 1), .int p]) μ z) (p0 : Int32) (μ : Mem) : G wC X z 0 [(0, .ref (cx_ad X 1)), (1, .int p0)] [] μ (fX5_readSum N rs p0 μ) := by
  unfold fX5_readSum
  refine G_aload_n hX 0 rfl rfl dX5_readSum_0 ?_
  refine G_iload_n hX 1 rfl rfl dX5_readSum_1 ?_
  refine G_cVv hX 1 5 (fun ad adK => [.int p0]) [] (fun z2 h2 => cX5_readTerm_ok (cx_l X) N rs hrs p0 μ z2 h2) ok_X5_readTerm lm_X5_150 atC1.1 atC1.2 rfl rfl (fun _ _ => rfl) (Nat.le_of_ble_eq_true rfl) ⟨rfl, rfl, by simp only [rmo]; omega, by simp only [rmo]; omega⟩ (cs0 hcs) dX5_readSum_2 (fun μ => ?_)
  refine G_iconst hX (0 : Int32) rfl dX5_readSum_5 ?_
  refine G_istore_n hX [(2, .int (0 : Int32)), (0, .ref (cx_ad X 1)), (1, .int p0)] rfl (by decide) rfl dX5_readSum_6 ?_
  exact G_sub [1, 2, 0] rfl (gX5_readSum_7 hX hQ hcs N rs hrs N p0 (0 : Int32) μ)
theorem cX5_readSum_ok (l : Launch) {d : Nat} (N : Nat) (rs : Int32 → Mem → Option (Unit × Mem)) (hrs : ∀ (l : Launch) (p : Int32) (μ : Mem) (z : Unit × Mem), rs p μ = some z → Mv wC l yX5_readSum cX5_readSum 4 (rmo (3 * d + 3) (67 * d + 90)) (fun ad adK => [.ref (ad 1), .int p]) μ z) (p0 : Int32) (μ : Mem) (z : Unit × Mem) (h : fX5_readSum N rs p0 μ = some z) : Mv wC l yX5_readSum cX5_readSum 4 (rmo (3 * d + 6) (67 * d + 157)) (fun ad adK => [.ref (ad 1), .int p0]) μ z := Mv.of h (by decide +kernel) (fun _ _ => Nat.le_of_ble_eq_true rfl) (fun X hX hQ hl hcs => gX5_readSum_E hX hQ hcs N rs hrs p0 μ)
theorem cX5_rs_ok (N : Nat) : ∀ (d : Nat) (l : Launch) (p : Int32) (μ : Mem) (z : Unit × Mem), fX5_rs d N p μ = some z → Mv wC l yX5_readSum cX5_readSum 4 (rmo (3 * d + 3) (67 * d + 90)) (fun ad adK => [.ref (ad 1), .int p]) μ z := by
  intro d
  induction d with
  | zero =>
    intro l p μ z h
    cases h
  | succ d ih =>
    intro l p μ z h
    have e1 : 3 * (d + 1) + 3 = 3 * d + 6 := by omega
    have e2 : 67 * (d + 1) + 90 = 67 * d + 157 := by omega
    rw [e1, e2]
    exact cX5_readSum_ok l N (fX5_rs d N) ih p μ z h
theorem cX5_rs8_ok (l : Launch) (N : Nat) (p : Int32) (μ : Mem) (z : Unit × Mem) (h : fX5_rs8 N p μ = some z) : Mv wC l yX5_readSum cX5_readSum 4 (rmo 27 626) (fun ad adK => [.ref (ad 1), .int p]) μ z := cX5_rs_ok N 8 l p μ z h
