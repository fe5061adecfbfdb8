set_option maxRecDepth 100000 in
theorem lf_J0_38 : Cond.fieldLink RJ0 38 "java/lang/String" "COMPACT_STRINGS" "Z" ∈ tb := tb_4 (List.mem_of_getElem? (i := 38) rfl) rfl
set_option maxRecDepth 100000 in
theorem lf_J0_1053 : Cond.fieldLink RJ0 1053 "jdk/internal/util/Preconditions" "SIOOBE_FORMATTER" "Ljava/util/function/BiFunction;" ∈ tb := tb_4 (List.mem_of_getElem? (i := 54) rfl) rfl
set_option maxRecDepth 100000 in
theorem lf_J0_9 : Cond.fieldLink RJ0 9 "java/lang/String" "value" "[B" ∈ tb := tb_9 (List.mem_of_getElem? (i := 181) rfl) rfl
set_option maxRecDepth 100000 in
theorem lf_J0_15 : Cond.fieldLink RJ0 15 "java/lang/String" "coder" "B" ∈ tb := tb_9 (List.mem_of_getElem? (i := 182) rfl) rfl
section
variable {α : Type} {w : Wld} {X : Ctx} {z : α × Mem} {cc : ByteArray} {nL : Nat} {own : String} {ret : Option FieldType} {R : Room} {pc : Nat} {lv : List (Nat × Value)} {st : List Value} {μ : Mem} {o : Option (α × Mem)}
theorem G_tret {ty : FieldType} {z : Int32 × Mem} {v : Int32} (hX : Fx w X cc nL own (some ty) R) (hQ : Qx_i w X z) (hn : narrow ty (.int v) = .int v) (d : decode cc pc = .ok (.ireturn, 1)) : G w X z pc lv [.int v] μ (some (v, μ)) := by
  intro h H locs ls hl hP hS
  cases h
  have eA := hX.2.2.2.2.2.2.2.2.2.2.2.2.2.1
  rw [eA] at hS
  have hlocks := hX.2.2.2.2.2.2.2.2.2.1
  rw [show cx_Q X = _ from hQ]
  exact W.zret (v := v) hX.1 hX.2.1 hX.2.2.2.2.2.2.2.2.2.2.1 hn (fun t ht hW => ⟨⟨v, (), rfl, rfl, by show va_P _ _ _ t.heap; rw [ht]; exact hP⟩, hS.F ht⟩) hS.2.2 d hlocks
theorem G_getsC (hX : Fx w X cc nL RJ0 ret R) (d : decode cc pc = .ok (.getstatic 38, 3)) (k : G w X z (pc + 3) lv (.int 1 :: st) μ o) : G w X z pc lv st μ o := by
  intro h H locs ls hl hP hS
  exact va_gets hX.1 hX.2.1 (hX.2.2.2.2.2.2.2.2.2.2.2.2.2.2.2.2.1) hS hX.2.2.2.1 (hX.2.2.2.2.1 _ lf_J0_38) (fun _ h9 => h9) d (k h H locs ls hl hP hS)
theorem G_getsF (hX : Fx w X cc nL RJ0 ret R) (d : decode cc pc = .ok (.getstatic 1053, 3)) (k : ∀ v : Value, v.category = 1 → G w X z (pc + 3) lv (v :: st) μ o) : G w X z pc lv st μ o := by
  intro h H locs ls hl hP hS
  rcases hX.2.2.2.2.2.2.2.2.2.2.2.2.2.2.2.2.2.1 with q | ⟨t, q⟩
  · exact va_gets hX.1 hX.2.1 q hS hX.2.2.2.1 (hX.2.2.2.2.1 _ lf_J0_1053) (fun _ h9 => h9) d (k _ rfl h H locs ls hl hP hS)
  · exact va_gets hX.1 hX.2.1 q hS hX.2.2.2.1 (hX.2.2.2.2.1 _ lf_J0_1053) (fun _ h9 => h9) d (k _ rfl h H locs ls hl hP hS)
theorem G_strVal (hX : Fx w X cc nL RJ0 ret R) {i : Nat} (hi : i < nS) (d : decode cc pc = .ok (.getfield 9, 3)) (k : G w X z (pc + 3) lv (.ref (cx_adV X i) :: st) μ o) : G w X z pc lv (.ref (cx_adK X i) :: st) μ o := by
  intro h H locs ls hl hP hS
  exact vk_getf hX.1 hX.2.1 (hX.2.2.2.2.2.2.2.2.2.2.2.2.2.2.1 i hi).2.2.1 hS hX.2.2.2.1 (hX.2.2.2.2.1 _ lf_J0_9) (fun _ h9 => h9) d (k h H locs ls hl hP hS)
theorem G_strCoder (hX : Fx w X cc nL RJ0 ret R) {i : Nat} (hi : i < nS) (d : decode cc pc = .ok (.getfield 15, 3)) (k : G w X z (pc + 3) lv (.int 0 :: st) μ o) : G w X z pc lv (.ref (cx_adK X i) :: st) μ o := by
  intro h H locs ls hl hP hS
  exact vk_getf hX.1 hX.2.1 (hX.2.2.2.2.2.2.2.2.2.2.2.2.2.2.1 i hi).2.1 hS hX.2.2.2.1 (hX.2.2.2.2.1 _ lf_J0_15) (fun _ h9 => h9) d (k h H locs ls hl hP hS)
theorem G_strLen (hX : Fx w X cc nL own ret R) {i : Nat} (hi : i < nS) (d : decode cc pc = .ok (.arraylength, 1)) (k : G w X z (pc + 1) lv (.int (nI (lenS.getD i 0)) :: st) μ o) : G w X z pc lv (.ref (cx_adV X i) :: st) μ o := by
  intro h H locs ls hl hP hS
  exact va_tlen hX.1 hX.2.1 (hX.2.2.2.2.2.2.2.2.2.2.2.2.2.2.1 i hi).2.2.2 hS rfl d (k h H locs ls hl hP hS)
theorem G_strAt (hX : Fx w X cc nL own ret R) {i : Nat} {j : Int32} (hi : i < nS) (hj : vp_in j (lenS.getD i 0)) (d : decode cc pc = .ok (.baload, 1)) (k : G w X z (pc + 1) lv (.int ((bytS.getD i []).getD j.toNatClampNeg 0) :: st) μ o) : G w X z pc lv (.int j :: .ref (cx_adV X i) :: st) μ o := by
  intro h H locs ls hl hP hS
  exact va_tb hX.1 hX.2.1 (hX.2.2.2.2.2.2.2.2.2.2.2.2.2.2.1 i hi).2.2.2 hS hj rfl d (k h H locs ls hl hP hS)
theorem G_i2c (hX : Fx w X cc nL own ret R) {x : Int32} (d : decode cc pc = .ok (.i2c, 1)) (k : G w X z (pc + 1) lv (.int (x.toUInt32 % 65536).toInt32 :: st) μ o) : G w X z pc lv (.int x :: st) μ o := by
  intro h H locs ls hl hP hS
  exact lv_i2c hX.1 hX.2.1 d rfl (k h H locs ls hl hP hS)
end
/-- a contract whose arguments may name a text's bytes -/
def Miv (w : Wld) (l : Launch) (y : MethodName) (cc : ByteArray) (nL : Nat) (ret : FieldType) (rm : Room) (av : (Nat → Nat) → List Value) (μ : Mem) (z : Int32 × Mem) : Prop :=
  ∀ (D : va_G) (cA : Nat → ClassId) (ad adK adV : Nat → Nat) (sz : Nat), Met l y (.code y cc nL (some ret) :: tb) rm (va_Pc (av adV) (PW w D cA ad adK adV sz μ)) (Qc_i w D cA ad sz z) 0 0 (AA w ad sz)
theorem Miv.ofF {w : Wld} {l : Launch} {y : MethodName} {cc : ByteArray} {nL : Nat} {ret : FieldType} {rm : Room} {av : (Nat → Nat) → List Value} {μ : Mem} {z : Int32 × Mem} {o : Option (Int32 × Mem)} (hf : o = some z) (hy : plainFor y = true) (hn : ∀ adV, (lg_sl (av adV)).length ≤ nL) (body : ∀ X : Ctx, Fx w X cc nL y.cls (some ret) rm → Qx_i w X z → cx_l X = l → cx_cells X = 0 ∧ cx_slots X = 0 → G w X z 0 (lv_args 0 (av (cx_adV X))) [] μ o) : Miv w l y cc nL ret rm av μ z := by
  intro D cA ad adK adV sz
  refine Met.ofWF (cc := cc) (maxL := nL) (ret := (some ret)) hy rfl ?_
  intro p e s m args below meth c s₁ B hml hv
  obtain ⟨rfl, hsz, hP, hK, hi, hst⟩ := hv
  subst hsz
  have hts := atoms_spec (ws := .code y cc nL (some ret) :: tb) B.pre
  let X : Ctx := (p, l, e, (headSpec (.code y cc nL (some ret) :: tb) rm).room, s, m, (av adV).toArray, below, meth, c, 0, 0, MQ below (Qc_i w D cA ad s.heap.size z) (av adV).toArray s 0 0 (AA w ad s.heap.size), D, cA, ad, AA w ad s.heap.size, nL, adK, adV)
  have hX : Fx w X cc nL y.cls (some ret) rm := ⟨B.exec, B.bytes, hml, findClass_of_methodNamed B.named, fun q hq => hts q (List.mem_cons_of_mem _ hq), hK, fun q h => Or.inr h, hi, fun k hk => Or.inl ⟨k, hk, rfl⟩, B.notSynchronized, B.returns, rfl, rfl, rfl, hst⟩
  have hl := lv_entry (av adV) (n := nL) (hn adV)
  rw [lg_entry_eq]
  exact body X hX rfl rfl ⟨rfl, rfl⟩ hf s.heap [] _ hl hP va_S.rf
theorem G_cSiv {α : Type} {w : Wld} {X : Ctx} {z : α × Mem} {cc cc2 : ByteArray} {nL nL2 np : Nat} {own : String} {ret : Option FieldType} {R rm : Room} {pc : Nat} {lv : List (Nat × Value)} {stk : List Value} {μ : Mem} {y : MethodName} {index : Nat} {rt : FieldType} {o2 : Option (Int32 × Mem)} {k : Int32 → Mem → Option (α × Mem)} (hX : Fx w X cc nL own ret R) (As : (Nat → Nat) → List Value) (rest : List Value) (hM : ∀ z2, o2 = some z2 → Miv w (cx_l X) y cc2 nL2 rt rm As μ z2) (ok : OkS y cc2 nL2 (some rt) np) (hlk : Cond.methodLink own index y ∈ tb) (hst : stk = (As (cx_adV X)).reverse ++ rest) (hnp : ∀ a, (As a).length = np) (hro : (rest.map fun v => v.category).sum ≤ 8) (hr : rm.cells = 0 ∧ rm.slots = 0 ∧ rm.frames + 1 ≤ R.frames ∧ 8 + (nL2 + 11) + rm.locals ≤ R.locals) (hcs : cx_cells X + 0 ≤ R.cells ∧ cx_slots X + 0 ≤ R.slots) (d : decode cc pc = .ok (.invokestatic index, 3)) (kk : ∀ (r : Int32) (μ1 : Mem), G w X z (pc + 3) lv (.int r :: rest) μ1 (k r μ1)) : G w X z pc lv stk μ (bd o2 k) := by
  intro h H locs ls hl hP hS
  obtain ⟨z2, hz2, h⟩ := Option.bind_eq_some_iff.mp h
  have hM := hM z2 hz2 (cx_D X) (cx_cA X) (cx_ad X) (cx_adK X) (cx_adV X) H.size
  have eA := hX.2.2.2.2.2.2.2.2.2.2.2.2.2.1
  have eR := hX.2.2.2.2.2.2.2.2.2.2.2.1
  have hF : ∀ q, AA w (cx_ad X) H.size q → cx_A X q := by rw [eA]; exact AA_sub hS.1
  have hts := hX.2.2.2.2.1
  subst hst
  obtain ⟨k1, k3, k4, k5⟩ := ok
  have cw : CallB (cx_R X) (cx_s X) (cx_args X) own index y cc2 nL2 (some rt) (.code y cc2 nL2 (some rt) :: tb) rm 0 0 np ∧ (Cond.static y).before (cx_args X) (cx_s X) = true := ⟨callB_of np hts (code_tb k4) rfl hr.1 hr.2.1 (hts _ k3) (hts _ hlk) k5 (by rw [eR]; exact hr.2.2), hts _ k1⟩
  have run := va_runS (p := cx_p X) (l := cx_l X) (e := cx_e X) (R := cx_R X) (s := cx_s X) (m := cx_m X) (args := cx_args X) (below := cx_below X) (meth := cx_meth X) (c := cx_c X) (H := H) (locs := locs) (cells := cx_cells X) (slots := cx_slots X) (As := As (cx_adV X)) (rest := rest) (g := F0 (cx_m X) pc ls ((As (cx_adV X)).reverse ++ rest)) ⟨hX.1, hX.2.1, hX.2.2.1, hX.2.2.2.1, hts⟩ hM cw ⟨PW.blind, fun U hU hW => ⟨rfl, PW.go hX hP hS hU hW⟩⟩ rfl (hnp _) (by rw [← hX.2.2.2.2.2.2.2.2.2.2.2.2.1]; exact hl.1) rfl (lv_room hro) d (by rw [eR]; exact hcs)
  refine va_calli run hS (fun q _ h => hF q h) hF (fun (r) (u) t H1 locs1 ht hvm hw hB hz1 hk1 hS1 => ?_)
  rw [ht] at hB
  subst hw
  exact kk z2.1 z2.2 h H1 locs1 ls hl hB hS1
theorem G_cTi {α : Type} {w : Wld} {X : Ctx} {z : α × Mem} {cc cc2 : ByteArray} {nL nL2 np : Nat} {own : String} {ret : Option FieldType} {R rm : Room} {pc : Nat} {lv : List (Nat × Value)} {stk : List Value} {μ : Mem} {y : MethodName} {index : Nat} {rt : FieldType} {o2 : Option (Int32 × Mem)} {k : Int32 → Mem → Option (α × Mem)} (hX : Fx w X cc nL own ret R) (b : Nat) (As : (Nat → Nat) → (Nat → Nat) → List Value) (rest : List Value) (hM : ∀ z2, o2 = some z2 → Mi w (cx_l X) y cc2 nL2 rt rm (fun ad adK => .ref (adK b) :: As ad adK) μ z2) (ok : OkV y cc2 nL2 (some rt) np) (hlk : Cond.methodLink own index y ∈ tb) (hb : b < nS) (hC : "java/lang/String" = y.cls) (hst : stk = (As (cx_ad X) (cx_adK X)).reverse ++ .ref (cx_adK X b) :: rest) (hnp : ∀ a b, (As a b).length = np) (hro : (rest.map fun v => v.category).sum ≤ 8) (hr : rm.cells = 0 ∧ rm.slots = 0 ∧ rm.frames + 1 ≤ R.frames ∧ 8 + (nL2 + 11) + rm.locals ≤ R.locals) (hcs : cx_cells X + 0 ≤ R.cells ∧ cx_slots X + 0 ≤ R.slots) (d : decode cc pc = .ok (.invokevirtual index, 3)) (kk : ∀ (r : Int32) (μ1 : Mem), G w X z (pc + 3) lv (.int r :: rest) μ1 (k r μ1)) : G w X z pc lv stk μ (bd o2 k) := by
  intro h H locs ls hl hP hS
  obtain ⟨z2, hz2, h⟩ := Option.bind_eq_some_iff.mp h
  have hM := hM z2 hz2 (cx_D X) (cx_cA X) (cx_ad X) (cx_adK X) (cx_adV X) H.size
  have eA := hX.2.2.2.2.2.2.2.2.2.2.2.2.2.1
  have eR := hX.2.2.2.2.2.2.2.2.2.2.2.1
  have hF : ∀ q, AA w (cx_ad X) H.size q → cx_A X q := by rw [eA]; exact AA_sub hS.1
  have hts := hX.2.2.2.2.1
  subst hst
  obtain ⟨k1, k2, k3, k4, k5⟩ := ok
  have cw : CallW (cx_R X) (cx_s X) (cx_args X) own y.cls index y cc2 nL2 (some rt) (.code y cc2 nL2 (some rt) :: tb) rm 0 0 np := ⟨callB_of np hts (code_tb k4) rfl hr.1 hr.2.1 (hts _ k3) (hts _ hlk) k5 (by rw [eR]; exact hr.2.2), hts _ k1, hts _ k2⟩
  have hrc : ∃ cell : Cell, H[cx_adK X b]? = some cell ∧ cell.vm.isStatics = false ∧ (cx_s X).vm.findClass y.cls = some cell.cls := by
    obtain ⟨cell, q1, q2, q3, q4⟩ := (hX.2.2.2.2.2.2.2.2.2.2.2.2.2.2.1 b hb).1
    rw [← hC]
    exact ⟨cell, by rw [hS.2.1 _ (Array.getElem?_eq_some_iff.mp q1).1 q4]; exact q1, q2, q3⟩
  have run := va_runV (p := cx_p X) (l := cx_l X) (e := cx_e X) (R := cx_R X) (s := cx_s X) (m := cx_m X) (args := cx_args X) (below := cx_below X) (meth := cx_meth X) (c := cx_c X) (H := H) (locs := locs) (cells := cx_cells X) (slots := cx_slots X) (b := cx_adK X b) (As := As (cx_ad X) (cx_adK X)) (rest := rest) (g := F0 (cx_m X) pc ls ((As (cx_ad X) (cx_adK X)).reverse ++ .ref (cx_adK X b) :: rest)) ⟨hX.1, hX.2.1, hX.2.2.1, hX.2.2.2.1, hts⟩ hM cw ⟨PW.blind, hrc, fun U hU hW => ⟨rfl, PW.go hX hP hS hU hW⟩⟩ rfl (hnp _ _) (by rw [← hX.2.2.2.2.2.2.2.2.2.2.2.2.1]; exact hl.1) rfl (lv_room hro) d (by rw [eR]; exact hcs)
  refine va_calli run hS (fun q _ h => hF q h) hF (fun (r) (u) t H1 locs1 ht hvm hw hB hz1 hk1 hS1 => ?_)
  rw [ht] at hB
  subst hw
  exact kk z2.1 z2.2 h H1 locs1 ls hl hB hS1
theorem G_ldcw {α : Type} {w : Wld} {X : Ctx} {z : α × Mem} {cc : ByteArray} {nL : Nat} {own : String} {ret : Option FieldType} {R : Room} {pc : Nat} {lv : List (Nat × Value)} {st : List Value} {μ : Mem} {o : Option (α × Mem)} (hX : Fx w X cc nL own ret R) {index : Nat} {v : Int32} (hc : Cond.constant own index v ∈ tb) (d : decode cc pc = .ok (.ldc_w index, 3)) (k : G w X z (pc + 3) lv (.int v :: st) μ o) : G w X z pc lv st μ o := by
  intro h H locs ls hl hP hS
  exact lv_ldcw hX.1 hX.2.1 hX.2.2.2.1 (hX.2.2.2.2.1 _ hc) d (k h H locs ls hl hP hS)
theorem G_ldcSw {α : Type} {w : Wld} {X : Ctx} {z : α × Mem} {cc : ByteArray} {nL : Nat} {own : String} {ret : Option FieldType} {R : Room} {pc : Nat} {lv : List (Nat × Value)} {st : List Value} {μ : Mem} {o : Option (α × Mem)} (hX : Fx w X cc nL own ret R) {index : Nat} {tx : String} (i : Nat) (hr : (own, index, tx, i) ∈ refS) (d : decode cc pc = .ok (.ldc_w index, 3)) (k : G w X z (pc + 3) lv (.ref (cx_adK X i) :: st) μ o) : G w X z pc lv st μ o := by
  intro h H locs ls hl hP hS T hT X9
  obtain ⟨t, a1, b1⟩ := k h H locs ls hl hP hS T hT X9
  have hZ := hX.2.2.2.2.2.2.2.2.2.2.2.2.2.2.2.1 _ hr
  exact ⟨t, ldcStringW X9 hX.1 hX.2.2.2.1 (text := tx) (a := cx_adK X i) hZ.1 hZ.2 (g := F0 (cx_m X) pc ls st) rfl (by rw [hX.2.1]; exact d) t a1, b1⟩
/-! ===== the members ===== -/
theorem cJ0_coder_ok (w : Wld) (l : Launch) (p0 : Nat) (hp : p0 < nS) (μ : Mem) (z : Int32 × Mem) (h : some ((0 : Int32), μ) = some z) : Mi w l yJ0_coder_7d493 cJ0_coder_7d493 1 .byte (rmo 0 0) (fun ad adK => [.ref (adK p0)]) μ z := Mi.ofF h (by decide +kernel) (fun _ _ => Nat.le_of_ble_eq_true rfl) (fun X hX hQ hl hcs => by
  refine G_getsC hX dJ0_coder_7d493_0 ?_
  have k : G w X z 6 [(0, .ref (cx_adK X p0))] [] μ (some ((0 : Int32), μ)) := by
    refine G_aload_n hX 0 rfl rfl dJ0_coder_7d493_6 ?_
    refine G_strCoder hX hp dJ0_coder_7d493_7 ?_
    refine G_goto hX 14 (by decide) dJ0_coder_7d493_10 ?_
    exact G_tret hX hQ rfl dJ0_coder_7d493_14
  exact G_if_eq (o1 := none) (o2 := some ((0 : Int32), μ)) hX 13 (by decide) dJ0_coder_7d493_3 G_none k)
theorem cJ0_isLatin1_ok (w : Wld) (l : Launch) (p0 : Nat) (hp : p0 < nS) (μ : Mem) (z : Int32 × Mem) (h : some ((1 : Int32), μ) = some z) : Mi w l yJ0_isLatin1_aae02 cJ0_isLatin1_aae02 1 .boolean (rmo 0 0) (fun ad adK => [.ref (adK p0)]) μ z := Mi.ofF h (by decide +kernel) (fun _ _ => Nat.le_of_ble_eq_true rfl) (fun X hX hQ hl hcs => by
  refine G_getsC hX dJ0_isLatin1_aae02_0 ?_
  have k : G w X z 6 [(0, .ref (cx_adK X p0))] [] μ (some ((1 : Int32), μ)) := by
    refine G_aload_n hX 0 rfl rfl dJ0_isLatin1_aae02_6 ?_
    refine G_strCoder hX hp dJ0_isLatin1_aae02_7 ?_
    have k2 : G w X z 13 [(0, .ref (cx_adK X p0))] [] μ (some ((1 : Int32), μ)) := by
      refine G_iconst hX (1 : Int32) rfl dJ0_isLatin1_aae02_13 ?_
      refine G_goto hX 18 (by decide) dJ0_isLatin1_aae02_14 ?_
      exact G_zret hX hQ rfl dJ0_isLatin1_aae02_18
    exact G_if_ne (o1 := none) (o2 := some ((1 : Int32), μ)) hX 17 (by decide) dJ0_isLatin1_aae02_10 G_none k2
  exact G_if_eq (o1 := none) (o2 := some ((1 : Int32), μ)) hX 17 (by decide) dJ0_isLatin1_aae02_3 G_none k)
theorem cJ3_ok (w : Wld) (l : Launch) (i n : Int32) (v : Value) (hv : v.category = 1) (μ : Mem) (h1 : ¬ i < 0) (h2 : i < n) (z : Int32 × Mem) (h : some (i, μ) = some z) : Mi w l yJ3_checkIndex_8e157 cJ3_checkIndex_8e157 3 .int (rmo 0 0) (fun _ _ => [.int i, .int n, v]) μ z := Mi.ofF (o := if i < 0 then none else if i < n then some (i, μ) else none) (by rw [if_neg h1, if_pos h2]; exact h) (by decide +kernel) (fun _ _ => by cases v <;> first | exact Nat.le_of_ble_eq_true rfl | cases hv) (fun X hX hQ hl hcs => by
  show G w X z 0 [(0, .int i), (1, .int n), (2, v)] [] μ _
  refine G_iload_n hX 0 rfl rfl dJ3_checkIndex_8e157_0 ?_
  refine G_if_lt hX 9 (by decide) dJ3_checkIndex_8e157_1 G_none ?_
  refine G_iload_n hX 0 rfl rfl dJ3_checkIndex_8e157_4 ?_
  refine G_iload_n hX 1 rfl rfl dJ3_checkIndex_8e157_5 ?_
  refine G_icmp_lt hX 16 (by decide) dJ3_checkIndex_8e157_6 ?_ G_none
  refine G_iload_n hX 0 rfl rfl dJ3_checkIndex_8e157_16 ?_
  exact G_iret hX hQ dJ3_checkIndex_8e157_17)
theorem cJ0_check_ok (w : Wld) (l : Launch) (i n : Int32) (μ : Mem) (h1 : ¬ i < 0) (h2 : i < n) (z : Unit × Mem) (h : some ((), μ) = some z) : Mv w l yJ0_checkIndex_df160 cJ0_checkIndex_df160 2 (rmo 1 22) (fun _ _ => [.int i, .int n]) μ z := Mv.ofF h (by decide +kernel) (fun _ _ => Nat.le_of_ble_eq_true rfl) (fun X hX hQ hl hcs => by
  refine G_iload_n hX 0 rfl rfl dJ0_checkIndex_df160_0 ?_
  refine G_iload_n hX 1 rfl rfl dJ0_checkIndex_df160_1 ?_
  refine G_getsF hX dJ0_checkIndex_df160_2 (fun v hv => ?_)
  refine G_cSi (o2 := some (i, μ)) (k := fun _ μ => some ((), μ)) hX (fun _ _ => [.int i, .int n, v]) [] (fun z2 h => cJ3_ok w (cx_l X) i n v hv μ h1 h2 z2 h) ok_J3_checkIndex_8e157 lm_J0_1059 rfl (fun _ _ => rfl) (Nat.le_of_ble_eq_true rfl) ⟨rfl, rfl, by decide, by decide⟩ (cs0 hcs) dJ0_checkIndex_df160_5 (fun r μ => ?_)
  refine G_pop hX rfl dJ0_checkIndex_df160_8 ?_
  exact G_vret hX hQ dJ0_checkIndex_df160_9)
theorem chS_ok : ∀ i, i < nS → lenS.getD i 0 < 2 ^ 31 ∧ ∀ b ∈ bytS.getD i [], ((b &&& 255).toUInt32 % 65536).toInt32 = b ∧ narrow .char (.int b) = .int b := by decide +kernel
theorem chS_len : ∀ i, i < nS → lenS.getD i 0 = (bytS.getD i []).length := by decide +kernel
theorem chS_mem {i j : Nat} (hi : i < nS) (hj : j < lenS.getD i 0) : chS i j ∈ bytS.getD i [] := by
  rw [chS_len i hi] at hj
  unfold chS
  generalize bytS.getD i [] = L at hj ⊢
  rw [List.getD_eq_getElem?_getD, List.getElem?_eq_getElem hj]
  exact List.getElem_mem hj
theorem cJ1_charAt_ok (w : Wld) (l : Launch) (p0 : Nat) (j : Int32) (hp : p0 < nS) (hj : vp_in j (lenS.getD p0 0)) (μ : Mem) (z : Int32 × Mem) (h : some (chS p0 j.toNatClampNeg, μ) = some z) : Miv w l yJ1_charAt_3b067 cJ1_charAt_3b067 2 .char (rmo 2 43) (fun adV => [.ref (adV p0), .int j]) μ z := Miv.ofF h (by decide +kernel) (fun _ => Nat.le_of_ble_eq_true rfl) (fun X hX hQ hl hcs => by
  have hlt : j.toNatClampNeg < lenS.getD p0 0 := Nat.not_le.mp fun q => hj (Or.inr q)
  have h31 := (chS_ok p0 hp).1
  obtain ⟨k, hk, ej⟩ := vp_in_of hj h31
  refine G_iload_n hX 1 rfl rfl dJ1_charAt_3b067_0 ?_
  refine G_aload_n hX 0 rfl rfl dJ1_charAt_3b067_1 ?_
  refine G_strLen hX hp dJ1_charAt_3b067_2 ?_
  refine G_cSv (o2 := some ((), μ)) (k := fun μ => some (chS p0 j.toNatClampNeg, μ)) hX (fun _ _ => [.int j, .int (nI (lenS.getD p0 0))]) [] (fun z2 h => cJ0_check_ok w (cx_l X) j _ μ (fun q => hj (Or.inl q)) (by rw [ej]; exact nI_lt hk h31) z2 h) ok_J0_checkIndex_df160 lm_J1_9 rfl (fun _ _ => rfl) (Nat.le_of_ble_eq_true rfl) ⟨rfl, rfl, by decide, by decide⟩ (cs0 hcs) dJ1_charAt_3b067_3 (fun μ => ?_)
  refine G_aload_n hX 0 rfl rfl dJ1_charAt_3b067_6 ?_
  refine G_iload_n hX 1 rfl rfl dJ1_charAt_3b067_7 ?_
  refine G_strAt hX hp hj dJ1_charAt_3b067_8 ?_
  refine G_sipush hX (255 : Int32) rfl dJ1_charAt_3b067_9 ?_
  refine G_iand hX dJ1_charAt_3b067_12 ?_
  refine G_i2c hX dJ1_charAt_3b067_13 ?_
  have e := (chS_ok p0 hp).2 _ (chS_mem hp hlt)
  have e1 : ((((bytS.getD p0 []).getD j.toNatClampNeg 0) &&& 255).toUInt32 % 65536).toInt32 = chS p0 j.toNatClampNeg := e.1
  rw [e1]
  exact G_tret hX hQ e.2 dJ1_charAt_3b067_14)
theorem shr0 {n : Nat} (h : n < 2 ^ 31) : nI n >>> ((0 : Int32) &&& 31) = nI n := by
  have h1 := pk_shrN h ((0 : Int32) &&& 31) 0 (by decide)
  rw [h1, Nat.pow_zero, Nat.div_one]
theorem cJ0_length_ok (w : Wld) (l : Launch) (p0 : Nat) (μ : Mem) (z : Int32 × Mem) (h : fJ0_length p0 μ = some z) : Mi w l yJ0_length_8abf5 cJ0_length_8abf5 1 .int (rmo 1 20) (fun ad adK => [.ref (adK p0)]) μ z := Mi.ofF h (by decide +kernel) (fun _ _ => Nat.le_of_ble_eq_true rfl) (fun X hX hQ hl hcs => by
  unfold fJ0_length
  refine G_guard (fun hp => ?_)
  refine G_aload_n hX 0 rfl rfl dJ0_length_8abf5_0 ?_
  refine G_strVal hX hp dJ0_length_8abf5_1 ?_
  refine G_strLen hX hp dJ0_length_8abf5_4 ?_
  refine G_aload_n hX 0 rfl rfl dJ0_length_8abf5_5 ?_
  have k : ∀ (r : Int32) (μ1 : Mem), G w X z 9 [(0, .ref (cx_adK X p0))] [.int r, .int (nI (lenS.getD p0 0))] μ1 (if r = 0 then some (nI (lenS.getD p0 0), μ1) else none) := by
    intro r μ1
    refine G_guard (fun hr => ?_)
    subst hr
    refine G_ishr hX dJ0_length_8abf5_9 ?_
    rw [shr0 (chS_ok p0 hp).1]
    exact G_iret hX hQ dJ0_length_8abf5_10
  exact G_cTi (o2 := some ((0 : Int32), μ)) (k := fun r μ1 => if r = 0 then some (nI (lenS.getD p0 0), μ1) else none) hX p0 (fun _ _ => []) [.int (nI (lenS.getD p0 0))] (fun z2 h => cJ0_coder_ok w (cx_l X) p0 hp μ z2 h) ok_J0_coder_7d493 lm_J0_335 hp rfl rfl (fun _ _ => rfl) (Nat.le_of_ble_eq_true rfl) ⟨rfl, rfl, by decide, by decide⟩ (cs0 hcs) dJ0_length_8abf5_6 k)
theorem cJ0_charAt_ok (w : Wld) (l : Launch) (p0 : Nat) (j : Int32) (μ : Mem) (z : Int32 × Mem) (h : fJ0_charAt p0 j μ = some z) : Mi w l yJ0_charAt_5068e cJ0_charAt_5068e 2 .char (rmo 3 64) (fun ad adK => [.ref (adK p0), .int j]) μ z := Mi.ofF h (by decide +kernel) (fun _ _ => Nat.le_of_ble_eq_true rfl) (fun X hX hQ hl hcs => by
  unfold fJ0_charAt
  refine G_guard (fun hp => ?_)
  refine G_sw (fun _ => G_none) (fun hj => ?_)
  have hlt : j.toNatClampNeg < lenS.getD p0 0 := Nat.not_le.mp fun q => hj (Or.inr q)
  have e := (chS_ok p0 hp).2 _ (chS_mem hp hlt)
  refine G_aload_n hX 0 rfl rfl dJ0_charAt_5068e_0 ?_
  have k : ∀ (r : Int32) (μ1 : Mem), G w X z 4 [(0, .ref (cx_adK X p0)), (1, .int j)] [.int r] μ1 (if r = 0 then none else some (chS p0 j.toNatClampNeg, μ1)) := by
    intro r μ1
    refine G_if_eq hX 16 (by decide) dJ0_charAt_5068e_4 G_none ?_
    refine G_aload_n hX 0 rfl rfl dJ0_charAt_5068e_7 ?_
    refine G_strVal hX hp dJ0_charAt_5068e_8 ?_
    refine G_iload_n hX 1 rfl rfl dJ0_charAt_5068e_11 ?_
    have k2 : ∀ (r : Int32) (μ2 : Mem), G w X z 15 [(0, .ref (cx_adK X p0)), (1, .int j)] [.int r] μ2 (if r = chS p0 j.toNatClampNeg then some (r, μ2) else none) := by
      intro r μ2
      refine G_guard (fun hr => ?_)
      exact G_tret hX hQ (by rw [hr]; exact e.2) dJ0_charAt_5068e_15
    intro hz
    have hz2 : bd (some (chS p0 j.toNatClampNeg, μ1)) (fun r μ2 => if r = chS p0 j.toNatClampNeg then some (r, μ2) else none) = some z := by
      simp only [bd, Option.bind_some, if_true]; exact hz
    exact G_cSiv (o2 := some (chS p0 j.toNatClampNeg, μ1)) (k := fun r μ2 => if r = chS p0 j.toNatClampNeg then some (r, μ2) else none) hX (fun adV => [.ref (adV p0), .int j]) [] (fun z2 h => cJ1_charAt_ok w (cx_l X) p0 j hp hj μ1 z2 h) ok_J1_charAt_3b067 lm_J0_495 rfl (fun _ => rfl) (Nat.le_of_ble_eq_true rfl) ⟨rfl, rfl, by decide, by decide⟩ (cs0 hcs) dJ0_charAt_5068e_12 k2 hz2
  exact G_cTi (o2 := some ((1 : Int32), μ)) (k := fun r μ1 => if r = 0 then none else some (chS p0 j.toNatClampNeg, μ1)) hX p0 (fun _ _ => []) [] (fun z2 h => cJ0_isLatin1_ok w (cx_l X) p0 hp μ z2 h) ok_J0_isLatin1_aae02 lm_J0_492 hp rfl rfl (fun _ _ => rfl) (Nat.le_of_ble_eq_true rfl) ⟨rfl, rfl, by decide, by decide⟩ (cs0 hcs) dJ0_charAt_5068e_1 k)
