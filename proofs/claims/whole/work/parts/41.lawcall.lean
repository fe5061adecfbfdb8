/-! The law's calls. -/
def OkH (y : MethodName) (cc : ByteArray) (nL : Nat) (hh : List (Nat × Nat × Nat × Nat)) (np : Nat) : Prop := Cond.static y ∈ tb ∧ Cond.initialized y.cls ∈ tb ∧ Cond.codeWith y cc nL (some .int) hh ∈ tb ∧ (y.cls ≠ "java/lang/invoke/MethodHandle" ∧ y.cls ≠ "java/lang/invoke/VarHandle" ∧ (parseMethodDescriptor y.desc).map (fun d => d.parameters.length) = some np)
section
variable {X : Ctx} {aM : Nat → Nat} {b L : Nat} {xs : Nat → Int32} {z : Mem × Mem} {pc : Nat} {lv : List (Nat × Value)} {st : List Value} {μ ν : Mem} {k n : Nat} {o : Option (Mem × Mem)} {H H1 : Heap} {locs : List Loc}
theorem FL.subC (hX : FL X aM b L xs) (hS : va_S (cx_A X) (cx_s X).heap H locs) : ∀ q, AA wC (cx_ad X) H.size q → cx_A X q := by
  intro q hq
  rw [hX.2.2.2.2.2.2.1]
  rcases hq with ⟨i, hi, rfl⟩ | hq
  · exact hX.2.2.2.2.2.2.2.1.2.2.2.1 i hi
  · exact Nat.le_trans hS.1 hq
theorem FL.subM (hX : FL X aM b L xs) (hS : va_S (cx_A X) (cx_s X).heap H locs) : ∀ q, AA wM aM H.size q → cx_A X q := by
  intro q hq
  rw [hX.2.2.2.2.2.2.1]
  rcases hq with ⟨i, hi, rfl⟩ | hq
  · exact hX.2.2.2.2.2.2.2.1.2.2.2.2 i hi
  · exact Nat.le_trans hS.1 hq
theorem FL.goC (hX : FL X aM b L xs) (hP : va_P (cx_D X) vwCl (wld wC (cx_cA X) (cx_ad X) μ) H) (hS : va_S (cx_A X) (cx_s X).heap H locs) {U : State} (hU : U.heap = H) (hW : (cx_s X).WarmedH U.vm) : PW wC (cx_D X) (cx_cA X) (cx_ad X) (cx_adK X) (cx_adV X) H.size μ U := by
  refine ⟨by rw [hU], by rw [hU]; exact hP, va_K.moved hW.alike hX.2.2.2.2.2.1, hX.2.2.2.2.2.2.2.1.1, ?_⟩
  rw [hU]
  exact SW.go hX.2.2.2.2.2.2.2.2.2.2.1 hS hW (hX.subC hS)
theorem FL.goM (hX : FL X aM b L xs) (hP : va_P (cx_D X) vwCl (wld wM (cx_cA X) aM ν) H) (hS : va_S (cx_A X) (cx_s X).heap H locs) {U : State} (hU : U.heap = H) (hW : (cx_s X).WarmedH U.vm) : PW wM (cx_D X) (cx_cA X) aM (cx_adK X) (cx_adV X) H.size ν U := by
  refine ⟨by rw [hU], by rw [hU]; exact hP, va_K.moved hW.alike hX.2.2.2.2.2.1, hX.2.2.2.2.2.2.2.1.2.1, ?_⟩
  rw [hU]
  exact SW.go hX.2.2.2.2.2.2.2.2.2.2.1 hS hW (hX.subM hS)
theorem wld_of {w : Wld} {cA : Nat → ClassId} {ad : Nat → Nat} {μ : Mem} {k : Nat} {q : Nat × va_E} (h : (wld w cA ad μ)[k]? = some q) : k < w.1 ∧ q.1 = ad k := by
  by_cases hk : k < w.1
  · rw [wld_at hk] at h
    cases h
    exact ⟨hk, rfl⟩
  · simp [wld, hk] at h
theorem FL.keptM (hX : FL X aM b L xs) (hM : va_P (cx_D X) vwCl (wld wM (cx_cA X) aM ν) H) (hk : ∀ q : Nat, q < H.size → ¬ AA wC (cx_ad X) H.size q → H1[q]? = H[q]?) : va_P (cx_D X) vwCl (wld wM (cx_cA X) aM ν) H1 := by
  refine hM.kept (fun j q hj => ?_)
  have hlt := vx_lt hM hj
  obtain ⟨hj1, hj2⟩ := wld_of hj
  refine hk q.1 hlt ?_
  rintro (⟨i, hi, e⟩ | e)
  · exact hX.2.2.2.2.2.2.2.1.2.2.1 i j hi hj1 (by rw [← e, hj2])
  · exact Nat.not_le.mpr hlt e
theorem FL.keptC (hX : FL X aM b L xs) (hP : va_P (cx_D X) vwCl (wld wC (cx_cA X) (cx_ad X) μ) H) (hk : ∀ q : Nat, q < H.size → ¬ AA wM aM H.size q → H1[q]? = H[q]?) : va_P (cx_D X) vwCl (wld wC (cx_cA X) (cx_ad X) μ) H1 := by
  refine hP.kept (fun j q hj => ?_)
  have hlt := vx_lt hP hj
  obtain ⟨hj1, hj2⟩ := wld_of hj
  refine hk q.1 hlt ?_
  rintro (⟨i, hi, e⟩ | e)
  · exact hX.2.2.2.2.2.2.2.1.2.2.1 j i hj1 hi (by rw [← e, hj2])
  · exact Nat.not_le.mpr hlt e

theorem L_cCi (hX : FL X aM b L xs) {cc2 : ByteArray} {nL2 np : Nat} {rm : Room} {stk : List Value} {y : MethodName} {index : Nat} {rt : FieldType} {o2 : Option (Int32 × Mem)} {kf : Int32 → Mem → Option (Mem × Mem)} (ci : Nat) (As : (Nat → Nat) → (Nat → Nat) → List Value) (rest : List Value) (hM0 : ∀ z2, o2 = some z2 → Mi wC (cx_l X) y cc2 nL2 rt rm (fun ad adK => .ref (ad 0) :: As ad adK) μ z2) (ok : OkV y cc2 nL2 (some rt) np) (hlk : Cond.methodLink RL index y ∈ tb) (hk : wC.2.1 0 = .inl ci) (hC : (vwCl[ci]?).map (fun q => q.1) = some y.cls) (hst : stk = (As (cx_ad X) (cx_adK X)).reverse ++ .ref ((cx_ad X) 0) :: rest) (hnp : ∀ a b, (As a b).length = np) (hro : (rest.map fun v => v.category).sum ≤ 8) (hr : rm.cells = 0 ∧ rm.slots = 0 ∧ rm.frames + 1 ≤ room_1.frames ∧ 8 + (nL2 + 11) + rm.locals ≤ room_1.locals) (hcs : k ≤ room_1.cells ∧ n ≤ room_1.slots) (d : decode cL_law pc = .ok (.invokevirtual index, 3)) (kk : ∀ (r : Int32) (μ1 : Mem), GL X aM z (pc + 3) lv (.int r :: rest) μ1 ν k n (kf r μ1)) : GL X aM z pc lv stk μ ν k n (bd o2 kf) := by
  intro h H locs ls hl hP hM hS
  unfold bd at h
  obtain ⟨z2, hz2, h⟩ := Option.bind_eq_some_iff.mp h
  have hM0 := hM0 z2 hz2 (cx_D X) (cx_cA X) (cx_ad X) (cx_adK X) (cx_adV X) H.size
  have eR := hX.2.2.2.2.2.2.2.2.1
  have hF := hX.subC hS
  have hts := hX.2.2.2.2.1
  subst hst
  obtain ⟨k1, k2, k3, k4, k5⟩ := ok
  have cw : CallW (cx_R X) (cx_s X) (cx_args X) RL y.cls index y cc2 nL2 (some rt) (.code y cc2 nL2 (some rt) :: tb) rm 0 0 np := ⟨callB_of np hts (code_tb k4) rfl hr.1 hr.2.1 (hts _ k3) (hts _ hlk) k5 (by rw [eR]; exact hr.2.2), hts _ k1, hts _ k2⟩
  have hrc : ∃ cell : Cell, H[(cx_ad X) 0]? = some cell ∧ cell.vm.isStatics = false ∧ (cx_s X).vm.findClass y.cls = some cell.cls := by
    obtain ⟨q, hq, e⟩ := Option.map_eq_some_iff.mp hC
    rw [← e]
    exact va_recv hX.2.2.2.2.2.1 hP hq (q0 := 0) (by rw [wld_at (Nat.le_of_ble_eq_true rfl), wcell_obj hk])
  have run := va_runV (p := cx_p X) (l := cx_l X) (e := cx_e X) (R := cx_R X) (s := cx_s X) (m := cx_m X) (args := cx_args X) (below := cx_below X) (meth := cx_meth X) (c := cx_c X) (H := H) (locs := locs) (cells := k) (slots := n) (b := (cx_ad X) 0) (As := As (cx_ad X) (cx_adK X)) (rest := rest) (g := F0 (cx_m X) pc ls ((As (cx_ad X) (cx_adK X)).reverse ++ .ref ((cx_ad X) 0) :: rest)) ⟨hX.1, hX.2.1, hX.2.2.1, hX.2.2.2.1, hts⟩ hM0 cw ⟨PW.blind, hrc, fun U hU hW => ⟨rfl, hX.goC hP hS hU hW⟩⟩ rfl (hnp _ _) hl.1 rfl (lv_room hro) d (by rw [eR]; exact hcs)
  refine va_calli run hS (fun q _ h => hF q h) hF (fun (r) (u) t H1 locs1 ht hvm hw hB hz1 hk1 hS1 => ?_)
  rw [ht] at hB
  subst hw
  exact kk z2.1 z2.2 h H1 locs1 ls hl hB (hX.keptM hM hk1) hS1
theorem L_cCl (hX : FL X aM b L xs) {cc2 : ByteArray} {nL2 np : Nat} {rm : Room} {stk : List Value} {y : MethodName} {index : Nat} {rt : FieldType} {o2 : Option (Int64 × Mem)} {kf : Int64 → Mem → Option (Mem × Mem)} (ci : Nat) (As : (Nat → Nat) → (Nat → Nat) → List Value) (rest : List Value) (hM0 : ∀ z2, o2 = some z2 → Ml wC (cx_l X) y cc2 nL2 rt rm (fun ad adK => .ref (ad 0) :: As ad adK) μ z2) (ok : OkV y cc2 nL2 (some rt) np) (hlk : Cond.methodLink RL index y ∈ tb) (hk : wC.2.1 0 = .inl ci) (hC : (vwCl[ci]?).map (fun q => q.1) = some y.cls) (hst : stk = (As (cx_ad X) (cx_adK X)).reverse ++ .ref ((cx_ad X) 0) :: rest) (hnp : ∀ a b, (As a b).length = np) (hro : (rest.map fun v => v.category).sum ≤ 8) (hr : rm.cells = 0 ∧ rm.slots = 0 ∧ rm.frames + 1 ≤ room_1.frames ∧ 8 + (nL2 + 11) + rm.locals ≤ room_1.locals) (hcs : k ≤ room_1.cells ∧ n ≤ room_1.slots) (d : decode cL_law pc = .ok (.invokevirtual index, 3)) (kk : ∀ (r : Int64) (μ1 : Mem), GL X aM z (pc + 3) lv (.long r :: rest) μ1 ν k n (kf r μ1)) : GL X aM z pc lv stk μ ν k n (bd o2 kf) := by
  intro h H locs ls hl hP hM hS
  unfold bd at h
  obtain ⟨z2, hz2, h⟩ := Option.bind_eq_some_iff.mp h
  have hM0 := hM0 z2 hz2 (cx_D X) (cx_cA X) (cx_ad X) (cx_adK X) (cx_adV X) H.size
  have eR := hX.2.2.2.2.2.2.2.2.1
  have hF := hX.subC hS
  have hts := hX.2.2.2.2.1
  subst hst
  obtain ⟨k1, k2, k3, k4, k5⟩ := ok
  have cw : CallW (cx_R X) (cx_s X) (cx_args X) RL y.cls index y cc2 nL2 (some rt) (.code y cc2 nL2 (some rt) :: tb) rm 0 0 np := ⟨callB_of np hts (code_tb k4) rfl hr.1 hr.2.1 (hts _ k3) (hts _ hlk) k5 (by rw [eR]; exact hr.2.2), hts _ k1, hts _ k2⟩
  have hrc : ∃ cell : Cell, H[(cx_ad X) 0]? = some cell ∧ cell.vm.isStatics = false ∧ (cx_s X).vm.findClass y.cls = some cell.cls := by
    obtain ⟨q, hq, e⟩ := Option.map_eq_some_iff.mp hC
    rw [← e]
    exact va_recv hX.2.2.2.2.2.1 hP hq (q0 := 0) (by rw [wld_at (Nat.le_of_ble_eq_true rfl), wcell_obj hk])
  have run := va_runV (p := cx_p X) (l := cx_l X) (e := cx_e X) (R := cx_R X) (s := cx_s X) (m := cx_m X) (args := cx_args X) (below := cx_below X) (meth := cx_meth X) (c := cx_c X) (H := H) (locs := locs) (cells := k) (slots := n) (b := (cx_ad X) 0) (As := As (cx_ad X) (cx_adK X)) (rest := rest) (g := F0 (cx_m X) pc ls ((As (cx_ad X) (cx_adK X)).reverse ++ .ref ((cx_ad X) 0) :: rest)) ⟨hX.1, hX.2.1, hX.2.2.1, hX.2.2.2.1, hts⟩ hM0 cw ⟨PW.blind, hrc, fun U hU hW => ⟨rfl, hX.goC hP hS hU hW⟩⟩ rfl (hnp _ _) hl.1 rfl (lv_room hro) d (by rw [eR]; exact hcs)
  refine va_calll run hS (fun q _ h => hF q h) hF (fun (r) (u) t H1 locs1 ht hvm hw hB hz1 hk1 hS1 => ?_)
  rw [ht] at hB
  subst hw
  exact kk z2.1 z2.2 h H1 locs1 ls hl hB (hX.keptM hM hk1) hS1
theorem L_cCv (hX : FL X aM b L xs) {cc2 : ByteArray} {nL2 np : Nat} {rm : Room} {stk : List Value} {y : MethodName} {index : Nat} {o2 : Option (Unit × Mem)} {kf : Mem → Option (Mem × Mem)} (ci : Nat) (As : (Nat → Nat) → (Nat → Nat) → List Value) (rest : List Value) (hM0 : ∀ z2, o2 = some z2 → Mv wC (cx_l X) y cc2 nL2 rm (fun ad adK => .ref (ad 0) :: As ad adK) μ z2) (ok : OkV y cc2 nL2 none np) (hlk : Cond.methodLink RL index y ∈ tb) (hk : wC.2.1 0 = .inl ci) (hC : (vwCl[ci]?).map (fun q => q.1) = some y.cls) (hst : stk = (As (cx_ad X) (cx_adK X)).reverse ++ .ref ((cx_ad X) 0) :: rest) (hnp : ∀ a b, (As a b).length = np) (hro : (rest.map fun v => v.category).sum ≤ 8) (hr : rm.cells = 0 ∧ rm.slots = 0 ∧ rm.frames + 1 ≤ room_1.frames ∧ 8 + (nL2 + 11) + rm.locals ≤ room_1.locals) (hcs : k ≤ room_1.cells ∧ n ≤ room_1.slots) (d : decode cL_law pc = .ok (.invokevirtual index, 3)) (kk : ∀ (μ1 : Mem), GL X aM z (pc + 3) lv (rest) μ1 ν k n (kf μ1)) : GL X aM z pc lv stk μ ν k n (bv o2 kf) := by
  intro h H locs ls hl hP hM hS
  unfold bv at h
  obtain ⟨z2, hz2, h⟩ := Option.bind_eq_some_iff.mp h
  have hM0 := hM0 z2 hz2 (cx_D X) (cx_cA X) (cx_ad X) (cx_adK X) (cx_adV X) H.size
  have eR := hX.2.2.2.2.2.2.2.2.1
  have hF := hX.subC hS
  have hts := hX.2.2.2.2.1
  subst hst
  obtain ⟨k1, k2, k3, k4, k5⟩ := ok
  have cw : CallW (cx_R X) (cx_s X) (cx_args X) RL y.cls index y cc2 nL2 none (.code y cc2 nL2 none :: tb) rm 0 0 np := ⟨callB_of np hts (code_tb k4) rfl hr.1 hr.2.1 (hts _ k3) (hts _ hlk) k5 (by rw [eR]; exact hr.2.2), hts _ k1, hts _ k2⟩
  have hrc : ∃ cell : Cell, H[(cx_ad X) 0]? = some cell ∧ cell.vm.isStatics = false ∧ (cx_s X).vm.findClass y.cls = some cell.cls := by
    obtain ⟨q, hq, e⟩ := Option.map_eq_some_iff.mp hC
    rw [← e]
    exact va_recv hX.2.2.2.2.2.1 hP hq (q0 := 0) (by rw [wld_at (Nat.le_of_ble_eq_true rfl), wcell_obj hk])
  have run := va_runV (p := cx_p X) (l := cx_l X) (e := cx_e X) (R := cx_R X) (s := cx_s X) (m := cx_m X) (args := cx_args X) (below := cx_below X) (meth := cx_meth X) (c := cx_c X) (H := H) (locs := locs) (cells := k) (slots := n) (b := (cx_ad X) 0) (As := As (cx_ad X) (cx_adK X)) (rest := rest) (g := F0 (cx_m X) pc ls ((As (cx_ad X) (cx_adK X)).reverse ++ .ref ((cx_ad X) 0) :: rest)) ⟨hX.1, hX.2.1, hX.2.2.1, hX.2.2.2.1, hts⟩ hM0 cw ⟨PW.blind, hrc, fun U hU hW => ⟨rfl, hX.goC hP hS hU hW⟩⟩ rfl (hnp _ _) hl.1 rfl (lv_room hro) d (by rw [eR]; exact hcs)
  refine va_callv run hS (fun q _ h => hF q h) hF (fun (u) t H1 locs1 ht hvm hw hB hz1 hk1 hS1 => ?_)
  rw [ht] at hB
  skip
  exact kk z2.2 h H1 locs1 ls hl hB (hX.keptM hM hk1) hS1
theorem L_cMi (hX : FL X aM b L xs) {cc2 : ByteArray} {nL2 np : Nat} {rm : Room} {stk : List Value} {y : MethodName} {index : Nat} {rt : FieldType} {o2 : Option (Int32 × Mem)} {kf : Int32 → Mem → Option (Mem × Mem)} (ci : Nat) (As : (Nat → Nat) → (Nat → Nat) → List Value) (rest : List Value) (hM0 : ∀ z2, o2 = some z2 → Mi wM (cx_l X) y cc2 nL2 rt rm (fun ad adK => .ref (ad 0) :: As ad adK) ν z2) (ok : OkV y cc2 nL2 (some rt) np) (hlk : Cond.methodLink RL index y ∈ tb) (hk : wM.2.1 0 = .inl ci) (hC : (vwCl[ci]?).map (fun q => q.1) = some y.cls) (hst : stk = (As aM (cx_adK X)).reverse ++ .ref (aM 0) :: rest) (hnp : ∀ a b, (As a b).length = np) (hro : (rest.map fun v => v.category).sum ≤ 8) (hr : rm.cells = 0 ∧ rm.slots = 0 ∧ rm.frames + 1 ≤ room_1.frames ∧ 8 + (nL2 + 11) + rm.locals ≤ room_1.locals) (hcs : k ≤ room_1.cells ∧ n ≤ room_1.slots) (d : decode cL_law pc = .ok (.invokevirtual index, 3)) (kk : ∀ (r : Int32) (μ1 : Mem), GL X aM z (pc + 3) lv (.int r :: rest) μ μ1 k n (kf r μ1)) : GL X aM z pc lv stk μ ν k n (bd o2 kf) := by
  intro h H locs ls hl hP hM hS
  unfold bd at h
  obtain ⟨z2, hz2, h⟩ := Option.bind_eq_some_iff.mp h
  have hM0 := hM0 z2 hz2 (cx_D X) (cx_cA X) aM (cx_adK X) (cx_adV X) H.size
  have eR := hX.2.2.2.2.2.2.2.2.1
  have hF := hX.subM hS
  have hts := hX.2.2.2.2.1
  subst hst
  obtain ⟨k1, k2, k3, k4, k5⟩ := ok
  have cw : CallW (cx_R X) (cx_s X) (cx_args X) RL y.cls index y cc2 nL2 (some rt) (.code y cc2 nL2 (some rt) :: tb) rm 0 0 np := ⟨callB_of np hts (code_tb k4) rfl hr.1 hr.2.1 (hts _ k3) (hts _ hlk) k5 (by rw [eR]; exact hr.2.2), hts _ k1, hts _ k2⟩
  have hrc : ∃ cell : Cell, H[aM 0]? = some cell ∧ cell.vm.isStatics = false ∧ (cx_s X).vm.findClass y.cls = some cell.cls := by
    obtain ⟨q, hq, e⟩ := Option.map_eq_some_iff.mp hC
    rw [← e]
    exact va_recv hX.2.2.2.2.2.1 hM hq (q0 := 0) (by rw [wld_at (Nat.le_of_ble_eq_true rfl), wcell_obj hk])
  have run := va_runV (p := cx_p X) (l := cx_l X) (e := cx_e X) (R := cx_R X) (s := cx_s X) (m := cx_m X) (args := cx_args X) (below := cx_below X) (meth := cx_meth X) (c := cx_c X) (H := H) (locs := locs) (cells := k) (slots := n) (b := aM 0) (As := As aM (cx_adK X)) (rest := rest) (g := F0 (cx_m X) pc ls ((As aM (cx_adK X)).reverse ++ .ref (aM 0) :: rest)) ⟨hX.1, hX.2.1, hX.2.2.1, hX.2.2.2.1, hts⟩ hM0 cw ⟨PW.blind, hrc, fun U hU hW => ⟨rfl, hX.goM hM hS hU hW⟩⟩ rfl (hnp _ _) hl.1 rfl (lv_room hro) d (by rw [eR]; exact hcs)
  refine va_calli run hS (fun q _ h => hF q h) hF (fun (r) (u) t H1 locs1 ht hvm hw hB hz1 hk1 hS1 => ?_)
  rw [ht] at hB
  subst hw
  exact kk z2.1 z2.2 h H1 locs1 ls hl (hX.keptC hP hk1) hB hS1
theorem L_cMl (hX : FL X aM b L xs) {cc2 : ByteArray} {nL2 np : Nat} {rm : Room} {stk : List Value} {y : MethodName} {index : Nat} {rt : FieldType} {o2 : Option (Int64 × Mem)} {kf : Int64 → Mem → Option (Mem × Mem)} (ci : Nat) (As : (Nat → Nat) → (Nat → Nat) → List Value) (rest : List Value) (hM0 : ∀ z2, o2 = some z2 → Ml wM (cx_l X) y cc2 nL2 rt rm (fun ad adK => .ref (ad 0) :: As ad adK) ν z2) (ok : OkV y cc2 nL2 (some rt) np) (hlk : Cond.methodLink RL index y ∈ tb) (hk : wM.2.1 0 = .inl ci) (hC : (vwCl[ci]?).map (fun q => q.1) = some y.cls) (hst : stk = (As aM (cx_adK X)).reverse ++ .ref (aM 0) :: rest) (hnp : ∀ a b, (As a b).length = np) (hro : (rest.map fun v => v.category).sum ≤ 8) (hr : rm.cells = 0 ∧ rm.slots = 0 ∧ rm.frames + 1 ≤ room_1.frames ∧ 8 + (nL2 + 11) + rm.locals ≤ room_1.locals) (hcs : k ≤ room_1.cells ∧ n ≤ room_1.slots) (d : decode cL_law pc = .ok (.invokevirtual index, 3)) (kk : ∀ (r : Int64) (μ1 : Mem), GL X aM z (pc + 3) lv (.long r :: rest) μ μ1 k n (kf r μ1)) : GL X aM z pc lv stk μ ν k n (bd o2 kf) := by
  intro h H locs ls hl hP hM hS
  unfold bd at h
  obtain ⟨z2, hz2, h⟩ := Option.bind_eq_some_iff.mp h
  have hM0 := hM0 z2 hz2 (cx_D X) (cx_cA X) aM (cx_adK X) (cx_adV X) H.size
  have eR := hX.2.2.2.2.2.2.2.2.1
  have hF := hX.subM hS
  have hts := hX.2.2.2.2.1
  subst hst
  obtain ⟨k1, k2, k3, k4, k5⟩ := ok
  have cw : CallW (cx_R X) (cx_s X) (cx_args X) RL y.cls index y cc2 nL2 (some rt) (.code y cc2 nL2 (some rt) :: tb) rm 0 0 np := ⟨callB_of np hts (code_tb k4) rfl hr.1 hr.2.1 (hts _ k3) (hts _ hlk) k5 (by rw [eR]; exact hr.2.2), hts _ k1, hts _ k2⟩
  have hrc : ∃ cell : Cell, H[aM 0]? = some cell ∧ cell.vm.isStatics = false ∧ (cx_s X).vm.findClass y.cls = some cell.cls := by
    obtain ⟨q, hq, e⟩ := Option.map_eq_some_iff.mp hC
    rw [← e]
    exact va_recv hX.2.2.2.2.2.1 hM hq (q0 := 0) (by rw [wld_at (Nat.le_of_ble_eq_true rfl), wcell_obj hk])
  have run := va_runV (p := cx_p X) (l := cx_l X) (e := cx_e X) (R := cx_R X) (s := cx_s X) (m := cx_m X) (args := cx_args X) (below := cx_below X) (meth := cx_meth X) (c := cx_c X) (H := H) (locs := locs) (cells := k) (slots := n) (b := aM 0) (As := As aM (cx_adK X)) (rest := rest) (g := F0 (cx_m X) pc ls ((As aM (cx_adK X)).reverse ++ .ref (aM 0) :: rest)) ⟨hX.1, hX.2.1, hX.2.2.1, hX.2.2.2.1, hts⟩ hM0 cw ⟨PW.blind, hrc, fun U hU hW => ⟨rfl, hX.goM hM hS hU hW⟩⟩ rfl (hnp _ _) hl.1 rfl (lv_room hro) d (by rw [eR]; exact hcs)
  refine va_calll run hS (fun q _ h => hF q h) hF (fun (r) (u) t H1 locs1 ht hvm hw hB hz1 hk1 hS1 => ?_)
  rw [ht] at hB
  subst hw
  exact kk z2.1 z2.2 h H1 locs1 ls hl (hX.keptC hP hk1) hB hS1
theorem L_cMv (hX : FL X aM b L xs) {cc2 : ByteArray} {nL2 np : Nat} {rm : Room} {stk : List Value} {y : MethodName} {index : Nat} {o2 : Option (Unit × Mem)} {kf : Mem → Option (Mem × Mem)} (ci : Nat) (As : (Nat → Nat) → (Nat → Nat) → List Value) (rest : List Value) (hM0 : ∀ z2, o2 = some z2 → Mv wM (cx_l X) y cc2 nL2 rm (fun ad adK => .ref (ad 0) :: As ad adK) ν z2) (ok : OkV y cc2 nL2 none np) (hlk : Cond.methodLink RL index y ∈ tb) (hk : wM.2.1 0 = .inl ci) (hC : (vwCl[ci]?).map (fun q => q.1) = some y.cls) (hst : stk = (As aM (cx_adK X)).reverse ++ .ref (aM 0) :: rest) (hnp : ∀ a b, (As a b).length = np) (hro : (rest.map fun v => v.category).sum ≤ 8) (hr : rm.cells = 0 ∧ rm.slots = 0 ∧ rm.frames + 1 ≤ room_1.frames ∧ 8 + (nL2 + 11) + rm.locals ≤ room_1.locals) (hcs : k ≤ room_1.cells ∧ n ≤ room_1.slots) (d : decode cL_law pc = .ok (.invokevirtual index, 3)) (kk : ∀ (μ1 : Mem), GL X aM z (pc + 3) lv (rest) μ μ1 k n (kf μ1)) : GL X aM z pc lv stk μ ν k n (bv o2 kf) := by
  intro h H locs ls hl hP hM hS
  unfold bv at h
  obtain ⟨z2, hz2, h⟩ := Option.bind_eq_some_iff.mp h
  have hM0 := hM0 z2 hz2 (cx_D X) (cx_cA X) aM (cx_adK X) (cx_adV X) H.size
  have eR := hX.2.2.2.2.2.2.2.2.1
  have hF := hX.subM hS
  have hts := hX.2.2.2.2.1
  subst hst
  obtain ⟨k1, k2, k3, k4, k5⟩ := ok
  have cw : CallW (cx_R X) (cx_s X) (cx_args X) RL y.cls index y cc2 nL2 none (.code y cc2 nL2 none :: tb) rm 0 0 np := ⟨callB_of np hts (code_tb k4) rfl hr.1 hr.2.1 (hts _ k3) (hts _ hlk) k5 (by rw [eR]; exact hr.2.2), hts _ k1, hts _ k2⟩
  have hrc : ∃ cell : Cell, H[aM 0]? = some cell ∧ cell.vm.isStatics = false ∧ (cx_s X).vm.findClass y.cls = some cell.cls := by
    obtain ⟨q, hq, e⟩ := Option.map_eq_some_iff.mp hC
    rw [← e]
    exact va_recv hX.2.2.2.2.2.1 hM hq (q0 := 0) (by rw [wld_at (Nat.le_of_ble_eq_true rfl), wcell_obj hk])
  have run := va_runV (p := cx_p X) (l := cx_l X) (e := cx_e X) (R := cx_R X) (s := cx_s X) (m := cx_m X) (args := cx_args X) (below := cx_below X) (meth := cx_meth X) (c := cx_c X) (H := H) (locs := locs) (cells := k) (slots := n) (b := aM 0) (As := As aM (cx_adK X)) (rest := rest) (g := F0 (cx_m X) pc ls ((As aM (cx_adK X)).reverse ++ .ref (aM 0) :: rest)) ⟨hX.1, hX.2.1, hX.2.2.1, hX.2.2.2.1, hts⟩ hM0 cw ⟨PW.blind, hrc, fun U hU hW => ⟨rfl, hX.goM hM hS hU hW⟩⟩ rfl (hnp _ _) hl.1 rfl (lv_room hro) d (by rw [eR]; exact hcs)
  refine va_callv run hS (fun q _ h => hF q h) hF (fun (u) t H1 locs1 ht hvm hw hB hz1 hk1 hS1 => ?_)
  rw [ht] at hB
  skip
  exact kk z2.2 h H1 locs1 ls hl (hX.keptC hP hk1) hB hS1
theorem L_h (hX : FL X aM b L xs) {cc2 : ByteArray} {nL2 np K S : Nat} {hh : List (Nat × Nat × Nat × Nat)} {rm : Room} {stk : List Value} {y : MethodName} {index : Nat} {o2 : Option (Int32 × Mem)} {kf : Int32 → Mem → Option (Mem × Mem)} (As : (Nat → Nat) → (Nat → Nat) → List Value) (rest : List Value) (hM0 : ∀ z2, o2 = some z2 → Hi wC (cx_l X) y cc2 nL2 hh rm K S As μ z2) (ok : OkH y cc2 nL2 hh np) (hlk : Cond.methodLink RL index y ∈ tb) (hst : stk = (As (cx_ad X) (cx_adK X)).reverse ++ rest) (hnp : ∀ a b, (As a b).length = np) (hro : (rest.map fun v => v.category).sum ≤ 8) (hr : rm.cells = K ∧ rm.slots = S ∧ rm.frames + 1 ≤ room_1.frames ∧ 8 + (nL2 + 11) + rm.locals ≤ room_1.locals) (hcs : k + K ≤ room_1.cells ∧ n + S ≤ room_1.slots) (d : decode cL_law pc = .ok (.invokestatic index, 3)) (kk : ∀ (r : Int32) (μ1 : Mem), GL X aM z (pc + 3) lv (.int r :: rest) μ1 ν (k + K) (n + S) (kf r μ1)) : GL X aM z pc lv stk μ ν k n (bd o2 kf) := by
  intro h H locs ls hl hP hM hS
  unfold bd at h
  obtain ⟨z2, hz2, h⟩ := Option.bind_eq_some_iff.mp h
  have hM0 := hM0 z2 hz2 (cx_D X) (cx_cA X) (cx_ad X) (cx_adK X) (cx_adV X) H.size
  have eR := hX.2.2.2.2.2.2.2.2.1
  have hF := hX.subC hS
  have hts := hX.2.2.2.2.1
  subst hst
  have cw := vx_cwSW (R := cx_R X) (own := RL) (index := index) (maxL := nL2) (mc := K) (ms := S) (y := y) (bytes := cc2) (ret := some .int) (hh := hh) (Ts := tb) (ws := .codeWith y cc2 nL2 (some .int) hh :: tb) (ws' := tb) (rm := rm) np hts (goodIn_tb (fun w hw => by
    rcases List.mem_append.mp (show w ∈ _ ++ _ from hw) with h9 | h9
    · simp only [List.mem_cons, List.not_mem_nil, or_false] at h9
      rcases h9 with e | e | e <;> (rw [e]; first | exact hlk | exact ok.1 | exact ok.2.1)
    · exact (List.mem_cons.mp h9).elim (fun e => by rw [e]; exact ok.2.2.1) (fun e => e))) rfl hr.1 hr.2.1 ok.2.2.2 (by rw [eR]; exact hr.2.2)
  have run := vx_runSW (p := cx_p X) (l := cx_l X) (e := cx_e X) (R := cx_R X) (s := cx_s X) (m := cx_m X) (args := cx_args X) (below := cx_below X) (meth := cx_meth X) (c := cx_c X) (H := H) (locs := locs) (cells := k) (slots := n) (As := As (cx_ad X) (cx_adK X)) (rest := rest) (g := F0 (cx_m X) pc ls ((As (cx_ad X) (cx_adK X)).reverse ++ rest)) ⟨hX.1, hX.2.1, hX.2.2.1, hX.2.2.2.1, hts⟩ hM0 cw ⟨PW.blind, fun U hU hW => ⟨rfl, hX.goC hP hS hU hW⟩⟩ rfl (hnp _ _) hl.1 rfl (lv_room hro) d (by rw [eR]; exact hcs)
  refine va_calli run hS (fun q _ h => hF q h) hF (fun (r) (u) t H1 locs1 ht hvm hw hB hz1 hk1 hS1 => ?_)
  rw [ht] at hB
  subst hw
  exact kk z2.1 z2.2 h H1 locs1 ls hl hB (hX.keptM hM hk1) hS1
end
