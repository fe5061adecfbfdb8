/-- the start of a method over a world -/
def PW (w : Wld) (D : va_G) (cA : Nat → ClassId) (ad adK adV : Nat → Nat) (sz : Nat) (μ : Mem) (U : State) : Prop :=
  U.heap.size = sz ∧ va_P D vwCl (wld w cA ad μ) U.heap ∧ va_K D vwCl (tysA cA) U ∧ injA w ad ∧ SW adK adV (AA w ad sz) U U.heap
theorem PW.blind {w : Wld} {D : va_G} {cA : Nat → ClassId} {ad adK adV : Nat → Nat} {sz : Nat} {μ : Mem} {av : List Value} : FrameBlind (va_Pc av (PW w D cA ad adK adV sz μ)) := by
  intro a U g mk q
  obtain ⟨q0, q1, qP, qK, qD, qS⟩ := q
  exact ⟨q0, q1, qP, va_K.moved (u := U) (U := U.calling g mk a) (Vm.Alike.refl U.vm) qK, qD, SW.same (u := U) (U := U.calling g mk a) rfl qS⟩
theorem AA_sub {w : Wld} {ad : Nat → Nat} {a b : Nat} (h : a ≤ b) : ∀ q, AA w ad b q → AA w ad a q := fun q hq => hq.elim Or.inl (fun z => Or.inr (Nat.le_trans h z))
theorem PW.go {w : Wld} {X : Ctx} {cc : ByteArray} {nL : Nat} {own : String} {ret : Option FieldType} {R : Room} {μ : Mem} {H : Heap} {locs : List Loc} (hX : Fx w X cc nL own ret R) (hP : va_P (cx_D X) vwCl (wld w (cx_cA X) (cx_ad X) μ) H) (hS : va_S (cx_A X) (cx_s X).heap H locs) {U : State} (hU : U.heap = H) (hW : (cx_s X).WarmedH U.vm) : PW w (cx_D X) (cx_cA X) (cx_ad X) (cx_adK X) (cx_adV X) H.size μ U := by
  refine ⟨by rw [hU], by rw [hU]; exact hP, va_K.moved hW.alike hX.2.2.2.2.2.1, hX.2.2.2.2.2.2.2.1, ?_⟩
  rw [hU]
  refine SW.go (hX.2.2.2.2.2.2.2.2.2.2.2.2.2.2) hS hW ?_
  rw [hX.2.2.2.2.2.2.2.2.2.2.2.2.2.1]
  exact AA_sub hS.1
def Qc_i (w : Wld) (D : va_G) (cA : Nat → ClassId) (ad : Nat → Nat) (sz : Nat) (z : Int32 × Mem) : Array Value → State → Outcome → State → Prop := va_Qi (S := Unit) (fun r _ => r = z.1) (fun _ t => va_P D vwCl (wld w cA ad z.2) t.heap) (AA w ad sz)
/-- a contract: from the memory μ with these arguments it returns z -/
def Mi (w : Wld) (l : Launch) (y : MethodName) (cc : ByteArray) (nL : Nat) (ret : FieldType) (rm : Room) (av : (Nat → Nat) → (Nat → Nat) → List Value) (μ : Mem) (z : Int32 × Mem) : Prop :=
  ∀ (D : va_G) (cA : Nat → ClassId) (ad adK adV : Nat → Nat) (sz : Nat), Met l y (.code y cc nL (some ret) :: tb) rm (va_Pc (av ad adK) (PW w D cA ad adK adV sz μ)) (Qc_i w D cA ad sz z) 0 0 (AA w ad sz)
def Qx_i (w : Wld) (X : Ctx) (z : Int32 × Mem) : Prop := cx_Q X = MQ (cx_below X) (Qc_i w (cx_D X) (cx_cA X) (cx_ad X) (cx_s X).heap.size z) (cx_args X) (cx_s X) (cx_cells X) (cx_slots X) (AA w (cx_ad X) (cx_s X).heap.size)
def Qc_l (w : Wld) (D : va_G) (cA : Nat → ClassId) (ad : Nat → Nat) (sz : Nat) (z : Int64 × Mem) : Array Value → State → Outcome → State → Prop := va_Ql (S := Unit) (fun r _ => r = z.1) (fun _ t => va_P D vwCl (wld w cA ad z.2) t.heap) (AA w ad sz)
/-- a contract: from the memory μ with these arguments it returns z -/
def Ml (w : Wld) (l : Launch) (y : MethodName) (cc : ByteArray) (nL : Nat) (ret : FieldType) (rm : Room) (av : (Nat → Nat) → (Nat → Nat) → List Value) (μ : Mem) (z : Int64 × Mem) : Prop :=
  ∀ (D : va_G) (cA : Nat → ClassId) (ad adK adV : Nat → Nat) (sz : Nat), Met l y (.code y cc nL (some ret) :: tb) rm (va_Pc (av ad adK) (PW w D cA ad adK adV sz μ)) (Qc_l w D cA ad sz z) 0 0 (AA w ad sz)
def Qx_l (w : Wld) (X : Ctx) (z : Int64 × Mem) : Prop := cx_Q X = MQ (cx_below X) (Qc_l w (cx_D X) (cx_cA X) (cx_ad X) (cx_s X).heap.size z) (cx_args X) (cx_s X) (cx_cells X) (cx_slots X) (AA w (cx_ad X) (cx_s X).heap.size)
def Qc_v (w : Wld) (D : va_G) (cA : Nat → ClassId) (ad : Nat → Nat) (sz : Nat) (z : Unit × Mem) : Array Value → State → Outcome → State → Prop := va_Qv (S := Unit) (fun _ => True) (fun _ t => va_P D vwCl (wld w cA ad z.2) t.heap) (AA w ad sz)
def Mv (w : Wld) (l : Launch) (y : MethodName) (cc : ByteArray) (nL : Nat) (rm : Room) (av : (Nat → Nat) → (Nat → Nat) → List Value) (μ : Mem) (z : Unit × Mem) : Prop :=
  ∀ (D : va_G) (cA : Nat → ClassId) (ad adK adV : Nat → Nat) (sz : Nat), Met l y (.code y cc nL none :: tb) rm (va_Pc (av ad adK) (PW w D cA ad adK adV sz μ)) (Qc_v w D cA ad sz z) 0 0 (AA w ad sz)
def Qx_v (w : Wld) (X : Ctx) (z : Unit × Mem) : Prop := cx_Q X = MQ (cx_below X) (Qc_v w (cx_D X) (cx_cA X) (cx_ad X) (cx_s X).heap.size z) (cx_args X) (cx_s X) (cx_cells X) (cx_slots X) (AA w (cx_ad X) (cx_s X).heap.size)
theorem Mi.of {w : Wld} {l : Launch} {y : MethodName} {cc : ByteArray} {nL : Nat} {ret : FieldType} {rm : Room} {av : (Nat → Nat) → (Nat → Nat) → List Value} {μ : Mem} {z : Int32 × Mem} {o : Option (Int32 × Mem)} (hf : o = some z) (hy : plainName y.cls = true) (hn : ∀ ad adK, (lg_sl (av ad adK)).length ≤ nL) (body : ∀ X : Ctx, Fx w X cc nL y.cls (some ret) rm → Qx_i w X z → cx_l X = l → cx_cells X = 0 ∧ cx_slots X = 0 → G w X z 0 (lv_args 0 (av (cx_ad X) (cx_adK X))) [] μ o) : Mi w l y cc nL ret rm av μ z := by
  intro D cA ad adK adV sz
  refine Met.ofW (cc := cc) (maxL := nL) (ret := (some ret)) hy rfl ?_
  intro p e s m args below meth c s₁ B hml hv
  obtain ⟨rfl, hsz, hP, hK, hi, hst⟩ := hv
  subst hsz
  have hts := atoms_spec (ws := .code y cc nL (some ret) :: tb) B.pre
  let X : Ctx := (p, l, e, (headSpec (.code y cc nL (some ret) :: tb) rm).room, s, m, (av ad adK).toArray, below, meth, c, 0, 0, MQ below (Qc_i w D cA ad s.heap.size z) (av ad adK).toArray s 0 0 (AA w ad s.heap.size), D, cA, ad, AA w ad s.heap.size, nL, adK, adV)
  have hX : Fx w X cc nL y.cls (some ret) rm := ⟨B.exec, B.bytes, hml, findClass_of_methodNamed B.named, fun q hq => hts q (List.mem_cons_of_mem _ hq), hK, fun q h => Or.inr h, hi, fun k hk => Or.inl ⟨k, hk, rfl⟩, B.notSynchronized, B.returns, rfl, rfl, rfl, hst⟩
  have hl := lv_entry (av ad adK) (n := nL) (hn ad adK)
  rw [lg_entry_eq]
  exact body X hX rfl rfl ⟨rfl, rfl⟩ hf s.heap [] _ hl hP va_S.rf
theorem Ml.of {w : Wld} {l : Launch} {y : MethodName} {cc : ByteArray} {nL : Nat} {ret : FieldType} {rm : Room} {av : (Nat → Nat) → (Nat → Nat) → List Value} {μ : Mem} {z : Int64 × Mem} {o : Option (Int64 × Mem)} (hf : o = some z) (hy : plainName y.cls = true) (hn : ∀ ad adK, (lg_sl (av ad adK)).length ≤ nL) (body : ∀ X : Ctx, Fx w X cc nL y.cls (some ret) rm → Qx_l w X z → cx_l X = l → cx_cells X = 0 ∧ cx_slots X = 0 → G w X z 0 (lv_args 0 (av (cx_ad X) (cx_adK X))) [] μ o) : Ml w l y cc nL ret rm av μ z := by
  intro D cA ad adK adV sz
  refine Met.ofW (cc := cc) (maxL := nL) (ret := (some ret)) hy rfl ?_
  intro p e s m args below meth c s₁ B hml hv
  obtain ⟨rfl, hsz, hP, hK, hi, hst⟩ := hv
  subst hsz
  have hts := atoms_spec (ws := .code y cc nL (some ret) :: tb) B.pre
  let X : Ctx := (p, l, e, (headSpec (.code y cc nL (some ret) :: tb) rm).room, s, m, (av ad adK).toArray, below, meth, c, 0, 0, MQ below (Qc_l w D cA ad s.heap.size z) (av ad adK).toArray s 0 0 (AA w ad s.heap.size), D, cA, ad, AA w ad s.heap.size, nL, adK, adV)
  have hX : Fx w X cc nL y.cls (some ret) rm := ⟨B.exec, B.bytes, hml, findClass_of_methodNamed B.named, fun q hq => hts q (List.mem_cons_of_mem _ hq), hK, fun q h => Or.inr h, hi, fun k hk => Or.inl ⟨k, hk, rfl⟩, B.notSynchronized, B.returns, rfl, rfl, rfl, hst⟩
  have hl := lv_entry (av ad adK) (n := nL) (hn ad adK)
  rw [lg_entry_eq]
  exact body X hX rfl rfl ⟨rfl, rfl⟩ hf s.heap [] _ hl hP va_S.rf
theorem Mv.of {w : Wld} {l : Launch} {y : MethodName} {cc : ByteArray} {nL : Nat} {rm : Room} {av : (Nat → Nat) → (Nat → Nat) → List Value} {μ : Mem} {z : Unit × Mem} {o : Option (Unit × Mem)} (hf : o = some z) (hy : plainName y.cls = true) (hn : ∀ ad adK, (lg_sl (av ad adK)).length ≤ nL) (body : ∀ X : Ctx, Fx w X cc nL y.cls none rm → Qx_v w X z → cx_l X = l → cx_cells X = 0 ∧ cx_slots X = 0 → G w X z 0 (lv_args 0 (av (cx_ad X) (cx_adK X))) [] μ o) : Mv w l y cc nL rm av μ z := by
  intro D cA ad adK adV sz
  refine Met.ofW (cc := cc) (maxL := nL) (ret := none) hy rfl ?_
  intro p e s m args below meth c s₁ B hml hv
  obtain ⟨rfl, hsz, hP, hK, hi, hst⟩ := hv
  subst hsz
  have hts := atoms_spec (ws := .code y cc nL none :: tb) B.pre
  let X : Ctx := (p, l, e, (headSpec (.code y cc nL none :: tb) rm).room, s, m, (av ad adK).toArray, below, meth, c, 0, 0, MQ below (Qc_v w D cA ad s.heap.size z) (av ad adK).toArray s 0 0 (AA w ad s.heap.size), D, cA, ad, AA w ad s.heap.size, nL, adK, adV)
  have hX : Fx w X cc nL y.cls none rm := ⟨B.exec, B.bytes, hml, findClass_of_methodNamed B.named, fun q hq => hts q (List.mem_cons_of_mem _ hq), hK, fun q h => Or.inr h, hi, fun k hk => Or.inl ⟨k, hk, rfl⟩, B.notSynchronized, B.returns, rfl, rfl, rfl, hst⟩
  have hl := lv_entry (av ad adK) (n := nL) (hn ad adK)
  rw [lg_entry_eq]
  exact body X hX rfl rfl ⟨rfl, rfl⟩ hf s.heap [] _ hl hP va_S.rf
theorem G_iret {w : Wld} {X : Ctx} {cc : ByteArray} {nL : Nat} {own : String} {R : Room} {pc : Nat} {lv : List (Nat × Value)} {μ : Mem} {z : Int32 × Mem} {v : Int32} (hX : Fx w X cc nL own (some .int) R) (hQ : Qx_i w X z) (d : decode cc pc = .ok (.ireturn, 1)) : G w X z pc lv [.int v] μ (some (v, μ)) := by
  intro h H locs ls hl hP hS
  cases h
  have eA := hX.2.2.2.2.2.2.2.2.2.2.2.2.2.1
  rw [eA] at hS
  have hlocks := hX.2.2.2.2.2.2.2.2.2.1
  rw [show cx_Q X = _ from hQ]
  exact W.iret (v := v) hX.1 hX.2.1 hX.2.2.2.2.2.2.2.2.2.2.1 (fun t ht hW => ⟨⟨v, (), rfl, rfl, by show va_P _ _ _ t.heap; rw [ht]; exact hP⟩, hS.F ht⟩) hS.2.2 d hlocks
theorem G_zret {w : Wld} {X : Ctx} {cc : ByteArray} {nL : Nat} {own : String} {R : Room} {pc : Nat} {lv : List (Nat × Value)} {μ : Mem} {z : Int32 × Mem} {v : Int32} (hX : Fx w X cc nL own (some .boolean) R) (hQ : Qx_i w X z) (hn : narrow .boolean (.int v) = .int v) (d : decode cc pc = .ok (.ireturn, 1)) : G w X z pc lv [.int v] μ (some (v, μ)) := by
  intro h H locs ls hl hP hS
  cases h
  have eA := hX.2.2.2.2.2.2.2.2.2.2.2.2.2.1
  rw [eA] at hS
  have hlocks := hX.2.2.2.2.2.2.2.2.2.1
  rw [show cx_Q X = _ from hQ]
  exact W.zret (v := v) hX.1 hX.2.1 hX.2.2.2.2.2.2.2.2.2.2.1 hn (fun t ht hW => ⟨⟨v, (), rfl, rfl, by show va_P _ _ _ t.heap; rw [ht]; exact hP⟩, hS.F ht⟩) hS.2.2 d hlocks
theorem G_zretG {w : Wld} {X : Ctx} {cc : ByteArray} {nL : Nat} {own : String} {R : Room} {pc : Nat} {lv : List (Nat × Value)} {μ : Mem} {z : Int32 × Mem} {v : Int32} (hX : Fx w X cc nL own (some .boolean) R) (hQ : Qx_i w X z) (d : decode cc pc = .ok (.ireturn, 1)) : G w X z pc lv [.int v] μ (if vp_nar .boolean v = v then some (v, μ) else none) := G_guard (fun hc => G_zret hX hQ (by
  have h1 : narrow .boolean (.int v) = .int (vp_nar .boolean v) := rfl
  rw [h1, hc]) d)
theorem G_lret {w : Wld} {X : Ctx} {cc : ByteArray} {nL : Nat} {own : String} {R : Room} {pc : Nat} {lv : List (Nat × Value)} {μ : Mem} {z : Int64 × Mem} {v : Int64} (hX : Fx w X cc nL own (some .long) R) (hQ : Qx_l w X z) (d : decode cc pc = .ok (.lreturn, 1)) : G w X z pc lv [.long v] μ (some (v, μ)) := by
  intro h H locs ls hl hP hS
  cases h
  have eA := hX.2.2.2.2.2.2.2.2.2.2.2.2.2.1
  rw [eA] at hS
  have hlocks := hX.2.2.2.2.2.2.2.2.2.1
  rw [show cx_Q X = _ from hQ]
  exact W.lret (v := v) hX.1 hX.2.1 hX.2.2.2.2.2.2.2.2.2.2.1 (fun t ht hW => ⟨⟨v, (), rfl, rfl, by show va_P _ _ _ t.heap; rw [ht]; exact hP⟩, hS.F ht⟩) hS.2.2 d hlocks
theorem G_vret {w : Wld} {X : Ctx} {cc : ByteArray} {nL : Nat} {own : String} {R : Room} {pc : Nat} {lv : List (Nat × Value)} {μ : Mem} {z : Unit × Mem} (hX : Fx w X cc nL own none R) (hQ : Qx_v w X z) (d : decode cc pc = .ok (.return_, 1)) : G w X z pc lv [] μ (some ((), μ)) := by
  intro h H locs ls hl hP hS
  cases h
  have eA := hX.2.2.2.2.2.2.2.2.2.2.2.2.2.1
  rw [eA] at hS
  have hlocks := hX.2.2.2.2.2.2.2.2.2.1
  rw [show cx_Q X = _ from hQ]
  exact W.vret hX.1 hX.2.1 hX.2.2.2.2.2.2.2.2.2.2.1 (fun t ht hW => ⟨⟨(), rfl, trivial, by show va_P _ _ _ t.heap; rw [ht]; exact hP⟩, hS.F ht⟩) hS.2.2 d hlocks
/-- what the tables say of a method: an instance method that is chosen for its class, or a static one -/
def OkV (y : MethodName) (cc : ByteArray) (nL : Nat) (ret : Option FieldType) (np : Nat) : Prop := Cond.instanceMethod y ∈ tb ∧ Cond.selects y.cls y y ∈ tb ∧ Cond.initialized y.cls ∈ tb ∧ Cond.code y cc nL ret ∈ tb ∧ (y.cls ≠ "java/lang/invoke/MethodHandle" ∧ y.cls ≠ "java/lang/invoke/VarHandle" ∧ (parseMethodDescriptor y.desc).map (fun d => d.parameters.length) = some np)
def OkS (y : MethodName) (cc : ByteArray) (nL : Nat) (ret : Option FieldType) (np : Nat) : Prop := Cond.static y ∈ tb ∧ Cond.initialized y.cls ∈ tb ∧ Cond.code y cc nL ret ∈ tb ∧ (y.cls ≠ "java/lang/invoke/MethodHandle" ∧ y.cls ≠ "java/lang/invoke/VarHandle" ∧ (parseMethodDescriptor y.desc).map (fun d => d.parameters.length) = some np)
theorem code_tb {c : Cond} (h : c ∈ tb) : GoodIn tb (c :: tb) := goodIn_tb (fun w hw => (List.mem_cons.mp hw).elim (fun e => by rw [e]; exact h) (fun e => e))
theorem G_callVi {α : Type} {w : Wld} {X : Ctx} {z : α × Mem} {cc cc2 : ByteArray} {nL nL2 np : Nat} {own : String} {ret : Option FieldType} {R rm : Room} {pc : Nat} {lv : List (Nat × Value)} {stk : List Value} {μ : Mem} {y : MethodName} {index : Nat} {rt : FieldType} {o2 : Option (Int32 × Mem)} {k : Int32 → Mem → Option (α × Mem)} (hX : Fx w X cc nL own ret R) (b : Nat) (ci : Nat) (As : (Nat → Nat) → (Nat → Nat) → List Value) (rest : List Value) (hM : ∀ z2, o2 = some z2 → Mi w (cx_l X) y cc2 nL2 rt rm (fun ad adK => .ref (ad b) :: As ad adK) μ z2) (ok : OkV y cc2 nL2 (some rt) np) (hlk : Cond.methodLink own index y ∈ tb) (hb : b < w.1) (hk : w.2.1 b = .inl ci) (hC : (vwCl[ci]?).map (fun q => q.1) = some y.cls) (hst : stk = (As (cx_ad X) (cx_adK X)).reverse ++ .ref (cx_ad X b) :: rest) (hnp : ∀ a b, (As a b).length = np) (hro : (rest.map fun v => v.category).sum ≤ 8) (hr : rm.cells = 0 ∧ rm.slots = 0 ∧ rm.frames + 1 ≤ R.frames ∧ 8 + (nL2 + 11) + rm.locals ≤ R.locals) (hcs : cx_cells X + 0 ≤ R.cells ∧ cx_slots X + 0 ≤ R.slots) (d : decode cc pc = .ok (.invokevirtual index, 3)) (kk : ∀ (r : Int32) (μ1 : Mem), G w X z (pc + 3) lv (.int r :: rest) μ1 (k r μ1)) : G w X z pc lv stk μ (o2.bind (fun q => k q.1 q.2)) := by
  intro h H locs ls hl hP hS
  obtain ⟨z2, hz2, h⟩ := Option.bind_eq_some_iff.mp h
  have hM := hM z2 hz2 (cx_D X) (cx_cA X) (cx_ad X) (cx_adK X) (cx_adV X) H.size
  have eA := hX.2.2.2.2.2.2.2.2.2.2.2.2.2.1
  have eR := hX.2.2.2.2.2.2.2.2.2.2.2.1
  have hF : ∀ q, AA w (cx_ad X) H.size q → cx_A X q := by rw [eA]; exact AA_sub hS.1
  have hts := hX.2.2.2.2.1
  subst hst
  obtain ⟨k1, k2, k3, k4, k5⟩ := ok
  have cw : CallW (cx_R X) (cx_s X) (cx_args X) own y.cls index y cc2 nL2 (some rt) (.code y cc2 nL2 (some rt) :: tb) rm 0 0 np := ⟨callB_of np hts (code_tb k4) rfl hr.1 hr.2.1 (hts _ k3) (hts _ hlk) k5 (by rw [eR]; exact hr.2.2), hts _ k1, hts _ k2⟩
  have hrc : ∃ cell : Cell, H[cx_ad X b]? = some cell ∧ cell.vm.isStatics = false ∧ (cx_s X).vm.findClass y.cls = some cell.cls := by
    obtain ⟨q, hq, e⟩ := Option.map_eq_some_iff.mp hC
    rw [← e]
    exact va_recv hX.2.2.2.2.2.1 hP hq (q0 := b) (by rw [wld_at hb, wcell_obj hk])
  have run := va_runV (p := cx_p X) (l := cx_l X) (e := cx_e X) (R := cx_R X) (s := cx_s X) (m := cx_m X) (args := cx_args X) (below := cx_below X) (meth := cx_meth X) (c := cx_c X) (H := H) (locs := locs) (cells := cx_cells X) (slots := cx_slots X) (b := cx_ad X b) (As := As (cx_ad X) (cx_adK X)) (rest := rest) (g := F0 (cx_m X) pc ls ((As (cx_ad X) (cx_adK X)).reverse ++ .ref (cx_ad X b) :: rest)) ⟨hX.1, hX.2.1, hX.2.2.1, hX.2.2.2.1, hts⟩ hM cw ⟨PW.blind, hrc, fun U hU hW => ⟨rfl, PW.go hX hP hS hU hW⟩⟩ rfl (hnp _ _) (by rw [← hX.2.2.2.2.2.2.2.2.2.2.2.2.1]; exact hl.1) rfl (lv_room hro) d (by rw [eR]; exact hcs)
  refine va_calli run hS (fun q _ h => hF q h) hF (fun (r) (u) t H1 locs1 ht hvm hw hB hz1 hk1 hS1 => ?_)
  rw [ht] at hB
  subst hw
  exact kk z2.1 z2.2 h H1 locs1 ls hl hB hS1
theorem G_callSi {α : Type} {w : Wld} {X : Ctx} {z : α × Mem} {cc cc2 : ByteArray} {nL nL2 np : Nat} {own : String} {ret : Option FieldType} {R rm : Room} {pc : Nat} {lv : List (Nat × Value)} {stk : List Value} {μ : Mem} {y : MethodName} {index : Nat} {rt : FieldType} {o2 : Option (Int32 × Mem)} {k : Int32 → Mem → Option (α × Mem)} (hX : Fx w X cc nL own ret R) (As : (Nat → Nat) → (Nat → Nat) → List Value) (rest : List Value) (hM : ∀ z2, o2 = some z2 → Mi w (cx_l X) y cc2 nL2 rt rm As μ z2) (ok : OkS y cc2 nL2 (some rt) np) (hlk : Cond.methodLink own index y ∈ tb) (hst : stk = (As (cx_ad X) (cx_adK X)).reverse ++ rest) (hnp : ∀ a b, (As a b).length = np) (hro : (rest.map fun v => v.category).sum ≤ 8) (hr : rm.cells = 0 ∧ rm.slots = 0 ∧ rm.frames + 1 ≤ R.frames ∧ 8 + (nL2 + 11) + rm.locals ≤ R.locals) (hcs : cx_cells X + 0 ≤ R.cells ∧ cx_slots X + 0 ≤ R.slots) (d : decode cc pc = .ok (.invokestatic index, 3)) (kk : ∀ (r : Int32) (μ1 : Mem), G w X z (pc + 3) lv (.int r :: rest) μ1 (k r μ1)) : G w X z pc lv stk μ (o2.bind (fun q => k q.1 q.2)) := by
  intro h H locs ls hl hP hS
  obtain ⟨z2, hz2, h⟩ := Option.bind_eq_some_iff.mp h
  have hM := hM z2 hz2 (cx_D X) (cx_cA X) (cx_ad X) (cx_adK X) (cx_adV X) H.size
  have eA := hX.2.2.2.2.2.2.2.2.2.2.2.2.2.1
  have eR := hX.2.2.2.2.2.2.2.2.2.2.2.1
  have hF : ∀ q, AA w (cx_ad X) H.size q → cx_A X q := by rw [eA]; exact AA_sub hS.1
  have hts := hX.2.2.2.2.1
  subst hst
  obtain ⟨k1, k3, k4, k5⟩ := ok
  have cw : CallB (cx_R X) (cx_s X) (cx_args X) own index y cc2 nL2 (some rt) (.code y cc2 nL2 (some rt) :: tb) rm 0 0 np ∧ (Cond.static y).before (cx_args X) (cx_s X) = true := ⟨callB_of np hts (code_tb k4) rfl hr.1 hr.2.1 (hts _ k3) (hts _ hlk) k5 (by rw [eR]; exact hr.2.2), hts _ k1⟩
  have run := va_runS (p := cx_p X) (l := cx_l X) (e := cx_e X) (R := cx_R X) (s := cx_s X) (m := cx_m X) (args := cx_args X) (below := cx_below X) (meth := cx_meth X) (c := cx_c X) (H := H) (locs := locs) (cells := cx_cells X) (slots := cx_slots X) (As := As (cx_ad X) (cx_adK X)) (rest := rest) (g := F0 (cx_m X) pc ls ((As (cx_ad X) (cx_adK X)).reverse ++ rest)) ⟨hX.1, hX.2.1, hX.2.2.1, hX.2.2.2.1, hts⟩ hM cw ⟨PW.blind, fun U hU hW => ⟨rfl, PW.go hX hP hS hU hW⟩⟩ rfl (hnp _ _) (by rw [← hX.2.2.2.2.2.2.2.2.2.2.2.2.1]; exact hl.1) rfl (lv_room hro) d (by rw [eR]; exact hcs)
  refine va_calli run hS (fun q _ h => hF q h) hF (fun (r) (u) t H1 locs1 ht hvm hw hB hz1 hk1 hS1 => ?_)
  rw [ht] at hB
  subst hw
  exact kk z2.1 z2.2 h H1 locs1 ls hl hB hS1
theorem G_callVl {α : Type} {w : Wld} {X : Ctx} {z : α × Mem} {cc cc2 : ByteArray} {nL nL2 np : Nat} {own : String} {ret : Option FieldType} {R rm : Room} {pc : Nat} {lv : List (Nat × Value)} {stk : List Value} {μ : Mem} {y : MethodName} {index : Nat} {rt : FieldType} {o2 : Option (Int64 × Mem)} {k : Int64 → Mem → Option (α × Mem)} (hX : Fx w X cc nL own ret R) (b : Nat) (ci : Nat) (As : (Nat → Nat) → (Nat → Nat) → List Value) (rest : List Value) (hM : ∀ z2, o2 = some z2 → Ml w (cx_l X) y cc2 nL2 rt rm (fun ad adK => .ref (ad b) :: As ad adK) μ z2) (ok : OkV y cc2 nL2 (some rt) np) (hlk : Cond.methodLink own index y ∈ tb) (hb : b < w.1) (hk : w.2.1 b = .inl ci) (hC : (vwCl[ci]?).map (fun q => q.1) = some y.cls) (hst : stk = (As (cx_ad X) (cx_adK X)).reverse ++ .ref (cx_ad X b) :: rest) (hnp : ∀ a b, (As a b).length = np) (hro : (rest.map fun v => v.category).sum ≤ 8) (hr : rm.cells = 0 ∧ rm.slots = 0 ∧ rm.frames + 1 ≤ R.frames ∧ 8 + (nL2 + 11) + rm.locals ≤ R.locals) (hcs : cx_cells X + 0 ≤ R.cells ∧ cx_slots X + 0 ≤ R.slots) (d : decode cc pc = .ok (.invokevirtual index, 3)) (kk : ∀ (r : Int64) (μ1 : Mem), G w X z (pc + 3) lv (.long r :: rest) μ1 (k r μ1)) : G w X z pc lv stk μ (o2.bind (fun q => k q.1 q.2)) := by
  intro h H locs ls hl hP hS
  obtain ⟨z2, hz2, h⟩ := Option.bind_eq_some_iff.mp h
  have hM := hM z2 hz2 (cx_D X) (cx_cA X) (cx_ad X) (cx_adK X) (cx_adV X) H.size
  have eA := hX.2.2.2.2.2.2.2.2.2.2.2.2.2.1
  have eR := hX.2.2.2.2.2.2.2.2.2.2.2.1
  have hF : ∀ q, AA w (cx_ad X) H.size q → cx_A X q := by rw [eA]; exact AA_sub hS.1
  have hts := hX.2.2.2.2.1
  subst hst
  obtain ⟨k1, k2, k3, k4, k5⟩ := ok
  have cw : CallW (cx_R X) (cx_s X) (cx_args X) own y.cls index y cc2 nL2 (some rt) (.code y cc2 nL2 (some rt) :: tb) rm 0 0 np := ⟨callB_of np hts (code_tb k4) rfl hr.1 hr.2.1 (hts _ k3) (hts _ hlk) k5 (by rw [eR]; exact hr.2.2), hts _ k1, hts _ k2⟩
  have hrc : ∃ cell : Cell, H[cx_ad X b]? = some cell ∧ cell.vm.isStatics = false ∧ (cx_s X).vm.findClass y.cls = some cell.cls := by
    obtain ⟨q, hq, e⟩ := Option.map_eq_some_iff.mp hC
    rw [← e]
    exact va_recv hX.2.2.2.2.2.1 hP hq (q0 := b) (by rw [wld_at hb, wcell_obj hk])
  have run := va_runV (p := cx_p X) (l := cx_l X) (e := cx_e X) (R := cx_R X) (s := cx_s X) (m := cx_m X) (args := cx_args X) (below := cx_below X) (meth := cx_meth X) (c := cx_c X) (H := H) (locs := locs) (cells := cx_cells X) (slots := cx_slots X) (b := cx_ad X b) (As := As (cx_ad X) (cx_adK X)) (rest := rest) (g := F0 (cx_m X) pc ls ((As (cx_ad X) (cx_adK X)).reverse ++ .ref (cx_ad X b) :: rest)) ⟨hX.1, hX.2.1, hX.2.2.1, hX.2.2.2.1, hts⟩ hM cw ⟨PW.blind, hrc, fun U hU hW => ⟨rfl, PW.go hX hP hS hU hW⟩⟩ rfl (hnp _ _) (by rw [← hX.2.2.2.2.2.2.2.2.2.2.2.2.1]; exact hl.1) rfl (lv_room hro) d (by rw [eR]; exact hcs)
  refine va_calll run hS (fun q _ h => hF q h) hF (fun (r) (u) t H1 locs1 ht hvm hw hB hz1 hk1 hS1 => ?_)
  rw [ht] at hB
  subst hw
  exact kk z2.1 z2.2 h H1 locs1 ls hl hB hS1
theorem G_callSl {α : Type} {w : Wld} {X : Ctx} {z : α × Mem} {cc cc2 : ByteArray} {nL nL2 np : Nat} {own : String} {ret : Option FieldType} {R rm : Room} {pc : Nat} {lv : List (Nat × Value)} {stk : List Value} {μ : Mem} {y : MethodName} {index : Nat} {rt : FieldType} {o2 : Option (Int64 × Mem)} {k : Int64 → Mem → Option (α × Mem)} (hX : Fx w X cc nL own ret R) (As : (Nat → Nat) → (Nat → Nat) → List Value) (rest : List Value) (hM : ∀ z2, o2 = some z2 → Ml w (cx_l X) y cc2 nL2 rt rm As μ z2) (ok : OkS y cc2 nL2 (some rt) np) (hlk : Cond.methodLink own index y ∈ tb) (hst : stk = (As (cx_ad X) (cx_adK X)).reverse ++ rest) (hnp : ∀ a b, (As a b).length = np) (hro : (rest.map fun v => v.category).sum ≤ 8) (hr : rm.cells = 0 ∧ rm.slots = 0 ∧ rm.frames + 1 ≤ R.frames ∧ 8 + (nL2 + 11) + rm.locals ≤ R.locals) (hcs : cx_cells X + 0 ≤ R.cells ∧ cx_slots X + 0 ≤ R.slots) (d : decode cc pc = .ok (.invokestatic index, 3)) (kk : ∀ (r : Int64) (μ1 : Mem), G w X z (pc + 3) lv (.long r :: rest) μ1 (k r μ1)) : G w X z pc lv stk μ (o2.bind (fun q => k q.1 q.2)) := by
  intro h H locs ls hl hP hS
  obtain ⟨z2, hz2, h⟩ := Option.bind_eq_some_iff.mp h
  have hM := hM z2 hz2 (cx_D X) (cx_cA X) (cx_ad X) (cx_adK X) (cx_adV X) H.size
  have eA := hX.2.2.2.2.2.2.2.2.2.2.2.2.2.1
  have eR := hX.2.2.2.2.2.2.2.2.2.2.2.1
  have hF : ∀ q, AA w (cx_ad X) H.size q → cx_A X q := by rw [eA]; exact AA_sub hS.1
  have hts := hX.2.2.2.2.1
  subst hst
  obtain ⟨k1, k3, k4, k5⟩ := ok
  have cw : CallB (cx_R X) (cx_s X) (cx_args X) own index y cc2 nL2 (some rt) (.code y cc2 nL2 (some rt) :: tb) rm 0 0 np ∧ (Cond.static y).before (cx_args X) (cx_s X) = true := ⟨callB_of np hts (code_tb k4) rfl hr.1 hr.2.1 (hts _ k3) (hts _ hlk) k5 (by rw [eR]; exact hr.2.2), hts _ k1⟩
  have run := va_runS (p := cx_p X) (l := cx_l X) (e := cx_e X) (R := cx_R X) (s := cx_s X) (m := cx_m X) (args := cx_args X) (below := cx_below X) (meth := cx_meth X) (c := cx_c X) (H := H) (locs := locs) (cells := cx_cells X) (slots := cx_slots X) (As := As (cx_ad X) (cx_adK X)) (rest := rest) (g := F0 (cx_m X) pc ls ((As (cx_ad X) (cx_adK X)).reverse ++ rest)) ⟨hX.1, hX.2.1, hX.2.2.1, hX.2.2.2.1, hts⟩ hM cw ⟨PW.blind, fun U hU hW => ⟨rfl, PW.go hX hP hS hU hW⟩⟩ rfl (hnp _ _) (by rw [← hX.2.2.2.2.2.2.2.2.2.2.2.2.1]; exact hl.1) rfl (lv_room hro) d (by rw [eR]; exact hcs)
  refine va_calll run hS (fun q _ h => hF q h) hF (fun (r) (u) t H1 locs1 ht hvm hw hB hz1 hk1 hS1 => ?_)
  rw [ht] at hB
  subst hw
  exact kk z2.1 z2.2 h H1 locs1 ls hl hB hS1
theorem G_callVv {α : Type} {w : Wld} {X : Ctx} {z : α × Mem} {cc cc2 : ByteArray} {nL nL2 np : Nat} {own : String} {ret : Option FieldType} {R rm : Room} {pc : Nat} {lv : List (Nat × Value)} {stk : List Value} {μ : Mem} {y : MethodName} {index : Nat} {o2 : Option (Unit × Mem)} {k : Mem → Option (α × Mem)} (hX : Fx w X cc nL own ret R) (b : Nat) (ci : Nat) (As : (Nat → Nat) → (Nat → Nat) → List Value) (rest : List Value) (hM : ∀ z2, o2 = some z2 → Mv w (cx_l X) y cc2 nL2 rm (fun ad adK => .ref (ad b) :: As ad adK) μ z2) (ok : OkV y cc2 nL2 none np) (hlk : Cond.methodLink own index y ∈ tb) (hb : b < w.1) (hk : w.2.1 b = .inl ci) (hC : (vwCl[ci]?).map (fun q => q.1) = some y.cls) (hst : stk = (As (cx_ad X) (cx_adK X)).reverse ++ .ref (cx_ad X b) :: rest) (hnp : ∀ a b, (As a b).length = np) (hro : (rest.map fun v => v.category).sum ≤ 8) (hr : rm.cells = 0 ∧ rm.slots = 0 ∧ rm.frames + 1 ≤ R.frames ∧ 8 + (nL2 + 11) + rm.locals ≤ R.locals) (hcs : cx_cells X + 0 ≤ R.cells ∧ cx_slots X + 0 ≤ R.slots) (d : decode cc pc = .ok (.invokevirtual index, 3)) (kk : ∀ (μ1 : Mem), G w X z (pc + 3) lv (rest) μ1 (k μ1)) : G w X z pc lv stk μ (o2.bind (fun q => k q.2)) := by
  intro h H locs ls hl hP hS
  obtain ⟨z2, hz2, h⟩ := Option.bind_eq_some_iff.mp h
  have hM := hM z2 hz2 (cx_D X) (cx_cA X) (cx_ad X) (cx_adK X) (cx_adV X) H.size
  have eA := hX.2.2.2.2.2.2.2.2.2.2.2.2.2.1
  have eR := hX.2.2.2.2.2.2.2.2.2.2.2.1
  have hF : ∀ q, AA w (cx_ad X) H.size q → cx_A X q := by rw [eA]; exact AA_sub hS.1
  have hts := hX.2.2.2.2.1
  subst hst
  obtain ⟨k1, k2, k3, k4, k5⟩ := ok
  have cw : CallW (cx_R X) (cx_s X) (cx_args X) own y.cls index y cc2 nL2 none (.code y cc2 nL2 none :: tb) rm 0 0 np := ⟨callB_of np hts (code_tb k4) rfl hr.1 hr.2.1 (hts _ k3) (hts _ hlk) k5 (by rw [eR]; exact hr.2.2), hts _ k1, hts _ k2⟩
  have hrc : ∃ cell : Cell, H[cx_ad X b]? = some cell ∧ cell.vm.isStatics = false ∧ (cx_s X).vm.findClass y.cls = some cell.cls := by
    obtain ⟨q, hq, e⟩ := Option.map_eq_some_iff.mp hC
    rw [← e]
    exact va_recv hX.2.2.2.2.2.1 hP hq (q0 := b) (by rw [wld_at hb, wcell_obj hk])
  have run := va_runV (p := cx_p X) (l := cx_l X) (e := cx_e X) (R := cx_R X) (s := cx_s X) (m := cx_m X) (args := cx_args X) (below := cx_below X) (meth := cx_meth X) (c := cx_c X) (H := H) (locs := locs) (cells := cx_cells X) (slots := cx_slots X) (b := cx_ad X b) (As := As (cx_ad X) (cx_adK X)) (rest := rest) (g := F0 (cx_m X) pc ls ((As (cx_ad X) (cx_adK X)).reverse ++ .ref (cx_ad X b) :: rest)) ⟨hX.1, hX.2.1, hX.2.2.1, hX.2.2.2.1, hts⟩ hM cw ⟨PW.blind, hrc, fun U hU hW => ⟨rfl, PW.go hX hP hS hU hW⟩⟩ rfl (hnp _ _) (by rw [← hX.2.2.2.2.2.2.2.2.2.2.2.2.1]; exact hl.1) rfl (lv_room hro) d (by rw [eR]; exact hcs)
  refine va_callv run hS (fun q _ h => hF q h) hF (fun u t H1 locs1 ht hvm hw hB hz1 hk1 hS1 => ?_)
  rw [ht] at hB
  exact kk z2.2 h H1 locs1 ls hl hB hS1
theorem G_callSv {α : Type} {w : Wld} {X : Ctx} {z : α × Mem} {cc cc2 : ByteArray} {nL nL2 np : Nat} {own : String} {ret : Option FieldType} {R rm : Room} {pc : Nat} {lv : List (Nat × Value)} {stk : List Value} {μ : Mem} {y : MethodName} {index : Nat} {o2 : Option (Unit × Mem)} {k : Mem → Option (α × Mem)} (hX : Fx w X cc nL own ret R) (As : (Nat → Nat) → (Nat → Nat) → List Value) (rest : List Value) (hM : ∀ z2, o2 = some z2 → Mv w (cx_l X) y cc2 nL2 rm As μ z2) (ok : OkS y cc2 nL2 none np) (hlk : Cond.methodLink own index y ∈ tb) (hst : stk = (As (cx_ad X) (cx_adK X)).reverse ++ rest) (hnp : ∀ a b, (As a b).length = np) (hro : (rest.map fun v => v.category).sum ≤ 8) (hr : rm.cells = 0 ∧ rm.slots = 0 ∧ rm.frames + 1 ≤ R.frames ∧ 8 + (nL2 + 11) + rm.locals ≤ R.locals) (hcs : cx_cells X + 0 ≤ R.cells ∧ cx_slots X + 0 ≤ R.slots) (d : decode cc pc = .ok (.invokestatic index, 3)) (kk : ∀ (μ1 : Mem), G w X z (pc + 3) lv (rest) μ1 (k μ1)) : G w X z pc lv stk μ (o2.bind (fun q => k q.2)) := by
  intro h H locs ls hl hP hS
  obtain ⟨z2, hz2, h⟩ := Option.bind_eq_some_iff.mp h
  have hM := hM z2 hz2 (cx_D X) (cx_cA X) (cx_ad X) (cx_adK X) (cx_adV X) H.size
  have eA := hX.2.2.2.2.2.2.2.2.2.2.2.2.2.1
  have eR := hX.2.2.2.2.2.2.2.2.2.2.2.1
  have hF : ∀ q, AA w (cx_ad X) H.size q → cx_A X q := by rw [eA]; exact AA_sub hS.1
  have hts := hX.2.2.2.2.1
  subst hst
  obtain ⟨k1, k3, k4, k5⟩ := ok
  have cw : CallB (cx_R X) (cx_s X) (cx_args X) own index y cc2 nL2 none (.code y cc2 nL2 none :: tb) rm 0 0 np ∧ (Cond.static y).before (cx_args X) (cx_s X) = true := ⟨callB_of np hts (code_tb k4) rfl hr.1 hr.2.1 (hts _ k3) (hts _ hlk) k5 (by rw [eR]; exact hr.2.2), hts _ k1⟩
  have run := va_runS (p := cx_p X) (l := cx_l X) (e := cx_e X) (R := cx_R X) (s := cx_s X) (m := cx_m X) (args := cx_args X) (below := cx_below X) (meth := cx_meth X) (c := cx_c X) (H := H) (locs := locs) (cells := cx_cells X) (slots := cx_slots X) (As := As (cx_ad X) (cx_adK X)) (rest := rest) (g := F0 (cx_m X) pc ls ((As (cx_ad X) (cx_adK X)).reverse ++ rest)) ⟨hX.1, hX.2.1, hX.2.2.1, hX.2.2.2.1, hts⟩ hM cw ⟨PW.blind, fun U hU hW => ⟨rfl, PW.go hX hP hS hU hW⟩⟩ rfl (hnp _ _) (by rw [← hX.2.2.2.2.2.2.2.2.2.2.2.2.1]; exact hl.1) rfl (lv_room hro) d (by rw [eR]; exact hcs)
  refine va_callv run hS (fun q _ h => hF q h) hF (fun u t H1 locs1 ht hvm hw hB hz1 hk1 hS1 => ?_)
  rw [ht] at hB
  exact kk z2.2 h H1 locs1 ls hl hB hS1
