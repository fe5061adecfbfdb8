/-! Constructors. -/
def nestS : List (String × Nat × MethodName × String) := [("DutyCase$Book", 11, ⟨"DutyCase$Names", "<init>", "()V"⟩, "DutyCase"), ("DutyCase$Book", 40, ⟨"DutyCase$Sums", "<init>", "()V"⟩, "DutyCase"), ("DutyCase$Book", 47, ⟨"DutyCase$Sales", "<init>", "()V"⟩, "DutyCase"), ("DutyCase", 30, ⟨"DutyCase$Acts", "<init>", "()V"⟩, "DutyCase"), ("DutyCase", 62, ⟨"DutyCase$Report", "<init>", "()V"⟩, "DutyCase")]
def NW (U : State) : Prop := ∀ x ∈ nestS, va_Nw (.methodLinkNest x.1 x.2.1 x.2.2.1 x.2.2.2) U
theorem NW.same {u U : State} (hv : U.vm = u.vm) (h : NW u) : NW U := fun x hx => va_tabs rfl hv.symm (h x hx)
theorem NW.go {s U : State} (hW : s.WarmedH U.vm) (h : NW s) : NW U := fun x hx => va_Nw.warmM hW (h x hx)
/-- the start of a constructor: the new object alone -/
def PCt (D : va_G) (cA : Nat → ClassId) (sz h0 : Nat) (w0 : va_E) (U : State) : Prop := U.heap.size = sz ∧ va_P D vwCl [(h0, w0)] U.heap ∧ va_K D vwCl (tysA cA) U ∧ NW U
theorem PCt.blind {D : va_G} {cA : Nat → ClassId} {sz h0 : Nat} {w0 : va_E} {av : List Value} : FrameBlind (va_Pc av (PCt D cA sz h0 w0)) := by
  intro a U g mk q
  obtain ⟨q0, q1, qP, qK, qN⟩ := q
  exact ⟨q0, q1, qP, va_K.moved (u := U) (U := U.calling g mk a) (Vm.Alike.refl U.vm) qK, NW.same (u := U) (U := U.calling g mk a) rfl qN⟩
def Qk (D : va_G) (cA : Nat → ClassId) (sz h0 : Nat) (w0 : va_E) (blk : (Nat → ClassId) → (Nat → Nat) → va_W) : Array Value → State → Outcome → State → Prop := va_Qv (S := Nat → Nat) (fun u => u 0 = h0) (fun u t => va_P D vwCl (blk cA u) t.heap ∧ va_D (va_A [(h0, w0)] sz) (blk cA u)) (va_A [(h0, w0)] sz)
def Mk (l : Launch) (y : MethodName) (cc : ByteArray) (nL : Nat) (rm : Room) (K S : Nat) (as : List Value) (w0 : va_E) (blk : (Nat → ClassId) → (Nat → Nat) → va_W) : Prop :=
  ∀ (D : va_G) (cA : Nat → ClassId) (sz h0 : Nat), Met l y (.code y cc nL none :: tb) rm (va_Pc (.ref h0 :: as) (PCt D cA sz h0 w0)) (Qk D cA sz h0 w0 blk) K S (va_A [(h0, w0)] sz)
/-- the fixed things of a constructor's walk -/
def Fc (X : Ctx) (cc : ByteArray) (nL : Nat) (own : String) (R : Room) : Prop :=
  (cx_p X).tables.exec = Jvm.exec ∧ (cx_c X).code = cc ∧ (cx_c X).maxLocals = nL ∧ (cx_s X).vm.findClass own = some (cx_m X).cls ∧ (∀ w ∈ tb, w.before (cx_args X) (cx_s X) = true) ∧
  va_K (cx_D X) vwCl (tysA (cx_cA X)) (cx_s X) ∧ (∀ q, (cx_s X).heap.size ≤ q → cx_A X q) ∧ (cx_meth X).locks = false ∧ (cx_meth X).sig.returnType = none ∧ cx_R X = R ∧ cx_nL X = nL ∧ NW (cx_s X) ∧ (cx_meth X).name = "<init>"
def GC (X : Ctx) (pc : Nat) (lv : List (Nat × Value)) (st : List Value) (ws : va_W) (k n : Nat) : Prop :=
  ∀ (H : Heap) (locs : List Loc) (ls : Array Slot), lv_has ls (cx_nL X) lv → va_P (cx_D X) vwCl ws H → va_D (cx_A X) ws → va_S (cx_A X) (cx_s X).heap H locs →
    W (cx_p X) (cx_l X) (cx_e X) (cx_R X) (cx_s X) (cx_m X) (cx_args X) (cx_below X) (cx_meth X) (cx_c X) H locs k n (cx_Q X) (F0 (cx_m X) pc ls st)
theorem Mk.of {l : Launch} {y : MethodName} {cc : ByteArray} {nL : Nat} {rm : Room} {K S : Nat} {as : List Value} {w0 : va_E} {blk : (Nat → ClassId) → (Nat → Nat) → va_W} (hy : plainName y.cls = true) (hyn : y.name = "<init>") (hn : ∀ h0, (lg_sl (.ref h0 :: as)).length ≤ nL) (body : ∀ (X : Ctx) (h0 : Nat), Fc X cc nL y.cls rm → cx_l X = l → cx_Q X = MQ (cx_below X) (Qk (cx_D X) (cx_cA X) (cx_s X).heap.size h0 w0 blk) (cx_args X) (cx_s X) K S (va_A [(h0, w0)] (cx_s X).heap.size) → cx_A X = va_A [(h0, w0)] (cx_s X).heap.size → GC X 0 (lv_args 0 (.ref h0 :: as)) [] [(h0, w0)] 0 0) : Mk l y cc nL rm K S as w0 blk := by
  intro D cA sz h0
  refine Met.ofW (cc := cc) (maxL := nL) (ret := none) hy rfl ?_
  intro p e s m args below meth c s₁ B hml hv
  obtain ⟨rfl, hsz, hP, hK, hN⟩ := hv
  subst hsz
  have hts := atoms_spec (ws := .code y cc nL none :: tb) B.pre
  let X : Ctx := (p, l, e, (headSpec (.code y cc nL none :: tb) rm).room, s, m, (Value.ref h0 :: as).toArray, below, meth, c, 0, 0, MQ below (Qk D cA s.heap.size h0 w0 blk) (Value.ref h0 :: as).toArray s K S (va_A [(h0, w0)] s.heap.size), D, cA, fun _ => 0, va_A [(h0, w0)] s.heap.size, nL, fun _ => 0, fun _ => 0)
  have hX : Fc X cc nL y.cls rm := ⟨B.exec, B.bytes, hml, findClass_of_methodNamed B.named, fun q hq => hts q (List.mem_cons_of_mem _ hq), hK, fun q h => Or.inr h, B.notSynchronized, B.returns, rfl, rfl, hN, (name_of_methodNamed B.named B.method).1.trans hyn⟩
  have hl := lv_entry (.ref h0 :: as) (n := nL) (hn h0)
  rw [lg_entry_eq]
  have hD1 : va_D (fun _ => True) [(h0, w0)] := ⟨fun i j p q hi hj _ => by
    have a1 := (List.getElem?_eq_some_iff.mp hi).1
    have a2 := (List.getElem?_eq_some_iff.mp hj).1
    simp only [List.length_cons, List.length_nil] at a1 a2
    omega, fun _ _ _ => trivial⟩
  exact body X h0 hX rfl rfl rfl s.heap [] _ hl hP hD1.self va_S.rf
section
variable {X : Ctx} {cc : ByteArray} {nL : Nat} {own : String} {R : Room} {pc : Nat} {lv : List (Nat × Value)} {st : List Value} {ws T : va_W} {k n : Nat}
theorem GC_iconst (hX : Fc X cc nL own R) {i : Int} (v : Int32) (hv : Int32.ofInt i = v) (d : decode cc pc = .ok (.iconst i, 1)) (kk : GC X (pc + 1) lv (.int v :: st) ws k n) : GC X pc lv (st) ws k n := by
  intro H locs ls hl hP hD hS
  exact lv_iconst hX.1 hX.2.1 d hv (kk H locs ls hl hP hD hS)
theorem GC_bipush (hX : Fc X cc nL own R) {i : Int} (v : Int32) (hv : (Int8.ofInt i).toInt32 = v) (d : decode cc pc = .ok (.bipush i, 2)) (kk : GC X (pc + 2) lv (.int v :: st) ws k n) : GC X pc lv (st) ws k n := by
  intro H locs ls hl hP hD hS
  exact lv_bipush hX.1 hX.2.1 d hv (kk H locs ls hl hP hD hS)
theorem GC_sipush (hX : Fc X cc nL own R) {i : Int} (v : Int32) (hv : (Int16.ofInt i).toInt32 = v) (d : decode cc pc = .ok (.sipush i, 3)) (kk : GC X (pc + 3) lv (.int v :: st) ws k n) : GC X pc lv (st) ws k n := by
  intro H locs ls hl hP hD hS
  exact lv_sipush hX.1 hX.2.1 d hv (kk H locs ls hl hP hD hS)
theorem GC_aload_n (hX : Fc X cc nL own R) {i : Fin 4} {j x : Nat} (q : Nat) (hi : (i : Nat) = j) (hq : lv[q]? = some (j, .ref x)) (d : decode cc pc = .ok (.aload_n i, 1)) (kk : GC X (pc + 1) lv (.ref x :: st) ws k n) : GC X pc lv (st) ws k n := by
  intro H locs ls hl hP hD hS
  exact lv_aload_n hX.1 hX.2.1 d hi (lv_at hl q hq) (kk H locs ls hl hP hD hS)
theorem GC_dup (hX : Fc X cc nL own R) {v : Value} (hv : v.category = 1) (d : decode cc pc = .ok (.dup, 1)) (kk : GC X (pc + 1) lv (v :: v :: st) ws k n) : GC X pc lv (v :: st) ws k n := by
  intro H locs ls hl hP hD hS
  exact lv_dup hX.1 hX.2.1 d hv (kk H locs ls hl hP hD hS)
set_option maxRecDepth 100000 in
theorem oi_in : Cond.instanceMethod Lib.objectInit ∈ tb := tb_1 (List.mem_of_getElem? (i := 31) rfl) rfl
set_option maxRecDepth 100000 in
theorem oi_code : Cond.code Lib.objectInit ⟨#[0xb1]⟩ 1 none ∈ tb := tb_1 (List.mem_of_getElem? (i := 32) rfl) rfl
theorem GC_obj (hX : Fc X cc nL own R) {idx a : Nat} (hlk : Cond.methodLink own idx Lib.objectInit ∈ tb) (hr : 1 ≤ R.frames ∧ (st.map fun v => v.category).sum + 12 ≤ R.locals) (d : decode cc pc = .ok (.invokespecial idx, 3)) (kk : GC X (pc + 3) lv st ws k n) : GC X pc lv (.ref a :: st) ws k n := by
  intro H locs ls hl hP hD hS
  have eR := hX.2.2.2.2.2.2.2.2.2.1
  have eN := hX.2.2.2.2.2.2.2.2.2.2.1
  have hts := hX.2.2.2.2.1
  refine W.objInit hX.1 hX.2.1 hX.2.2.2.1 (hts _ hlk) (hts _ oi_in) (hts _ oi_code) rfl (by rw [hX.2.2.1, ← eN]; exact hl.1) rfl d (by rw [eR]; exact hr.1) ?_ (kk H locs ls hl hP hD hS)
  rw [eR]
  have h0 : (F0 (cx_m X) pc ls (.ref a :: st)).monitorRoom = 0 := rfl
  rw [h0, Nat.mul_zero, Nat.zero_add]
  exact hr.2
/-- the same array class as the world's -/
theorem cls_arr {c0 : ClassId} {ty : FieldType} (hK : va_K (cx_D X) vwCl (tysA (cx_cA X)) (cx_s X)) (t : Nat) (ht : (tysA (cx_cA X))[t]? = some (cx_cA X t, ty)) (hty : ∀ C, ty ≠ .object C) (hK2 : va_K (cx_D X) vwCl (tysA (cx_cA X) ++ [(c0, ty)]) (cx_s X)) : c0 = cx_cA X t := by
  have h1 := (hK.2 t _ ht).2
  have h2 := (hK2.2 4 (c0, ty) (by rw [List.getElem?_append_right (by simp [tysA])]; rfl)).2
  cases ty with
  | object C => exact absurd rfl (hty C)
  | _ => exact Option.some.inj ((show _ = some c0 from h2).symm.trans h1)
set_option maxRecDepth 100000 in
theorem aw_Int : Cond.arrayClass .int ∈ tb := tb_1 (List.mem_of_getElem? (i := 62) rfl) rfl
theorem GC_newInt (hX : Fc X cc nL own R) {i : Int32} (N : Nat) (hi : ¬ i < 0) (hN : i.toNatClampNeg = N) (hb : N * componentBytes .int ≤ 536870912) (hr : k + 1 ≤ R.cells ∧ n + N ≤ R.slots) (d : decode cc pc = .ok (.newarray .int, 2)) (kk : ∀ q : Nat, GC X (pc + 2) lv (.ref q :: st) (ws ++ [(q, .inl (cx_cA X 0, N, .inl (fun _ => 0)))]) (k + 1) (n + N)) : GC X pc lv (.int i :: st) ws k n := by
  intro H locs ls hl hP hD hS
  have eR := hX.2.2.2.2.2.2.2.2.2.1
  have hK := hX.2.2.2.2.2.1
  refine va_newa (atype := .int) (ty := .int) (a0 := (N, .inl (fun _ => 0))) hX.1 hX.2.1 (hX.2.2.2.2.1 _ aw_Int) rfl hK hP hD hS hX.2.2.2.2.2.2.1 (fun _ => rfl) hi hN hb (by rw [eR]; exact hr.1) (by rw [eR]; exact hr.2) d (fun q c0 H1 hK2 hP1 hD1 hS1 => ?_)
  have e := cls_arr hK 0 rfl (fun C h => by cases h) hK2
  rw [e] at hP1 hD1
  exact kk q H1 locs ls hl hP1 hD1 hS1
theorem GC_newIntE (hX : Fc X cc nL own R) {i : Int32} (N : Nat) (ws' : Nat → va_W) (hws : ∀ q : Nat, ws ++ [(q, .inl (cx_cA X 0, N, .inl (fun _ => 0)))] = ws' q) (hi : ¬ i < 0) (hN : i.toNatClampNeg = N) (hb : N * componentBytes .int ≤ 536870912) (hr : k + 1 ≤ R.cells ∧ n + N ≤ R.slots) (d : decode cc pc = .ok (.newarray .int, 2)) (kk : ∀ q : Nat, GC X (pc + 2) lv (.ref q :: st) (ws' q) (k + 1) (n + N)) : GC X pc lv (.int i :: st) ws k n := GC_newInt hX N hi hN hb hr d (fun q => by rw [hws q]; exact kk q)
set_option maxRecDepth 100000 in
theorem aw_Long : Cond.arrayClass .long ∈ tb := tb_1 (List.mem_of_getElem? (i := 87) rfl) rfl
theorem GC_newLong (hX : Fc X cc nL own R) {i : Int32} (N : Nat) (hi : ¬ i < 0) (hN : i.toNatClampNeg = N) (hb : N * componentBytes .long ≤ 536870912) (hr : k + 1 ≤ R.cells ∧ n + N ≤ R.slots) (d : decode cc pc = .ok (.newarray .long, 2)) (kk : ∀ q : Nat, GC X (pc + 2) lv (.ref q :: st) (ws ++ [(q, .inl (cx_cA X 1, N, .inr (.inl (fun _ => 0))))]) (k + 1) (n + N)) : GC X pc lv (.int i :: st) ws k n := by
  intro H locs ls hl hP hD hS
  have eR := hX.2.2.2.2.2.2.2.2.2.1
  have hK := hX.2.2.2.2.2.1
  refine va_newa (atype := .long) (ty := .long) (a0 := (N, .inr (.inl (fun _ => 0)))) hX.1 hX.2.1 (hX.2.2.2.2.1 _ aw_Long) rfl hK hP hD hS hX.2.2.2.2.2.2.1 (fun _ => rfl) hi hN hb (by rw [eR]; exact hr.1) (by rw [eR]; exact hr.2) d (fun q c0 H1 hK2 hP1 hD1 hS1 => ?_)
  have e := cls_arr hK 1 rfl (fun C h => by cases h) hK2
  rw [e] at hP1 hD1
  exact kk q H1 locs ls hl hP1 hD1 hS1
theorem GC_newLongE (hX : Fc X cc nL own R) {i : Int32} (N : Nat) (ws' : Nat → va_W) (hws : ∀ q : Nat, ws ++ [(q, .inl (cx_cA X 1, N, .inr (.inl (fun _ => 0))))] = ws' q) (hi : ¬ i < 0) (hN : i.toNatClampNeg = N) (hb : N * componentBytes .long ≤ 536870912) (hr : k + 1 ≤ R.cells ∧ n + N ≤ R.slots) (d : decode cc pc = .ok (.newarray .long, 2)) (kk : ∀ q : Nat, GC X (pc + 2) lv (.ref q :: st) (ws' q) (k + 1) (n + N)) : GC X pc lv (.int i :: st) ws k n := GC_newLong hX N hi hN hb hr d (fun q => by rw [hws q]; exact kk q)
set_option maxRecDepth 100000 in
theorem aw_Byte : Cond.arrayClass .byte ∈ tb := tb_1 (List.mem_of_getElem? (i := 61) rfl) rfl
theorem GC_newByte (hX : Fc X cc nL own R) {i : Int32} (N : Nat) (hi : ¬ i < 0) (hN : i.toNatClampNeg = N) (hb : N * componentBytes .byte ≤ 536870912) (hr : k + 1 ≤ R.cells ∧ n + N ≤ R.slots) (d : decode cc pc = .ok (.newarray .byte, 2)) (kk : ∀ q : Nat, GC X (pc + 2) lv (.ref q :: st) (ws ++ [(q, .inl (cx_cA X 2, N, .inl (fun _ => 0)))]) (k + 1) (n + N)) : GC X pc lv (.int i :: st) ws k n := by
  intro H locs ls hl hP hD hS
  have eR := hX.2.2.2.2.2.2.2.2.2.1
  have hK := hX.2.2.2.2.2.1
  refine va_newa (atype := .byte) (ty := .byte) (a0 := (N, .inl (fun _ => 0))) hX.1 hX.2.1 (hX.2.2.2.2.1 _ aw_Byte) rfl hK hP hD hS hX.2.2.2.2.2.2.1 (fun _ => rfl) hi hN hb (by rw [eR]; exact hr.1) (by rw [eR]; exact hr.2) d (fun q c0 H1 hK2 hP1 hD1 hS1 => ?_)
  have e := cls_arr hK 2 rfl (fun C h => by cases h) hK2
  rw [e] at hP1 hD1
  exact kk q H1 locs ls hl hP1 hD1 hS1
theorem GC_newByteE (hX : Fc X cc nL own R) {i : Int32} (N : Nat) (ws' : Nat → va_W) (hws : ∀ q : Nat, ws ++ [(q, .inl (cx_cA X 2, N, .inl (fun _ => 0)))] = ws' q) (hi : ¬ i < 0) (hN : i.toNatClampNeg = N) (hb : N * componentBytes .byte ≤ 536870912) (hr : k + 1 ≤ R.cells ∧ n + N ≤ R.slots) (d : decode cc pc = .ok (.newarray .byte, 2)) (kk : ∀ q : Nat, GC X (pc + 2) lv (.ref q :: st) (ws' q) (k + 1) (n + N)) : GC X pc lv (.int i :: st) ws k n := GC_newByte hX N hi hN hb hr d (fun q => by rw [hws q]; exact kk q)
set_option maxRecDepth 100000 in
theorem aw_Bool : Cond.arrayClass .boolean ∈ tb := tb_1 (List.mem_of_getElem? (i := 86) rfl) rfl
theorem GC_newBool (hX : Fc X cc nL own R) {i : Int32} (N : Nat) (hi : ¬ i < 0) (hN : i.toNatClampNeg = N) (hb : N * componentBytes .boolean ≤ 536870912) (hr : k + 1 ≤ R.cells ∧ n + N ≤ R.slots) (d : decode cc pc = .ok (.newarray .boolean, 2)) (kk : ∀ q : Nat, GC X (pc + 2) lv (.ref q :: st) (ws ++ [(q, .inl (cx_cA X 3, N, .inl (fun _ => 0)))]) (k + 1) (n + N)) : GC X pc lv (.int i :: st) ws k n := by
  intro H locs ls hl hP hD hS
  have eR := hX.2.2.2.2.2.2.2.2.2.1
  have hK := hX.2.2.2.2.2.1
  refine va_newa (atype := .boolean) (ty := .boolean) (a0 := (N, .inl (fun _ => 0))) hX.1 hX.2.1 (hX.2.2.2.2.1 _ aw_Bool) rfl hK hP hD hS hX.2.2.2.2.2.2.1 (fun _ => rfl) hi hN hb (by rw [eR]; exact hr.1) (by rw [eR]; exact hr.2) d (fun q c0 H1 hK2 hP1 hD1 hS1 => ?_)
  have e := cls_arr hK 3 rfl (fun C h => by cases h) hK2
  rw [e] at hP1 hD1
  exact kk q H1 locs ls hl hP1 hD1 hS1
theorem GC_newBoolE (hX : Fc X cc nL own R) {i : Int32} (N : Nat) (ws' : Nat → va_W) (hws : ∀ q : Nat, ws ++ [(q, .inl (cx_cA X 3, N, .inl (fun _ => 0)))] = ws' q) (hi : ¬ i < 0) (hN : i.toNatClampNeg = N) (hb : N * componentBytes .boolean ≤ 536870912) (hr : k + 1 ≤ R.cells ∧ n + N ≤ R.slots) (d : decode cc pc = .ok (.newarray .boolean, 2)) (kk : ∀ q : Nat, GC X (pc + 2) lv (.ref q :: st) (ws' q) (k + 1) (n + N)) : GC X pc lv (.int i :: st) ws k n := GC_newBool hX N hi hN hb hr d (fun q => by rw [hws q]; exact kk q)
theorem GC_new (hX : Fc X cc nL own R) {C : String} {T0 : u_T} {N idx : Nat} (ci : Nat) (fs : List Value) (hcl : vwCl[ci]? = some (C, T0, N)) (hin : ∀ w ∈ u_ws C T0 N, w ∈ tb) (ty : Nat → FieldType) (hty : ∀ k, k < N → parseFieldDescriptor (T0 k).2.2.1 = some (ty k)) (hlk : Cond.classLink own idx C ∈ tb) (hins : Cond.instantiable C N ∈ tb) (hini : Cond.initialized C ∈ tb) (hfs : ∀ j, j < N → defaultValue (ty j) = vp_V fs j) (hr : k + 1 ≤ R.cells ∧ n + N ≤ R.slots) (d : decode cc pc = .ok (.new idx, 3)) (kk : ∀ q : Nat, GC X (pc + 3) lv (.ref q :: st) (ws ++ [(q, .inr (ci, fs))]) (k + 1) (n + N)) : GC X pc lv st ws k n := by
  intro H locs ls hl hP hD hS
  have eR := hX.2.2.2.2.2.2.2.2.2.1
  have hts := hX.2.2.2.2.1
  exact va_new hX.1 hX.2.1 hts hin ty hty hX.2.2.2.1 (hts _ hlk) (hts _ hins) (hts _ hini) hX.2.2.2.2.2.1 hP hD hS hX.2.2.2.2.2.2.1 hcl hfs (by rw [eR]; exact hr.1) (by rw [eR]; exact hr.2) d (fun q H1 hP1 hD1 hS1 => kk q H1 locs ls hl hP1 hD1 hS1)
theorem GC_putF (hX : Fc X cc nL own R) {C ref nm0 dd : String} {T0 : u_T} {N idx a j : Nat} {fs : List Value} {v : Value} (ci : Nat) (ft : FieldType) (hcl : vwCl[ci]? = some (C, T0, N)) (hin : ∀ w ∈ u_ws C T0 N, w ∈ tb) (ty : Nat → FieldType) (hty : ∀ k, k < N → parseFieldDescriptor (T0 k).2.2.1 = some (ty k)) (hnm : ∀ a, a < N → ∀ b, b < N → a ≠ b → (T0 a).2.1 ≠ (T0 b).2.1) (hT : (T0 j).1 = ref ∧ (T0 j).2.1 = nm0 ∧ (T0 j).2.2.1 = dd ∧ (T0 j).2.2.2 = true ∧ ty j = ft) (hjN : j < N) (hlk : Cond.fieldLink own idx ref nm0 dd ∈ tb) (hdecl : (T0 j).1 = own) (hnv : narrow ft v = v) (hfv : fits ft v = true) (hlen : j < fs.length) (fs' : List Value) (hfs : fs.set j v = fs') (d : decode cc pc = .ok (.putfield idx, 3)) (kk : GC X (pc + 3) lv st ((a, .inr (ci, fs')) :: T) k n) : GC X pc lv (v :: .ref a :: st) ((a, .inr (ci, fs)) :: T) k n := by
  intro H locs ls hl hP hD hS
  obtain ⟨h1, h2, h3, h4, h5⟩ := hT
  subst h1; subst h2; subst h3; subst hfs
  have hts := hX.2.2.2.2.1
  exact va_putF (q0 := 0) (ci := ci) (ty := ft) hX.1 hX.2.1 hts hin ty hty hnm hX.2.2.2.1 hX.2.2.2.2.2.1 hP hD hS rfl hcl j hjN (hts _ hlk) (fun _ h9 => h9) h4 hX.2.2.2.2.2.2.2.2.2.2.2.2 hdecl (by rw [hty j hjN, h5]) hnv hfv hlen d (fun H1 locs1 hP1 hD1 hS1 => kk H1 locs1 ls hl hP1 hD1 hS1)
theorem GC_put (hX : Fc X cc nL own R) {C ref nm0 dd : String} {T0 : u_T} {N idx a j : Nat} {fs : List Value} {v : Value} (ci : Nat) (ft : FieldType) (hcl : vwCl[ci]? = some (C, T0, N)) (hin : ∀ w ∈ u_ws C T0 N, w ∈ tb) (ty : Nat → FieldType) (hty : ∀ k, k < N → parseFieldDescriptor (T0 k).2.2.1 = some (ty k)) (hnm : ∀ a, a < N → ∀ b, b < N → a ≠ b → (T0 a).2.1 ≠ (T0 b).2.1) (hT : (T0 j).1 = ref ∧ (T0 j).2.1 = nm0 ∧ (T0 j).2.2.1 = dd ∧ (T0 j).2.2.2 = false ∧ ty j = ft) (hjN : j < N) (hlk : Cond.fieldLink own idx ref nm0 dd ∈ tb) (hnv : narrow ft v = v) (hfv : fits ft v = true) (hlen : j < fs.length) (fs' : List Value) (hfs : fs.set j v = fs') (d : decode cc pc = .ok (.putfield idx, 3)) (kk : GC X (pc + 3) lv st ((a, .inr (ci, fs')) :: T) k n) : GC X pc lv (v :: .ref a :: st) ((a, .inr (ci, fs)) :: T) k n := by
  intro H locs ls hl hP hD hS
  obtain ⟨h1, h2, h3, h4, h5⟩ := hT
  subst h1; subst h2; subst h3; subst hfs
  have hts := hX.2.2.2.2.1
  exact va_put (q0 := 0) (ci := ci) (ty := ft) hX.1 hX.2.1 hts hin ty hty hnm hX.2.2.2.1 hX.2.2.2.2.2.1 hP hD hS rfl hcl j hjN (hts _ hlk) (fun _ h9 => h9) h4 (by rw [hty j hjN, h5]) hnv hfv hlen d (fun H1 locs1 hP1 hD1 hS1 => kk H1 locs1 ls hl hP1 hD1 hS1)
theorem GC_get (hX : Fc X cc nL own R) {C ref nm0 dd : String} {T0 : u_T} {N idx a j : Nat} {fs : List Value} {v : Value} (ci : Nat) (hcl : vwCl[ci]? = some (C, T0, N)) (hin : ∀ w ∈ u_ws C T0 N, w ∈ tb) (hT : (T0 j).1 = ref ∧ (T0 j).2.1 = nm0 ∧ (T0 j).2.2.1 = dd) (hjN : j < N) (hlk : Cond.fieldLink own idx ref nm0 dd ∈ tb) (hv : fs[j]? = some v) (d : decode cc pc = .ok (.getfield idx, 3)) (kk : GC X (pc + 3) lv (v :: st) ((a, .inr (ci, fs)) :: T) k n) : GC X pc lv (.ref a :: st) ((a, .inr (ci, fs)) :: T) k n := by
  intro H locs ls hl hP hD hS
  obtain ⟨h1, h2, h3⟩ := hT
  subst h1; subst h2; subst h3
  have hts := hX.2.2.2.2.1
  exact va_get (q0 := 0) (ci := ci) hX.1 hX.2.1 hts hin hX.2.2.2.1 hX.2.2.2.2.2.1 hP rfl hcl j hjN (hts _ hlk) (fun _ h9 => h9) hv d (kk H locs ls hl hP hD hS)
theorem GC_iast (hX : Fc X cc nL own R) {a N : Nat} {f : Nat → Int32} {i v : Int32} (q0 : Nat) (ws' : va_W) (ha : ws[q0]? = some (a, .inl (cx_cA X 0, N, .inl f))) (hi : vp_in i N) (hws : ws.set q0 (a, .inl (cx_cA X 0, N, .inl (upd f i.toNatClampNeg v))) = ws') (d : decode cc pc = .ok (.iastore, 1)) (kk : GC X (pc + 1) lv st ws' k n) : GC X pc lv (.int v :: .int i :: .ref a :: st) ws k n := by
  intro H locs ls hl hP hD hS
  refine va_iast hX.1 hX.2.1 hX.2.2.2.2.2.1 hP hD hS q0 0 ha rfl hi d (fun H1 locs1 hP1 hD1 hS1 => ?_)
  rw [hws] at hP1 hD1
  exact kk H1 locs1 ls hl hP1 hD1 hS1
theorem GC_eq {ws' : va_W} (h : ws = ws') (kk : GC X pc lv st ws' k n) : GC X pc lv st ws k n := h ▸ kk
theorem GC_ret (hX : Fc X cc nL own R) {h0 K S : Nat} {w0 : va_E} {blk : (Nat → ClassId) → (Nat → Nat) → va_W} (hQ : cx_Q X = MQ (cx_below X) (Qk (cx_D X) (cx_cA X) (cx_s X).heap.size h0 w0 blk) (cx_args X) (cx_s X) K S (va_A [(h0, w0)] (cx_s X).heap.size)) (hA : cx_A X = va_A [(h0, w0)] (cx_s X).heap.size) (hk : k ≤ K ∧ n ≤ S) (u : Nat → Nat) (hu : u 0 = h0) (hb : ws = blk (cx_cA X) u) (d : decode cc pc = .ok (.return_, 1)) : GC X pc lv [] ws k n := by
  intro H locs ls hl hP hD hS
  subst hb
  rw [hA] at hD hS
  have hlocks := hX.2.2.2.2.2.2.2.1
  rw [hQ]
  refine W.widen hk.1 hk.2 ?_
  exact W.vret hX.1 hX.2.1 hX.2.2.2.2.2.2.2.2.1 (fun t ht hW => ⟨⟨u, rfl, hu, by show va_P _ _ _ t.heap; rw [ht]; exact hP, hD⟩, hS.F ht⟩) hS.2.2 d hlocks
/-- a constructor is called on the newest cell -/
theorem GC_ctor (hX : Fc X cc nL own R) {y : MethodName} {cc2 : ByteArray} {nL2 np idx q K2 S2 : Nat} {rm : Room} {as : List Value} {w0 : va_E} {blk : (Nat → ClassId) → (Nat → Nat) → va_W} {stk : List Value} (rest : List Value) (hM : Mk (cx_l X) y cc2 nL2 rm K2 S2 as w0 blk) (hyn : y.name = "<init>") (hin : Cond.instanceMethod y ∈ tb) (hini : Cond.initialized y.cls ∈ tb) (hcode : Cond.code y cc2 nL2 none ∈ tb) (hyc : y.cls ≠ "java/lang/invoke/MethodHandle" ∧ y.cls ≠ "java/lang/invoke/VarHandle" ∧ (parseMethodDescriptor y.desc).map (fun d => d.parameters.length) = some np) (hlk : Cond.methodLink own idx y ∈ tb ∨ ∃ host, (own, idx, y, host) ∈ nestS) (hst : stk = as.reverse ++ .ref q :: rest) (hnp : as.length = np) (hro : (rest.map fun v => v.category).sum ≤ 8) (hr : rm.cells = K2 ∧ rm.slots = S2 ∧ rm.frames + 1 ≤ R.frames ∧ 8 + (nL2 + 11) + rm.locals ≤ R.locals) (hcs : k + K2 ≤ R.cells ∧ n + S2 ≤ R.slots) (d : decode cc pc = .ok (.invokespecial idx, 3)) (kk : ∀ u : Nat → Nat, u 0 = q → GC X (pc + 3) lv rest (ws ++ blk (cx_cA X) u) (k + K2) (n + S2)) : GC X pc lv stk (ws ++ [(q, w0)]) k n := by
  intro H locs ls hl hP hD hS
  have hM := hM (cx_D X) (cx_cA X) H.size q
  have eR := hX.2.2.2.2.2.2.2.2.2.1
  have eN := hX.2.2.2.2.2.2.2.2.2.2.1
  have hts := hX.2.2.2.2.1
  subst hst
  have hlast : (ws ++ [(q, w0)])[ws.length]? = some (q, w0) := by rw [List.getElem?_append_right (Nat.le_refl _), Nat.sub_self]; rfl
  have hC : ([ws.length] : List Nat).map (fun i => (ws ++ [(q, w0)])[i]?) = ([(q, w0)] : va_W).map some := by simp only [List.map_cons, List.map_nil, hlast]
  have hR : (List.range ws.length).map (fun i => (ws ++ [(q, w0)])[i]?) = ws.map some := by
    apply List.ext_getElem?
    intro i
    by_cases hi : i < ws.length
    · simp [hi, List.getElem?_append_left hi]
    · simp [hi]
  have hn9 : va_nd (List.range ws.length) = true := by
    have g : ∀ (L : List Nat), L.Nodup → va_nd L = true := by
      intro L
      induction L with
      | nil => intro _; rfl
      | cons a L ih =>
        intro h
        rw [List.nodup_cons] at h
        simp [va_nd, h.1, ih h.2]
    exact g _ List.nodup_range
  have hPc : va_P (cx_D X) vwCl [(q, w0)] H := hP.sub [ws.length] (by simp only [List.filterMap_cons, hlast, List.filterMap_nil])
  have hFc := va_free (wc := [(q, w0)]) hD hS hX.2.2.2.2.2.2.1 [ws.length] hC
  have pre : PreS (cx_s X) H (va_Pc (.ref q :: as) (PCt (cx_D X) (cx_cA X) H.size q w0)) (.ref q :: as) := ⟨PCt.blind, fun U hU hW => ⟨rfl, by rw [hU], by rw [hU]; exact hPc, va_K.moved hW.alike hX.2.2.2.2.2.1, NW.go hW hX.2.2.2.2.2.2.2.2.2.2.2.1⟩⟩
  have run : va_Run (cx_p X) (cx_l X) (cx_e X) (cx_R X) (cx_s X) (cx_m X) (cx_args X) (cx_below X) (cx_meth X) (cx_c X) H locs k n K2 S2 (F0 (cx_m X) pc ls (as.reverse ++ .ref q :: rest)) rest (Qk (cx_D X) (cx_cA X) H.size q w0 blk (Value.ref q :: as).toArray) (va_A [(q, w0)] H.size) := by
    rcases hlk with hlk | ⟨host, hlk⟩
    · exact va_runI (As := as) (rest := rest) ⟨hX.1, hX.2.1, hX.2.2.1, hX.2.2.2.1, hts⟩ hM (cwI np hts (code_tb hcode) rfl hr.1 hr.2.1 (hts _ hini) (hts _ hlk) (hts _ hin) hyn hyc (by rw [eR]; exact hr.2.2)) pre rfl hnp (by rw [← eN]; exact hl.1) rfl (lv_room hro) d (by rw [eR]; exact hcs)
    · exact va_runIN (As := as) (rest := rest) ⟨hX.1, hX.2.1, hX.2.2.1, hX.2.2.2.1, hts⟩ hM ⟨va_cnB np hts (code_tb hcode) rfl hr.1 hr.2.1 (hX.2.2.2.2.2.2.2.2.2.2.2.1 _ hlk) (hts _ hini) hyc (by rw [eR]; exact hr.2.2), hyn, hts _ hin⟩ pre rfl hnp (by rw [← eN]; exact hl.1) rfl (lv_room hro) d (by rw [eR]; exact hcs)
  refine va_callv run hS (fun q _ h => hFc q h) hFc (fun u t H1 locs1 ht hvm hw hB hz1 hk1 hS1 => ?_)
  obtain ⟨hP1, hD1⟩ := hB
  rw [ht] at hP1
  obtain ⟨hPj, hDj⟩ := va_join (wc := [(q, w0)]) (wr := ws) (w1 := blk (cx_cA X) u) hP hD [ws.length] (List.range ws.length) hC hR hn9 (by intro i hi h; rw [List.mem_singleton] at h; rw [List.mem_range] at hi; omega) hk1 hFc hP1 hD1
  exact kk u hw H1 locs1 ls hl hPj hDj hS1
end
