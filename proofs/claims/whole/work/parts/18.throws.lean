/-! Methods that throw: an answer, or the number of an exception's class. -/
def cxs (X : Ctx) (k n : Nat) : Ctx := (cx_p X, cx_l X, cx_e X, cx_R X, cx_s X, cx_m X, cx_args X, cx_below X, cx_meth X, cx_c X, k, n, cx_Q X, cx_D X, cx_cA X, cx_ad X, cx_A X, cx_nL X, cx_adK X, cx_adV X)
def rmx (f lo c s : Nat) : Room := { frames := f, cells := c, slots := s, locals := lo }
def Xe {τ : Type} (w : Wld) (D : va_G) (cA : Nat → ClassId) (ad : Nat → Nat) (sz : Nat) (z : (τ ⊕ Nat) × Mem) : String → State → State → Prop := vx_X (S := Unit) (fun _ => True) (fun E _ t => (∃ e, e < 4 ∧ z.1 = .inr e ∧ E = exN e) ∧ va_P D vwCl (wld w cA ad z.2) t.heap) (AA w ad sz)
def Qy {τ : Type} (QP : Ctx → Array Value → State → Outcome → State → Prop) (w : Wld) (X : Ctx) (z : (τ ⊕ Nat) × Mem) (K S : Nat) : Prop := cx_Q X = vx_MQ (cx_below X) (QP X) (Xe w (cx_D X) (cx_cA X) (cx_ad X) (cx_s X).heap.size z) (cx_args X) (cx_s X) K S (AA w (cx_ad X) (cx_s X).heap.size) ∧ (cx_l X).stackTraces = false ∧ (∀ x ∈ (cx_c X).exceptionTable.toList, False)
theorem csk {X : Ctx} {k n : Nat} (h : cx_cells X = k ∧ cx_slots X = n) {R : Room} (h1 : k ≤ R.cells) (h2 : n ≤ R.slots) : cx_cells X + 0 ≤ R.cells ∧ cx_slots X + 0 ≤ R.slots := by rw [h.1, h.2]; exact ⟨h1, h2⟩
def Qe_i (w : Wld) (z : (Int32 ⊕ Nat) × Mem) (X : Ctx) : Array Value → State → Outcome → State → Prop := va_Qi (S := Unit) (fun r _ => z.1 = .inl r) (fun _ t => va_P (cx_D X) vwCl (wld w (cx_cA X) (cx_ad X) z.2) t.heap) (AA w (cx_ad X) (cx_s X).heap.size)
def Ei (w : Wld) (l : Launch) (y : MethodName) (cc : ByteArray) (nL : Nat) (ret : FieldType) (rm : Room) (K S : Nat) (av : (Nat → Nat) → (Nat → Nat) → List Value) (μ : Mem) (z : (Int32 ⊕ Nat) × Mem) : Prop :=
  ∀ (D : va_G) (cA : Nat → ClassId) (ad adK adV : Nat → Nat) (sz : Nat), vx_Met l y (.code y cc nL (some ret) :: tb) rm (va_Pc (av ad adK) (PW w D cA ad adK adV sz μ)) (va_Qi (S := Unit) (fun r _ => z.1 = .inl r) (fun _ t => va_P D vwCl (wld w cA ad z.2) t.heap) (AA w ad sz)) (Xe w D cA ad sz z) K S (AA w ad sz)
theorem Ei.of {w : Wld} {l : Launch} (hl0 : l.stackTraces = false) {y : MethodName} {cc : ByteArray} {nL : Nat} {ret : FieldType} {rm : Room} {K S : Nat} {av : (Nat → Nat) → (Nat → Nat) → List Value} {μ : Mem} {z : (Int32 ⊕ Nat) × Mem} {o : Option ((Int32 ⊕ Nat) × Mem)} (hf : o = some z) (hy : plainName y.cls = true) (hn : ∀ ad adK, (lg_sl (av ad adK)).length ≤ nL) (body : ∀ X : Ctx, Fx w X cc nL y.cls (some ret) rm → Qy (Qe_i w z) w X z K S → cx_cells X = 0 ∧ cx_slots X = 0 → G w X z 0 (lv_args 0 (av (cx_ad X) (cx_adK X))) [] μ o) : Ei w l y cc nL ret rm K S av μ z := by
  intro D cA ad adK adV sz
  refine vx_ofW (cc := cc) (maxL := nL) (ret := (some ret)) hy rfl ?_
  intro p e s m args below meth c s₁ B hml ht hv
  obtain ⟨rfl, hsz, hP, hK, hi, hst⟩ := hv
  subst hsz
  have hts := atoms_spec (ws := .code y cc nL (some ret) :: tb) B.pre
  let X : Ctx := (p, l, e, (headSpec (.code y cc nL (some ret) :: tb) rm).room, s, m, (av ad adK).toArray, below, meth, c, 0, 0, vx_MQ below (va_Qi (S := Unit) (fun r _ => z.1 = .inl r) (fun _ t => va_P D vwCl (wld w cA ad z.2) t.heap) (AA w ad s.heap.size)) (Xe w D cA ad s.heap.size z) (av ad adK).toArray s K S (AA w ad s.heap.size), D, cA, ad, AA w ad s.heap.size, nL, adK, adV)
  have hX : Fx w X cc nL y.cls (some ret) rm := ⟨B.exec, B.bytes, hml, findClass_of_methodNamed B.named, fun q hq => hts q (List.mem_cons_of_mem _ hq), hK, fun q h => Or.inr h, hi, fun k hk => Or.inl ⟨k, hk, rfl⟩, B.notSynchronized, B.returns, rfl, rfl, rfl, hst⟩
  have hl := lv_entry (av ad adK) (n := nL) (hn ad adK)
  rw [lg_entry_eq]
  exact body X hX ⟨rfl, hl0, ht⟩ ⟨rfl, rfl⟩ hf s.heap [] _ hl hP va_S.rf
def Qe_l (w : Wld) (z : (Int64 ⊕ Nat) × Mem) (X : Ctx) : Array Value → State → Outcome → State → Prop := va_Ql (S := Unit) (fun r _ => z.1 = .inl r) (fun _ t => va_P (cx_D X) vwCl (wld w (cx_cA X) (cx_ad X) z.2) t.heap) (AA w (cx_ad X) (cx_s X).heap.size)
def El (w : Wld) (l : Launch) (y : MethodName) (cc : ByteArray) (nL : Nat) (ret : FieldType) (rm : Room) (K S : Nat) (av : (Nat → Nat) → (Nat → Nat) → List Value) (μ : Mem) (z : (Int64 ⊕ Nat) × Mem) : Prop :=
  ∀ (D : va_G) (cA : Nat → ClassId) (ad adK adV : Nat → Nat) (sz : Nat), vx_Met l y (.code y cc nL (some ret) :: tb) rm (va_Pc (av ad adK) (PW w D cA ad adK adV sz μ)) (va_Ql (S := Unit) (fun r _ => z.1 = .inl r) (fun _ t => va_P D vwCl (wld w cA ad z.2) t.heap) (AA w ad sz)) (Xe w D cA ad sz z) K S (AA w ad sz)
theorem El.of {w : Wld} {l : Launch} (hl0 : l.stackTraces = false) {y : MethodName} {cc : ByteArray} {nL : Nat} {ret : FieldType} {rm : Room} {K S : Nat} {av : (Nat → Nat) → (Nat → Nat) → List Value} {μ : Mem} {z : (Int64 ⊕ Nat) × Mem} {o : Option ((Int64 ⊕ Nat) × Mem)} (hf : o = some z) (hy : plainName y.cls = true) (hn : ∀ ad adK, (lg_sl (av ad adK)).length ≤ nL) (body : ∀ X : Ctx, Fx w X cc nL y.cls (some ret) rm → Qy (Qe_l w z) w X z K S → cx_cells X = 0 ∧ cx_slots X = 0 → G w X z 0 (lv_args 0 (av (cx_ad X) (cx_adK X))) [] μ o) : El w l y cc nL ret rm K S av μ z := by
  intro D cA ad adK adV sz
  refine vx_ofW (cc := cc) (maxL := nL) (ret := (some ret)) hy rfl ?_
  intro p e s m args below meth c s₁ B hml ht hv
  obtain ⟨rfl, hsz, hP, hK, hi, hst⟩ := hv
  subst hsz
  have hts := atoms_spec (ws := .code y cc nL (some ret) :: tb) B.pre
  let X : Ctx := (p, l, e, (headSpec (.code y cc nL (some ret) :: tb) rm).room, s, m, (av ad adK).toArray, below, meth, c, 0, 0, vx_MQ below (va_Ql (S := Unit) (fun r _ => z.1 = .inl r) (fun _ t => va_P D vwCl (wld w cA ad z.2) t.heap) (AA w ad s.heap.size)) (Xe w D cA ad s.heap.size z) (av ad adK).toArray s K S (AA w ad s.heap.size), D, cA, ad, AA w ad s.heap.size, nL, adK, adV)
  have hX : Fx w X cc nL y.cls (some ret) rm := ⟨B.exec, B.bytes, hml, findClass_of_methodNamed B.named, fun q hq => hts q (List.mem_cons_of_mem _ hq), hK, fun q h => Or.inr h, hi, fun k hk => Or.inl ⟨k, hk, rfl⟩, B.notSynchronized, B.returns, rfl, rfl, rfl, hst⟩
  have hl := lv_entry (av ad adK) (n := nL) (hn ad adK)
  rw [lg_entry_eq]
  exact body X hX ⟨rfl, hl0, ht⟩ ⟨rfl, rfl⟩ hf s.heap [] _ hl hP va_S.rf
def Qe_v (w : Wld) (z : (Unit ⊕ Nat) × Mem) (X : Ctx) : Array Value → State → Outcome → State → Prop := va_Qv (S := Unit) (fun _ => z.1 = .inl ()) (fun _ t => va_P (cx_D X) vwCl (wld w (cx_cA X) (cx_ad X) z.2) t.heap) (AA w (cx_ad X) (cx_s X).heap.size)
def Ev (w : Wld) (l : Launch) (y : MethodName) (cc : ByteArray) (nL : Nat) (rm : Room) (K S : Nat) (av : (Nat → Nat) → (Nat → Nat) → List Value) (μ : Mem) (z : (Unit ⊕ Nat) × Mem) : Prop :=
  ∀ (D : va_G) (cA : Nat → ClassId) (ad adK adV : Nat → Nat) (sz : Nat), vx_Met l y (.code y cc nL none :: tb) rm (va_Pc (av ad adK) (PW w D cA ad adK adV sz μ)) (va_Qv (S := Unit) (fun _ => z.1 = .inl ()) (fun _ t => va_P D vwCl (wld w cA ad z.2) t.heap) (AA w ad sz)) (Xe w D cA ad sz z) K S (AA w ad sz)
theorem Ev.of {w : Wld} {l : Launch} (hl0 : l.stackTraces = false) {y : MethodName} {cc : ByteArray} {nL : Nat} {rm : Room} {K S : Nat} {av : (Nat → Nat) → (Nat → Nat) → List Value} {μ : Mem} {z : (Unit ⊕ Nat) × Mem} {o : Option ((Unit ⊕ Nat) × Mem)} (hf : o = some z) (hy : plainName y.cls = true) (hn : ∀ ad adK, (lg_sl (av ad adK)).length ≤ nL) (body : ∀ X : Ctx, Fx w X cc nL y.cls none rm → Qy (Qe_v w z) w X z K S → cx_cells X = 0 ∧ cx_slots X = 0 → G w X z 0 (lv_args 0 (av (cx_ad X) (cx_adK X))) [] μ o) : Ev w l y cc nL rm K S av μ z := by
  intro D cA ad adK adV sz
  refine vx_ofW (cc := cc) (maxL := nL) (ret := none) hy rfl ?_
  intro p e s m args below meth c s₁ B hml ht hv
  obtain ⟨rfl, hsz, hP, hK, hi, hst⟩ := hv
  subst hsz
  have hts := atoms_spec (ws := .code y cc nL none :: tb) B.pre
  let X : Ctx := (p, l, e, (headSpec (.code y cc nL none :: tb) rm).room, s, m, (av ad adK).toArray, below, meth, c, 0, 0, vx_MQ below (va_Qv (S := Unit) (fun _ => z.1 = .inl ()) (fun _ t => va_P D vwCl (wld w cA ad z.2) t.heap) (AA w ad s.heap.size)) (Xe w D cA ad s.heap.size z) (av ad adK).toArray s K S (AA w ad s.heap.size), D, cA, ad, AA w ad s.heap.size, nL, adK, adV)
  have hX : Fx w X cc nL y.cls none rm := ⟨B.exec, B.bytes, hml, findClass_of_methodNamed B.named, fun q hq => hts q (List.mem_cons_of_mem _ hq), hK, fun q h => Or.inr h, hi, fun k hk => Or.inl ⟨k, hk, rfl⟩, B.notSynchronized, B.returns, rfl, rfl, rfl, hst⟩
  have hl := lv_entry (av ad adK) (n := nL) (hn ad adK)
  rw [lg_entry_eq]
  exact body X hX ⟨rfl, hl0, ht⟩ ⟨rfl, rfl⟩ hf s.heap [] _ hl hP va_S.rf
theorem zr_nar {v : Int32} (hc : vp_nar .boolean v = v) : narrow .boolean (.int v) = .int v := by
  have h1 : narrow .boolean (.int v) = .int (vp_nar .boolean v) := rfl
  rw [h1, hc]
theorem G_iretX {w : Wld} {X : Ctx} {cc : ByteArray} {nL : Nat} {own : String} {R : Room} {pc : Nat} {lv : List (Nat × Value)} {μ : Mem} {K S k0 n0 : Nat} {z : (Int32 ⊕ Nat) × Mem} {v : Int32} (hX : Fx w X cc nL own (some .int) R) (hQ : Qy (Qe_i w z) w X z K S) (hcs : cx_cells X = k0 ∧ cx_slots X = n0) (hk : k0 ≤ K ∧ n0 ≤ S) (d : decode cc pc = .ok (.ireturn, 1)) : G w X z pc lv [.int v] μ (some (.inl v, μ)) := by
  intro h H locs ls hl hP hS
  cases h
  have eA := hX.2.2.2.2.2.2.2.2.2.2.2.2.2.1
  rw [eA] at hS
  have hlocks := hX.2.2.2.2.2.2.2.2.2.1
  rw [show cx_Q X = _ from hQ.1, hcs.1, hcs.2]
  refine W.widen hk.1 hk.2 (vx_ret ?_)
  exact W.iret (v := v) hX.1 hX.2.1 hX.2.2.2.2.2.2.2.2.2.2.1 (fun t ht hW => ⟨⟨v, (), rfl, rfl, by show va_P _ _ _ t.heap; rw [ht]; exact hP⟩, hS.F ht⟩) hS.2.2 d hlocks
theorem G_zretX {w : Wld} {X : Ctx} {cc : ByteArray} {nL : Nat} {own : String} {R : Room} {pc : Nat} {lv : List (Nat × Value)} {μ : Mem} {K S k0 n0 : Nat} {z : (Int32 ⊕ Nat) × Mem} {v : Int32} (hX : Fx w X cc nL own (some .boolean) R) (hQ : Qy (Qe_i w z) w X z K S) (hcs : cx_cells X = k0 ∧ cx_slots X = n0) (hk : k0 ≤ K ∧ n0 ≤ S) (d : decode cc pc = .ok (.ireturn, 1)) : G w X z pc lv [.int v] μ (zr v (some (.inl v, μ))) := G_guard (fun hc => by
  intro h H locs ls hl hP hS
  cases h
  have eA := hX.2.2.2.2.2.2.2.2.2.2.2.2.2.1
  rw [eA] at hS
  have hlocks := hX.2.2.2.2.2.2.2.2.2.1
  rw [show cx_Q X = _ from hQ.1, hcs.1, hcs.2]
  refine W.widen hk.1 hk.2 (vx_ret ?_)
  exact W.zret (v := v) hX.1 hX.2.1 hX.2.2.2.2.2.2.2.2.2.2.1 (zr_nar hc) (fun t ht hW => ⟨⟨v, (), rfl, rfl, by show va_P _ _ _ t.heap; rw [ht]; exact hP⟩, hS.F ht⟩) hS.2.2 d hlocks)
theorem G_lretX {w : Wld} {X : Ctx} {cc : ByteArray} {nL : Nat} {own : String} {R : Room} {pc : Nat} {lv : List (Nat × Value)} {μ : Mem} {K S k0 n0 : Nat} {z : (Int64 ⊕ Nat) × Mem} {v : Int64} (hX : Fx w X cc nL own (some .long) R) (hQ : Qy (Qe_l w z) w X z K S) (hcs : cx_cells X = k0 ∧ cx_slots X = n0) (hk : k0 ≤ K ∧ n0 ≤ S) (d : decode cc pc = .ok (.lreturn, 1)) : G w X z pc lv [.long v] μ (some (.inl v, μ)) := by
  intro h H locs ls hl hP hS
  cases h
  have eA := hX.2.2.2.2.2.2.2.2.2.2.2.2.2.1
  rw [eA] at hS
  have hlocks := hX.2.2.2.2.2.2.2.2.2.1
  rw [show cx_Q X = _ from hQ.1, hcs.1, hcs.2]
  refine W.widen hk.1 hk.2 (vx_ret ?_)
  exact W.lret (v := v) hX.1 hX.2.1 hX.2.2.2.2.2.2.2.2.2.2.1 (fun t ht hW => ⟨⟨v, (), rfl, rfl, by show va_P _ _ _ t.heap; rw [ht]; exact hP⟩, hS.F ht⟩) hS.2.2 d hlocks
theorem G_vretX {w : Wld} {X : Ctx} {cc : ByteArray} {nL : Nat} {own : String} {R : Room} {pc : Nat} {lv : List (Nat × Value)} {μ : Mem} {K S k0 n0 : Nat} {z : (Unit ⊕ Nat) × Mem} (hX : Fx w X cc nL own none R) (hQ : Qy (Qe_v w z) w X z K S) (hcs : cx_cells X = k0 ∧ cx_slots X = n0) (hk : k0 ≤ K ∧ n0 ≤ S) (d : decode cc pc = .ok (.return_, 1)) : G w X z pc lv [] μ (some (.inl (), μ)) := by
  intro h H locs ls hl hP hS
  cases h
  have eA := hX.2.2.2.2.2.2.2.2.2.2.2.2.2.1
  rw [eA] at hS
  have hlocks := hX.2.2.2.2.2.2.2.2.2.1
  rw [show cx_Q X = _ from hQ.1, hcs.1, hcs.2]
  refine W.widen hk.1 hk.2 (vx_ret ?_)
  exact W.vret hX.1 hX.2.1 hX.2.2.2.2.2.2.2.2.2.2.1 (fun t ht hW => ⟨⟨(), rfl, rfl, by show va_P _ _ _ t.heap; rw [ht]; exact hP⟩, hS.F ht⟩) hS.2.2 d hlocks
/-! An exception whose own constructor links the next one's at an entry ix, with bytes rx. -/
def xAtoms (own : String) (ic : Nat) (X : String) (ix : Nat) (rx : ByteArray) (Y : String) (r : List String) : List Cond :=
  Bundle.throwableAtoms ++ Bundle.throwableSAtoms ++ (Bundle.passSAtoms X Y ix rx ++ Bundle.chainSAtoms Y r) ++
  [.methodLink own ic (Bundle.initS X), .instantiable X 6, .castable X X, .selects X Bundle.tFill0 Bundle.tFill0, .selects X Bundle.tFill Bundle.tFill,
   .lays X Bundle.tN "cause" "Ljava/lang/Throwable;", .lays X Bundle.tN "stackTrace" Bundle.steD, .lays X Bundle.tN "suppressedExceptions" Bundle.listD, .lays X Bundle.tN "detailMessage" "Ljava/lang/String;",
   .isRef (.static Bundle.tN "UNASSIGNED_STACK" Bundle.steD), .isRef (.static Bundle.tN "SUPPRESSED_SENTINEL" Bundle.listD),
   .fieldLink Bundle.tN 198 Bundle.tN "backtrace" "Ljava/lang/Object;", .lays Bundle.tN Bundle.tN "backtrace" "Ljava/lang/Object;", .lays X Bundle.tN "backtrace" "Ljava/lang/Object;"]
def xAt (own : String) (ic : Nat) (X : String) (ix : Nat) (rx : ByteArray) (Y : String) (r : List String) : List Cond := (xAtoms own ic X ix rx Y r).filter vx_no
set_option maxHeartbeats 1000000 in
theorem ctorThrowSX {p : Program} {l : Launch} {e : Env} {R : Room} {s : State} {m₀ : MethodId} {args : Array Value} {below : List Frame} {meth : Method} {c : Code} {W : State} {locs : List Loc} {cells slots : Nat} (X : Stand p l e R s m₀ args below meth c W locs cells slots) (hexec : p.tables.exec = Jvm.exec) (htr : e.platform.stackTraces = false) {own cls : String} {Y0 : String} {r0 : List String} {ic ix : Nat} {rx : ByteArray} (x0 : decode rx 0 = .ok (.aload_n 0, 1)) (x1 : decode rx 1 = .ok (.aload_n 1, 1)) (x2 : decode rx 2 = .ok (.invokespecial ix, 3)) (x5 : decode rx 5 = .ok (.return_, 1))
    (hown : s.vm.findClass own = some m₀.cls) (hcls : Bundle.fit cls = true) (hnames : ∀ n ∈ (Y0 :: r0), Bundle.fit n = true)
    (h : ∀ a ∈ xAtoms own ic cls ix rx Y0 r0, a.before args s = true)
    (hlocs : ∀ x ∈ locs, ∀ cell, s.heap[x.base]? = some cell → cell.vm.isStatics = false)
    {a : Addr} {cX : ClassId} {kX : Class} (hfoundX : s.vm.findClass cls = some cX) (hkX : s.vm.classes[cX]? = some kX) (hcell : W.heap[a]? = some (freshCell cX kX)) (hnew : s.heap.size ≤ a)
    {msg : Value} (hmsg : msg.isRef = true)
    {g : JFrame} (hg : g.method = m₀) (hsize : g.locals.size = c.maxLocals) (hlocked : g.locked = none) (hentered : g.entered = []) {rest : List Value} (hstack : g.stack = msg :: .ref a :: .ref a :: rest)
    (hd6 : decode c.code g.pc = .ok (.invokespecial ic, 3)) (hd9 : decode c.code (g.pc + 3) = .ok (.athrow, 1)) (hout : ∀ x ∈ c.exceptionTable.toList, covers x (g.pc + 3) = false)
    (hRframes : (Y0 :: r0).length + 3 < R.frames) (hRlocals : 2 * g.monitorRoom + ((Value.ref a :: rest).map fun v => v.category).sum + (13 * ((Y0 :: r0).length + 1) + 42) ≤ R.locals) (hlocks : meth.locks = false := by first | assumption | exact BodyLoose.notSynchronized (by assumption) | exact Body.notSynchronized (by assumption)) :
    ∃ U : State, Steps p.tables e below (W.setTop g) U ∧ U.status = .running ∧ Ended U below (.threw a) ∧ s.WarmedH U.vm ∧ s.sameButNew ({ U with vm := s.vm } : State) locs cells slots ∧
      ∃ ce, U.heap[a]? = some ce ∧ s.vm.findClass cls = some ce.cls ∧ ce.vm = .none := by
  have howns : e.platform.frameOwnsMonitors = true := by rw [X.admits.platform]
  have hfin : e.platform.finalization = false := by rw [X.admits.platform]
  have hpl : e.platform.magicAccessors = ({} : Platform).magicAccessors := by rw [X.admits.platform]
  have a' : ∀ x, x ∈ xAtoms own ic cls ix rx Y0 r0 → x.holds args s none s [] = true := fun x hx => h x hx
  obtain ⟨T, Z0, L, -, Y⟩ := ThrowableC.of_atoms (args := args) howns hfin hpl (fun x hx => h x (by simp [xAtoms, hx]))
  obtain ⟨Z, M, LZ, LM, hnZ⟩ := Init0T.ofS_atoms (args := args) hpl L Y (fun x hx => h x (by simp [xAtoms, hx]))
  have key : ∀ top, s.methodNamed? (Bundle.initS Bundle.tN) = some top → ∃ (P1 : PassC) (Ps : List PassC), Ps.length = (Y0 :: r0).length ∧ P1.LinksS e.platform s ∧ (∀ P, P ∈ Ps → P.LinksS e.platform s) ∧ s.methodNamed? (Bundle.initS cls) = some P1.m ∧ P1.sup = firstOf top (Ps.map (·.toPassT)) ∧ PassesOn top (Ps.map (·.toPassT)) := by
    intro top htop
    obtain ⟨P1, L1, hP1m, hs1⟩ := PassC.ofS_atoms (args := args) (s := s) hpl (X := cls) (Y := Y0) (Bundle.fit_spec hcls).1 (Bundle.fit_spec (hnames Y0 List.mem_cons_self)).2 x0 x1 x2 x5 (fun c hc => h c (by simp [xAtoms, hc]))
    obtain ⟨P', Ps', hlen', L', hL', hm', hsup, hpass⟩ := Bundle.chainS (args := args) hpl htop r0 Y0 (hnames Y0 List.mem_cons_self) (fun n hn' => hnames n (List.mem_cons_of_mem _ hn')) (fun x hx => h x (by simp [xAtoms, hx]))
    refine ⟨P1, P' :: Ps', by simp [hlen'], L1, ?_, hP1m, Option.some.inj (hs1.symm.trans hm'), hsup, hpass⟩
    intro Q hQ
    rcases List.mem_cons.mp hQ with rfl | hQ
    · exact L'
    · exact hL' Q hQ
  obtain ⟨P1, Ps, hlen, L1, hL, hP1m, hlink1, hlink⟩ := key _ hnZ
  have hfound : s.vm.findClass cls = some P1.m.cls := findClass_of_methodNamed hP1m
  cases Option.some.inj (hfoundX.symm.trans hfound)
  obtain ⟨c1, kX', hc1, hk, hord, -, -, hn6⟩ := Cond.instantiable_spec (a' (.instantiable cls 6) (by simp [xAtoms]))
  cases Option.some.inj (hc1.symm.trans hfound)
  cases Option.some.inj (hkX.symm.trans hk)
  have hsel0 : selectMethod e.platform s.vm P1.m.cls T.fill0 = .method T.fill0 := by
    obtain ⟨c2, r2, m2, q1, q2, q3, q4, -⟩ := Cond.selects_spec (a' (.selects cls Bundle.tFill0 Bundle.tFill0) (by simp [xAtoms]))
    cases Option.some.inj (q1.symm.trans hfound)
    cases Option.some.inj (q2.symm.trans (State.methodFound?_of_named Y.fill0 (by decide)))
    cases Option.some.inj (q3.symm.trans Y.fill0)
    rw [Launch.admits_selectMethod X.admits]; exact q4
  have hselF : selectMethod e.platform s.vm P1.m.cls T.fill = .method T.fill := by
    obtain ⟨c2, r2, m2, q1, q2, q3, q4, -⟩ := Cond.selects_spec (a' (.selects cls Bundle.tFill Bundle.tFill) (by simp [xAtoms]))
    cases Option.some.inj (q1.symm.trans hfound)
    cases Option.some.inj (q2.symm.trans (State.methodFound?_of_named Y.fill (by decide)))
    cases Option.some.inj (q3.symm.trans Y.fill)
    rw [Launch.admits_selectMethod X.admits]; exact q4
  obtain ⟨cellS0, hcS0, hiss⟩ := Y.statics
  obtain ⟨u0, hu0⟩ := Cond.staticRefV Y.unassigned L.unassignedStatic L.statics hcS0 hiss (a' (.isRef (.static Bundle.tN "UNASSIGNED_STACK" Bundle.steD)) (by simp [xAtoms]))
  obtain ⟨sen, hsen⟩ := Cond.staticRefV Y.sentinel L.sentinelStatic L.statics hcS0 hiss (a' (.isRef (.static Bundle.tN "SUPPRESSED_SENTINEL" Bundle.listD)) (by simp [xAtoms]))
  obtain ⟨ci198, i198, fB, hk198, hg198, ha198, hsB, -, hnB, htB, hffB⟩ := Cond.ownField (t := .object "java/lang/Object") Y.found L.cls (by decide +kernel) (a' (.fieldLink Bundle.tN 198 Bundle.tN "backtrace" "Ljava/lang/Object;") (by simp [xAtoms])) (a' (.lays Bundle.tN Bundle.tN "backtrace" "Ljava/lang/Object;") (by simp [xAtoms])) e.platform hpl
  obtain ⟨cellS, hcS', heS, -, hkeep⟩ := X.same.2.2.2.2.2 T.aS cellS0 hcS0
  have hcellS : W.heap[T.aS]? = some cellS := hcS'
  have hout' : ∀ i, (⟨T.aS, i⟩ : Loc) ∉ locs := fun i hmem => by
    have := hlocs _ hmem cellS0 hcS0
    rw [hiss] at this; cases this
  have hknownS : cellS.vm ≠ .unknown := by
    rw [heS]; intro hu
    rw [show cellS0.vm = .unknown from hu] at hiss
    cases hiss
  have hneS : T.aS ≠ a := Nat.ne_of_lt (Nat.lt_of_lt_of_le (Array.getElem?_eq_some_iff.mp hcS0).1 hnew)
  obtain ⟨iM, hffM⟩ := Y.msg
  obtain ⟨tyC, dC, hdC, hdnC⟩ := Cond.laysAt hfound hk Y.cause (a' (.lays cls Bundle.tN "cause" "Ljava/lang/Throwable;") (by simp [xAtoms]))
  obtain ⟨tyS, dS, hdS, hdnS⟩ := Cond.laysAt hfound hk Y.stack (a' (.lays cls Bundle.tN "stackTrace" Bundle.steD) (by simp [xAtoms]))
  obtain ⟨tyP, dP, hdP, hdnP⟩ := Cond.laysAt hfound hk Y.supp (a' (.lays cls Bundle.tN "suppressedExceptions" Bundle.listD) (by simp [xAtoms]))
  obtain ⟨tyM, dM, hdM, hdnM⟩ := Cond.laysAt hfound hk hffM (a' (.lays cls Bundle.tN "detailMessage" "Ljava/lang/String;") (by simp [xAtoms]))
  obtain ⟨tyB, dB, hdB, hdnB⟩ := Cond.laysAt hfound hk hffB (a' (.lays cls Bundle.tN "backtrace" "Ljava/lang/Object;") (by simp [xAtoms]))
  have bC := Cond.laysApart hdB hdC hdnB hdnC (by rw [hnB, Y.causeName]; decide)
  have bS := Cond.laysApart hdB hdS hdnB hdnS (by rw [hnB, Y.stackName]; decide)
  have bP := Cond.laysApart hdB hdP hdnB hdnP (by rw [hnB, Y.suppName]; decide)
  have hskip : SkipFacts T e.platform s (fun u => u) u0 ((preparedCellV T.toThrowableT (freshCell P1.m.cls kX) a u0 sen).withEntry W.cur) :=
    ⟨{ ci198 := ci198, i198 := i198, fBack := fB }, ⟨hk198, hg198, ha198, hsB⟩, by
      have := fresh_default (c := P1.m.cls) tyB
      rw [htB] at this
      simpa [preparedCellV, Cell.setSlot, Cell.withEntry, Array.getElem?_setIfInBounds, bC, bS, bP, bC.symm, bS.symm, bP.symm, defaultValue] using this, fun _ _ => rfl⟩
  obtain ⟨tm, methC, cdC, kC, vm₁, hnC, -, -, -, -, -, -, -, hW₁, st1⟩ := Steps.initColdS (tb := p.tables) (e := e) (below := below) (s := s) (U := W) X.here hexec X.warmed hpl hown (t := Bundle.initS cls) rfl rfl (Bundle.fit_spec hcls).2
    (a' (.methodLink own ic (Bundle.initS cls)) (by simp [xAtoms])) (h (.instanceMethod (Bundle.initS cls)) (by simp [xAtoms, Bundle.passSAtoms])) (bytes := rx) (maxL := 2) (h (.code (Bundle.initS cls) rx 2 none) (by simp [xAtoms, Bundle.passSAtoms]))
    (f := g) hg (a := a) (msg := msg) (rest := .ref a :: rest) hstack hd6
  cases Option.some.inj (hnC.symm.trans hP1m)
  have X₁ := X.noted hW₁
  obtain ⟨vm₂, X₂, st2⟩ := X₁.ctorMessageOffV hexec (g := { g with stack := .ref a :: rest }) hg hsize T L Z LZ M LM (P1 :: Ps)
    (fun P hP => by rcases List.mem_cons.mp hP with rfl | hP; exact L1; exact hL P hP) ⟨hlink1, hlink⟩ (u0 := u0) (sen := sen) (self := a) hmsg (cell := freshCell P1.m.cls kX) (cellS := cellS)
    hcell (fun _ => by simp) (by simp) rfl rfl hsel0 hselF hcellS hneS hknownS (by rw [hkeep _ (hout' _)]; exact hu0) (by rw [hkeep _ (hout' _)]; exact hsen)
    (Takes.of_laid hk hord tyC (by rw [Y.causeType]; rfl)) (Takes.of_laid hk hord tyS (by rw [Y.stackType]; exact fits_refV_array _ u0)) (Takes.of_laid hk hord tyP (by rw [Y.suppType]; exact fits_refV_object _ sen))
    (Takes.of_laid hk hord tyM (by rw [Y.msgType]; exact fits_refV_object _ ⟨msg, hmsg⟩)) Y.objLocals hskip htr [] hd6
    (by simp only [List.length_cons, hlen]; omega) (by simp only [List.length_cons, hlen]; exact hRlocals)
  obtain ⟨hwalk, hrun, hended, hWU, hsame⟩ := X₂.athrowLeaves hexec (g := { g with stack := .ref a :: rest, pc := g.pc + 3 }) hg hlocked hentered hout (a := a) (rest := rest) rfl hd9
  obtain ⟨c3, c4, hc3, hc4, hasg⟩ := Cond.castable_spec (a' (.castable cls cls) (by simp [xAtoms]))
  cases Option.some.inj (hc3.symm.trans hfound)
  cases Option.some.inj (hc4.symm.trans hfound)
  have hlt : a < ((W.setVm vm₁).setVm vm₂).heap.size := (Array.getElem?_eq_some_iff.mp hcell).1
  have hU := heapAt_setCell_self (s := (W.setVm vm₁).setVm vm₂) (plainBareV T.toThrowableT (freshCell P1.m.cls kX) a u0 sen msg) hlt
  have hnM : T.fMsg.name = "detailMessage" := (State.fieldFound?_type hffM (t := .object "java/lang/String") (by decide +kernel)).1
  have nCS := Cond.laysApart hdC hdS hdnC hdnS (by rw [Y.causeName, Y.stackName]; decide)
  have nCP := Cond.laysApart hdC hdP hdnC hdnP (by rw [Y.causeName, Y.suppName]; decide)
  have nCM := Cond.laysApart hdC hdM hdnC hdnM (by rw [Y.causeName, hnM]; decide)
  have nSP := Cond.laysApart hdS hdP hdnS hdnP (by rw [Y.stackName, Y.suppName]; decide)
  have nSM := Cond.laysApart hdS hdM hdnS hdnM (by rw [Y.stackName, hnM]; decide)
  have nPM := Cond.laysApart hdP hdM hdnP hdnM (by rw [Y.suppName, hnM]; decide)
  have lC : T.fCause.slot < kX.instanceTypes.size := (Array.getElem?_eq_some_iff.mp tyC).1
  have lS : T.fStack.slot < kX.instanceTypes.size := (Array.getElem?_eq_some_iff.mp tyS).1
  have lP : T.fSupp.slot < kX.instanceTypes.size := (Array.getElem?_eq_some_iff.mp tyP).1
  have lM : T.fMsg.slot < kX.instanceTypes.size := (Array.getElem?_eq_some_iff.mp tyM).1
  have evU : ∀ o, (Term.static Bundle.tN "UNASSIGNED_STACK" Bundle.steD).eval args s o [] s = some u0.v := by
    intro o
    simp [Term.eval, State.fieldNamed?, Y.unassigned, L.unassignedStatic, L.statics, hcS0, hiss, hu0]
  have evS : ∀ o, (Term.static Bundle.tN "SUPPRESSED_SENTINEL" Bundle.listD).eval args s o [] s = some sen.v := by
    intro o
    simp [Term.eval, State.fieldNamed?, Y.sentinel, L.sentinelStatic, L.statics, hcS0, hiss, hsen]
  refine ⟨_, st1 _ (fun acts => ?_), hrun, hended, hWU, hsame.weaken (fun y hy hlt' => ?_) (Nat.le_refl _) (Nat.le_refl _), _, hU, ?_⟩
  · rw [doInvoke_state]
    exact st2 _ hwalk
  · rcases List.mem_append.mp hy with h1 | h1
    · exact h1
    · exfalso
      have hb : y.base = a := by
        simp only [List.mem_cons, List.not_mem_nil, or_false] at h1
        rcases h1 with rfl | rfl | rfl | rfl | rfl <;> rfl
      rw [hb] at hlt'
      exact Nat.not_lt.mpr hnew hlt'
  · exact ⟨hfound, rfl⟩
set_option maxHeartbeats 1000000 in
theorem vx_throwSX {p : Program} {l : Launch} {e : Env} {R : Room} {s : State} {m : MethodId} {args : Array Value} {below : List Frame} {meth : Method} {c : Code} {H : Heap} {locs : List Loc} {cells slots : Nat} {ls : Array Slot} {rest : List Value} {Qc : Array Value → State → Outcome → State → Prop} {XC : String → State → State → Prop} {free : Addr → Prop} {cc : ByteArray} {pc : Nat} (hexec : p.tables.exec = Jvm.exec) (hb : c.code = cc) (hl : l.stackTraces = false) {own cls text : String} {Y0 : String} {r0 : List String} {ix : Nat} {rx : ByteArray} (x0 : decode rx 0 = .ok (.aload_n 0, 1)) (x1 : decode rx 1 = .ok (.aload_n 1, 1)) (x2 : decode rx 2 = .ok (.invokespecial ix, 3)) (x5 : decode rx 5 = .ok (.return_, 1)) {ik is ic mc ms sa : Nat} {A : Nat → Prop}
    (hown : s.vm.findClass own = some m.cls) (hcls : Bundle.fit cls = true) (hnames : ∀ n ∈ (Y0 :: r0), Bundle.fit n = true)
    (hk : (Cond.classLink own ik cls).before args s = true) (hini : (Cond.initialized cls).before args s = true) (hstr : vk_R own is text sa s) (hat : ∀ w ∈ xAt own ic cls ix rx Y0 r0, w.before args s = true)
    (hgood : ∀ w ∈ Cond.classLink own ik cls :: Cond.initialized cls :: xAt own ic cls ix rx Y0 r0, vx_ot w = true)
    (hU : vx_Zq Bundle.tN "UNASSIGNED_STACK" Bundle.steD A s s.heap) (hN : vx_Zq Bundle.tN "SUPPRESSED_SENTINEL" Bundle.listD A s s.heap) (hS : va_S A s.heap H locs) (hsize : ls.size = c.maxLocals)
    (d0 : decode cc pc = .ok (.new ik, 3)) (d3 : decode cc (pc + 3) = .ok (.dup, 1)) (d4 : decode cc (pc + 4) = .ok (.ldc is, 2)) (d6 : decode cc (pc + 6) = .ok (.invokespecial ic, 3)) (d9 : decode cc (pc + 9) = .ok (.athrow, 1))
    (hout : ∀ x ∈ c.exceptionTable.toList, covers x (pc + 9) = false)
    (hRframes : (Y0 :: r0).length + 3 < R.frames) (hRlocals : (rest.map fun v => v.category).sum + (13 * ((Y0 :: r0).length + 1) + 43) ≤ R.locals) (hRcells : cells + 1 ≤ R.cells) (hRslots : slots + 6 ≤ R.slots) (hlocks : meth.locks = false)
    (hx : ∀ t : State, s.vm.Alike t.vm → H.size ≤ t.heap.size → (∀ q : Nat, q < H.size → t.heap[q]? = H[q]?) → XC cls s t)
    (hf : ∀ z ∈ locs, free z.base) (hc : cells + 1 ≤ mc) (hs : slots + 6 ≤ ms) :
    W p l e R s m args below meth c H locs cells slots (vx_MQ below Qc XC args s mc ms free) (F0 m pc ls rest) := by
  intro T hT X
  have htr : e.platform.stackTraces = false := (show e.platform.stackTraces = l.stackTraces by rw [X.admits.platform]).trans hl
  have Y := vx_rebase X (R' := { frames := R.frames, locals := R.locals, cells := 1, slots := 6 }) (Nat.le_refl _) (Nat.le_refl _) hRcells hRslots
  obtain ⟨s', hA⟩ : ∃ z, z = (T.setVm s.vm).setFrames (.invoking m args :: below) := ⟨_, rfl⟩
  rw [← hA] at Y
  have hvm : s'.vm = s.vm := by rw [hA]; rfl
  have hhp : s'.heap = H := by rw [hA]; exact hT
  have hW0 : s.WarmedH s'.vm := by rw [hvm]; exact State.WarmedH.refl s
  have hat' : ∀ w ∈ xAt own ic cls ix rx Y0 r0, w.before args s' = true := fun w hw => vx_ot_at hW0 hvm.symm (hgood w (List.mem_cons_of_mem _ (List.mem_cons_of_mem _ hw))) (hat w hw)
  have hk' : (Cond.classLink own ik cls).before args s' = true := vx_ot_at hW0 hvm.symm (hgood _ List.mem_cons_self) hk
  have hini' : (Cond.initialized cls).before args s' = true := vx_ot_at hW0 hvm.symm (hgood _ (List.mem_cons_of_mem _ List.mem_cons_self)) hini
  have hU' : vx_Zq Bundle.tN "UNASSIGNED_STACK" Bundle.steD A s' s'.heap := by rw [hhp]; exact vx_Zq.moved hW0.alike (hU.kept hS.2.1)
  have hN' : vx_Zq Bundle.tN "SUPPRESSED_SENTINEL" Bundle.listD A s' s'.heap := by rw [hhp]; exact vx_Zq.moved hW0.alike (hN.kept hS.2.1)
  have h : ∀ w ∈ xAtoms own ic cls ix rx Y0 r0, w.before args s' = true := vx_own hat' (vx_isRefq hU'.1) (vx_isRefq hN'.1) hU'.2.word hN'.2.word
  have hown' : s'.vm.findClass own = some m.cls := by rw [hvm]; exact hown
  have hins : (Cond.instantiable cls 6).before args s' = true := h _ (by simp [xAtoms])
  obtain ⟨vm₁, cX, kX, hfX, hkX, -, -, X₁, st1⟩ := Y.newCold hexec (own := own) (C := cls) (index := ik) (n := 6) hown' hk' hins hini'
    (g := F0 m pc ls rest) rfl (by rw [hb]; exact d0) (Nat.le_refl _) (Nat.le_refl _)
  generalize hT1 : (T.setVm vm₁).pushCell { cls := cX, slots := kX.instanceTypes.map defaultValue, vm := .none } = T1 at X₁ st1
  have hcat : (Value.ref T.heap.size).category = 1 := rfl
  have hcellA : T1.heap[T.heap.size]? = some (freshCell cX kX) := by rw [← hT1]; exact State.heap_pushCell_size _ _
  have d3' : decode c.code (pc + 3) = .ok (.dup, 1) := by rw [hb]; exact d3
  have d4' : decode c.code (pc + 4) = .ok (.ldc is, 2) := by rw [hb]; exact d4
  have hstr' : vk_R own is text sa s' := vk_R.warm hW0 hstr
  obtain ⟨U, hsteps, hrun, hend, hW, hsame, ce, hce, hO⟩ := ctorThrowSX X₁ hexec htr x0 x1 x2 x5 (own := own) (cls := cls) (Y0 := Y0) (r0 := r0) (ic := ic) hown' hcls hnames h (fun x hx => nomatch hx) hfX hkX hcellA (by rw [hhp, hT]; exact Nat.le_refl _) (msg := .ref sa) rfl
    (g := { method := m, pc := pc + 6, locals := ls, stack := .ref sa :: .ref T.heap.size :: .ref T.heap.size :: rest, locked := none }) rfl hsize rfl rfl (rest := rest) rfl
    (by rw [hb]; exact d6) (by rw [hb]; exact d9) hout hRframes (by simp only [List.map_cons, List.sum_cons, hcat]; omega) hlocks
  obtain ⟨f1, f2⟩ := vx_frame hsame
  rw [hhp] at f1 f2
  have hWs : s.WarmedH U.vm := State.WarmedH.trans hW0 hW
  have hcl : s.vm.findClass cls = some ce.cls := by
    have h9 := hO.1
    rw [hvm] at h9
    exact h9
  have hall : s.sameButNew ({ U with vm := s.vm } : State) locs mc ms := by
    subst hA
    obtain ⟨e1, e2⟩ := hsame
    rw [State.setFrames_setFrames] at e1
    have h2 : (T.setVm s.vm).sameButNew ({ U with vm := s.vm } : State) [] (0 + 1) (0 + 6) := ⟨e1, e2⟩
    have h3 := X.same.trans h2
    rw [List.append_nil] at h3
    exact h3.mono hc hs
  refine ⟨U, ?_, .threw T.heap.size, hrun, hend, Or.inr ⟨T.heap.size, rfl, cls, ce, locs, hx U hWs.alike f1 (fun q hq => f2 q hq (fun z hz => nomatch hz)), hce, hO.2, hcl, hWs, hall, hf⟩⟩
  refine st1 _ ?_
  show Steps p.tables e below (T1.setTop { method := m, pc := pc + 3, locals := ls, stack := .ref T.heap.size :: rest, locked := none }) _
  jvm_step X₁.here [X₁.here.top, hexec, d3', Value.category]
  exact X₁.ldcString hexec (own := own) (text := text) (index := is) (a := sa) hown' hstr'.1 hstr'.2
    (g := { method := m, pc := pc + 4, locals := ls, stack := .ref T.heap.size :: .ref T.heap.size :: rest, locked := none }) rfl d4' _ hsteps
set_option maxHeartbeats 1000000 in
theorem vx_throwSWX {p : Program} {l : Launch} {e : Env} {R : Room} {s : State} {m : MethodId} {args : Array Value} {below : List Frame} {meth : Method} {c : Code} {H : Heap} {locs : List Loc} {cells slots : Nat} {ls : Array Slot} {rest : List Value} {Qc : Array Value → State → Outcome → State → Prop} {XC : String → State → State → Prop} {free : Addr → Prop} {cc : ByteArray} {pc : Nat} (hexec : p.tables.exec = Jvm.exec) (hb : c.code = cc) (hl : l.stackTraces = false) {own cls text : String} {Y0 : String} {r0 : List String} {ix : Nat} {rx : ByteArray} (x0 : decode rx 0 = .ok (.aload_n 0, 1)) (x1 : decode rx 1 = .ok (.aload_n 1, 1)) (x2 : decode rx 2 = .ok (.invokespecial ix, 3)) (x5 : decode rx 5 = .ok (.return_, 1)) {ik is ic mc ms sa : Nat} {A : Nat → Prop}
    (hown : s.vm.findClass own = some m.cls) (hcls : Bundle.fit cls = true) (hnames : ∀ n ∈ (Y0 :: r0), Bundle.fit n = true)
    (hk : (Cond.classLink own ik cls).before args s = true) (hini : (Cond.initialized cls).before args s = true) (hstr : vk_R own is text sa s) (hat : ∀ w ∈ xAt own ic cls ix rx Y0 r0, w.before args s = true)
    (hgood : ∀ w ∈ Cond.classLink own ik cls :: Cond.initialized cls :: xAt own ic cls ix rx Y0 r0, vx_ot w = true)
    (hU : vx_Zq Bundle.tN "UNASSIGNED_STACK" Bundle.steD A s s.heap) (hN : vx_Zq Bundle.tN "SUPPRESSED_SENTINEL" Bundle.listD A s s.heap) (hS : va_S A s.heap H locs) (hsize : ls.size = c.maxLocals)
    (d0 : decode cc pc = .ok (.new ik, 3)) (d3 : decode cc (pc + 3) = .ok (.dup, 1)) (d4 : decode cc (pc + 4) = .ok (.ldc_w is, 3)) (d7 : decode cc (pc + 7) = .ok (.invokespecial ic, 3)) (d10 : decode cc (pc + 10) = .ok (.athrow, 1))
    (hout : ∀ x ∈ c.exceptionTable.toList, covers x (pc + 10) = false)
    (hRframes : (Y0 :: r0).length + 3 < R.frames) (hRlocals : (rest.map fun v => v.category).sum + (13 * ((Y0 :: r0).length + 1) + 43) ≤ R.locals) (hRcells : cells + 1 ≤ R.cells) (hRslots : slots + 6 ≤ R.slots) (hlocks : meth.locks = false)
    (hx : ∀ t : State, s.vm.Alike t.vm → H.size ≤ t.heap.size → (∀ q : Nat, q < H.size → t.heap[q]? = H[q]?) → XC cls s t)
    (hf : ∀ z ∈ locs, free z.base) (hc : cells + 1 ≤ mc) (hs : slots + 6 ≤ ms) :
    W p l e R s m args below meth c H locs cells slots (vx_MQ below Qc XC args s mc ms free) (F0 m pc ls rest) := by
  intro T hT X
  have htr : e.platform.stackTraces = false := (show e.platform.stackTraces = l.stackTraces by rw [X.admits.platform]).trans hl
  have Y := vx_rebase X (R' := { frames := R.frames, locals := R.locals, cells := 1, slots := 6 }) (Nat.le_refl _) (Nat.le_refl _) hRcells hRslots
  obtain ⟨s', hA⟩ : ∃ z, z = (T.setVm s.vm).setFrames (.invoking m args :: below) := ⟨_, rfl⟩
  rw [← hA] at Y
  have hvm : s'.vm = s.vm := by rw [hA]; rfl
  have hhp : s'.heap = H := by rw [hA]; exact hT
  have hW0 : s.WarmedH s'.vm := by rw [hvm]; exact State.WarmedH.refl s
  have hat' : ∀ w ∈ xAt own ic cls ix rx Y0 r0, w.before args s' = true := fun w hw => vx_ot_at hW0 hvm.symm (hgood w (List.mem_cons_of_mem _ (List.mem_cons_of_mem _ hw))) (hat w hw)
  have hk' : (Cond.classLink own ik cls).before args s' = true := vx_ot_at hW0 hvm.symm (hgood _ List.mem_cons_self) hk
  have hini' : (Cond.initialized cls).before args s' = true := vx_ot_at hW0 hvm.symm (hgood _ (List.mem_cons_of_mem _ List.mem_cons_self)) hini
  have hU' : vx_Zq Bundle.tN "UNASSIGNED_STACK" Bundle.steD A s' s'.heap := by rw [hhp]; exact vx_Zq.moved hW0.alike (hU.kept hS.2.1)
  have hN' : vx_Zq Bundle.tN "SUPPRESSED_SENTINEL" Bundle.listD A s' s'.heap := by rw [hhp]; exact vx_Zq.moved hW0.alike (hN.kept hS.2.1)
  have h : ∀ w ∈ xAtoms own ic cls ix rx Y0 r0, w.before args s' = true := vx_own hat' (vx_isRefq hU'.1) (vx_isRefq hN'.1) hU'.2.word hN'.2.word
  have hown' : s'.vm.findClass own = some m.cls := by rw [hvm]; exact hown
  have hins : (Cond.instantiable cls 6).before args s' = true := h _ (by simp [xAtoms])
  obtain ⟨vm₁, cX, kX, hfX, hkX, -, -, X₁, st1⟩ := Y.newCold hexec (own := own) (C := cls) (index := ik) (n := 6) hown' hk' hins hini'
    (g := F0 m pc ls rest) rfl (by rw [hb]; exact d0) (Nat.le_refl _) (Nat.le_refl _)
  generalize hT1 : (T.setVm vm₁).pushCell { cls := cX, slots := kX.instanceTypes.map defaultValue, vm := .none } = T1 at X₁ st1
  have hcat : (Value.ref T.heap.size).category = 1 := rfl
  have hcellA : T1.heap[T.heap.size]? = some (freshCell cX kX) := by rw [← hT1]; exact State.heap_pushCell_size _ _
  have d3' : decode c.code (pc + 3) = .ok (.dup, 1) := by rw [hb]; exact d3
  have d4' : decode c.code (pc + 4) = .ok (.ldc_w is, 3) := by rw [hb]; exact d4
  have hstr' : vk_R own is text sa s' := vk_R.warm hW0 hstr
  obtain ⟨U, hsteps, hrun, hend, hW, hsame, ce, hce, hO⟩ := ctorThrowSX X₁ hexec htr x0 x1 x2 x5 (own := own) (cls := cls) (Y0 := Y0) (r0 := r0) (ic := ic) hown' hcls hnames h (fun x hx => nomatch hx) hfX hkX hcellA (by rw [hhp, hT]; exact Nat.le_refl _) (msg := .ref sa) rfl
    (g := { method := m, pc := pc + 7, locals := ls, stack := .ref sa :: .ref T.heap.size :: .ref T.heap.size :: rest, locked := none }) rfl hsize rfl rfl (rest := rest) rfl
    (by rw [hb]; exact d7) (by rw [hb]; exact d10) hout hRframes (by simp only [List.map_cons, List.sum_cons, hcat]; omega) hlocks
  obtain ⟨f1, f2⟩ := vx_frame hsame
  rw [hhp] at f1 f2
  have hWs : s.WarmedH U.vm := State.WarmedH.trans hW0 hW
  have hcl : s.vm.findClass cls = some ce.cls := by
    have h9 := hO.1
    rw [hvm] at h9
    exact h9
  have hall : s.sameButNew ({ U with vm := s.vm } : State) locs mc ms := by
    subst hA
    obtain ⟨e1, e2⟩ := hsame
    rw [State.setFrames_setFrames] at e1
    have h2 : (T.setVm s.vm).sameButNew ({ U with vm := s.vm } : State) [] (0 + 1) (0 + 6) := ⟨e1, e2⟩
    have h3 := X.same.trans h2
    rw [List.append_nil] at h3
    exact h3.mono hc hs
  refine ⟨U, ?_, .threw T.heap.size, hrun, hend, Or.inr ⟨T.heap.size, rfl, cls, ce, locs, hx U hWs.alike f1 (fun q hq => f2 q hq (fun z hz => nomatch hz)), hce, hO.2, hcl, hWs, hall, hf⟩⟩
  refine st1 _ ?_
  show Steps p.tables e below (T1.setTop { method := m, pc := pc + 3, locals := ls, stack := .ref T.heap.size :: rest, locked := none }) _
  jvm_step X₁.here [X₁.here.top, hexec, d3', Value.category]
  exact X₁.ldcStringW hexec (own := own) (text := text) (index := is) (a := sa) hown' hstr'.1 hstr'.2
    (g := { method := m, pc := pc + 4, locals := ls, stack := .ref T.heap.size :: .ref T.heap.size :: rest, locked := none }) rfl d4' _ hsteps
abbrev xnames : List String := ["java/lang/RuntimeException", "java/lang/Exception"]
theorem xn_fit : ∀ n ∈ xnames, Bundle.fit n = true := by decide +kernel
set_option maxRecDepth 100000 in
theorem xl_0 : Cond.classLink RX10 403 (exN 0) ∈ tb := tb_5 (List.mem_of_getElem? (i := 28) rfl) rfl
set_option maxRecDepth 100000 in
theorem xi_0 : Cond.initialized (exN 0) ∈ tb := tb_1 (List.mem_of_getElem? (i := 22) rfl) rfl
theorem xg_0 : ∀ w ∈ (vx_atS RX10 407 (exN 0) xnames).filter goodWord, w ∈ lw_tbl := by decide +kernel
theorem xb_0 : ∀ w ∈ (vx_atS RX10 407 (exN 0) xnames).filter (fun w => !goodWord w), w ∈ (.castable (exN 0) (exN 0) :: dcS.map (fun x => Cond.declares x)) := by decide +kernel
theorem xo_0 : ∀ w ∈ Cond.classLink RX10 403 (exN 0) :: Cond.initialized (exN 0) :: vx_atS RX10 407 (exN 0) xnames, vx_ot w = true := by decide +kernel
theorem xf_0 : Bundle.fit (exN 0) = true := by decide +kernel
set_option maxRecDepth 100000 in
theorem xl_1 : Cond.classLink RX10 81 (exN 1) ∈ tb := tb_4 (List.mem_of_getElem? (i := 188) rfl) rfl
set_option maxRecDepth 100000 in
theorem xi_1 : Cond.initialized (exN 1) ∈ tb := tb_1 (List.mem_of_getElem? (i := 21) rfl) rfl
theorem xg_1 : ∀ w ∈ (vx_atS RX10 85 (exN 1) xnames).filter goodWord, w ∈ lw_tbl := by decide +kernel
theorem xb_1 : ∀ w ∈ (vx_atS RX10 85 (exN 1) xnames).filter (fun w => !goodWord w), w ∈ (.castable (exN 1) (exN 1) :: dcS.map (fun x => Cond.declares x)) := by decide +kernel
theorem xo_1 : ∀ w ∈ Cond.classLink RX10 81 (exN 1) :: Cond.initialized (exN 1) :: vx_atS RX10 85 (exN 1) xnames, vx_ot w = true := by decide +kernel
theorem xf_1 : Bundle.fit (exN 1) = true := by decide +kernel
set_option maxRecDepth 100000 in
theorem xl_2 : Cond.classLink RX10 182 (exN 2) ∈ tb := tb_5 (List.mem_of_getElem? (i := 111) rfl) rfl
set_option maxRecDepth 100000 in
theorem xi_2 : Cond.initialized (exN 2) ∈ tb := tb_1 (List.mem_of_getElem? (i := 24) rfl) rfl
theorem xg_2 : ∀ w ∈ (vx_atS RX10 186 (exN 2) xnames).filter goodWord, w ∈ lw_tbl := by decide +kernel
theorem xb_2 : ∀ w ∈ (vx_atS RX10 186 (exN 2) xnames).filter (fun w => !goodWord w), w ∈ (.castable (exN 2) (exN 2) :: dcS.map (fun x => Cond.declares x)) := by decide +kernel
theorem xo_2 : ∀ w ∈ Cond.classLink RX10 182 (exN 2) :: Cond.initialized (exN 2) :: vx_atS RX10 186 (exN 2) xnames, vx_ot w = true := by decide +kernel
theorem xf_2 : Bundle.fit (exN 2) = true := by decide +kernel
set_option maxRecDepth 100000 in
theorem xl_3 : Cond.classLink RX10 127 (exN 3) ∈ tb := tb_5 (List.mem_of_getElem? (i := 61) rfl) rfl
set_option maxRecDepth 100000 in
theorem xi_3 : Cond.initialized (exN 3) ∈ tb := tb_1 (List.mem_of_getElem? (i := 23) rfl) rfl
theorem xg_3 : ∀ w ∈ (xAt RX10 131 (exN 3) 13 prog_29_method_4_code "java/lang/RuntimeException" ["java/lang/Exception"]).filter goodWord, w ∈ lw_tbl := by decide +kernel
theorem xb_3 : ∀ w ∈ (xAt RX10 131 (exN 3) 13 prog_29_method_4_code "java/lang/RuntimeException" ["java/lang/Exception"]).filter (fun w => !goodWord w), w ∈ (.castable (exN 3) (exN 3) :: dcS.map (fun x => Cond.declares x)) := by decide +kernel
theorem xo_3 : ∀ w ∈ Cond.classLink RX10 127 (exN 3) :: Cond.initialized (exN 3) :: xAt RX10 131 (exN 3) 13 prog_29_method_4_code "java/lang/RuntimeException" ["java/lang/Exception"], vx_ot w = true := by decide +kernel
theorem xf_3 : Bundle.fit (exN 3) = true := by decide +kernel
theorem G_throw {τ : Type} {w : Wld} {X : Ctx} {z : (τ ⊕ Nat) × Mem} {cc : ByteArray} {nL : Nat} {ret : Option FieldType} {R : Room} {pc : Nat} {lv : List (Nat × Value)} {st : List Value} {μ : Mem} {K S k0 n0 : Nat} {QP : Ctx → Array Value → State → Outcome → State → Prop} {ik is ic si : Nat} {tx : String} (hX : Fx w X cc nL RX10 ret R) (hQ : Qy QP w X z K S) (hcs : cx_cells X = k0 ∧ cx_slots X = n0) (e : Nat) (he : e < 4) (hfit : Bundle.fit (exN e) = true) (hl : Cond.classLink RX10 ik (exN e) ∈ tb) (hi : Cond.initialized (exN e) ∈ tb) (hg : ∀ w ∈ (vx_atS RX10 ic (exN e) xnames).filter goodWord, w ∈ lw_tbl) (hb : ∀ w ∈ (vx_atS RX10 ic (exN e) xnames).filter (fun w => !goodWord w), w ∈ (.castable (exN e) (exN e) :: dcS.map (fun x => Cond.declares x))) (ho : ∀ w ∈ Cond.classLink RX10 ik (exN e) :: Cond.initialized (exN e) :: vx_atS RX10 ic (exN e) xnames, vx_ot w = true) (hr : (RX10, is, tx, si) ∈ refS) (hro : 5 < R.frames ∧ (st.map fun v => v.category).sum + 82 ≤ R.locals ∧ k0 + 1 ≤ R.cells ∧ n0 + 6 ≤ R.slots) (hk : k0 + 1 ≤ K ∧ n0 + 6 ≤ S) (d0 : decode cc pc = .ok (.new ik, 3)) (d3 : decode cc (pc + 3) = .ok (.dup, 1)) (d4 : decode cc (pc + 4) = .ok (.ldc is, 2)) (d6 : decode cc (pc + 6) = .ok (.invokespecial ic, 3)) (d9 : decode cc (pc + 9) = .ok (.athrow, 1)) : G w X z pc lv st μ (some (.inr e, μ)) := by
  intro h H locs ls hls hP hS
  cases h
  have eA := hX.2.2.2.2.2.2.2.2.2.2.2.2.2.1
  have eR := hX.2.2.2.2.2.2.2.2.2.2.2.1
  have eN := hX.2.2.2.2.2.2.2.2.2.2.2.2.1
  have hts := hX.2.2.2.2.1
  have hat : ∀ w ∈ vx_atS RX10 ic (exN e) xnames, w.before (cx_args X) (cx_s X) = true := by
    refine vx_hat (B := .castable (exN e) (exN e) :: dcS.map (fun x => Cond.declares x)) (fun w hw => hts w (tb_of (hg w hw) (List.mem_filter.mp hw).2)) hb ?_
    intro w hw
    rcases List.mem_cons.mp hw with e1 | hw
    · rw [e1]; exact va_tabs rfl rfl (hX.2.2.2.2.2.2.2.2.2.2.2.2.2.2.2.2.2.2.2.2.1 e he)
    · obtain ⟨x, hx, rfl⟩ := List.mem_map.mp hw
      exact va_tabs rfl rfl (hX.2.2.2.2.2.2.2.2.2.2.2.2.2.2.2.2.2.2.2.2.2.1 x hx)
  have hstr := hX.2.2.2.2.2.2.2.2.2.2.2.2.2.2.2.1 _ hr
  have hU := hX.2.2.2.2.2.2.2.2.2.2.2.2.2.2.2.2.2.2.1
  have hN := hX.2.2.2.2.2.2.2.2.2.2.2.2.2.2.2.2.2.2.2.1
  rw [show cx_Q X = _ from hQ.1, hcs.1, hcs.2]
  refine vx_throwS (A := cx_A X) (names := xnames) hX.1 hX.2.1 hQ.2.1  hX.2.2.2.1 hfit xn_fit (hts _ hl) (hts _ hi) hstr hat ho hU hN hS (by rw [hX.2.2.1, ← eN]; exact hls.1) d0 d3 d4 d6 d9 (fun x hx => (hQ.2.2 x hx).elim) (by rw [eR]; exact hro.1) (by rw [eR]; exact hro.2.1) (by rw [eR]; exact hro.2.2.1) (by rw [eR]; exact hro.2.2.2) hX.2.2.2.2.2.2.2.2.2.1 ?_ ?_ hk.1 hk.2
  · intro t ht hz hq
    refine ⟨(), trivial, ⟨⟨e, he, rfl, rfl⟩, ?_⟩, ?_, ?_⟩
    · exact hP.kept (fun k q hk => hq q.1 (hP k q hk).lt)
    · exact Nat.le_trans hS.1 hz
    · intro q h1 h2
      rw [hq q (Nat.lt_of_lt_of_le h1 hS.1)]
      exact hS.2.1 q h1 (by rw [eA]; exact h2)
  · rw [← eA]; exact hS.2.2
theorem G_throwW {τ : Type} {w : Wld} {X : Ctx} {z : (τ ⊕ Nat) × Mem} {cc : ByteArray} {nL : Nat} {ret : Option FieldType} {R : Room} {pc : Nat} {lv : List (Nat × Value)} {st : List Value} {μ : Mem} {K S k0 n0 : Nat} {QP : Ctx → Array Value → State → Outcome → State → Prop} {ik is ic si : Nat} {tx : String} (hX : Fx w X cc nL RX10 ret R) (hQ : Qy QP w X z K S) (hcs : cx_cells X = k0 ∧ cx_slots X = n0) (e : Nat) (he : e < 4) (hfit : Bundle.fit (exN e) = true) (hl : Cond.classLink RX10 ik (exN e) ∈ tb) (hi : Cond.initialized (exN e) ∈ tb) (hg : ∀ w ∈ (vx_atS RX10 ic (exN e) xnames).filter goodWord, w ∈ lw_tbl) (hb : ∀ w ∈ (vx_atS RX10 ic (exN e) xnames).filter (fun w => !goodWord w), w ∈ (.castable (exN e) (exN e) :: dcS.map (fun x => Cond.declares x))) (ho : ∀ w ∈ Cond.classLink RX10 ik (exN e) :: Cond.initialized (exN e) :: vx_atS RX10 ic (exN e) xnames, vx_ot w = true) (hr : (RX10, is, tx, si) ∈ refS) (hro : 5 < R.frames ∧ (st.map fun v => v.category).sum + 82 ≤ R.locals ∧ k0 + 1 ≤ R.cells ∧ n0 + 6 ≤ R.slots) (hk : k0 + 1 ≤ K ∧ n0 + 6 ≤ S) (d0 : decode cc pc = .ok (.new ik, 3)) (d3 : decode cc (pc + 3) = .ok (.dup, 1)) (d4 : decode cc (pc + 4) = .ok (.ldc_w is, 3)) (d6 : decode cc (pc + 7) = .ok (.invokespecial ic, 3)) (d9 : decode cc (pc + 10) = .ok (.athrow, 1)) : G w X z pc lv st μ (some (.inr e, μ)) := by
  intro h H locs ls hls hP hS
  cases h
  have eA := hX.2.2.2.2.2.2.2.2.2.2.2.2.2.1
  have eR := hX.2.2.2.2.2.2.2.2.2.2.2.1
  have eN := hX.2.2.2.2.2.2.2.2.2.2.2.2.1
  have hts := hX.2.2.2.2.1
  have hat : ∀ w ∈ vx_atS RX10 ic (exN e) xnames, w.before (cx_args X) (cx_s X) = true := by
    refine vx_hat (B := .castable (exN e) (exN e) :: dcS.map (fun x => Cond.declares x)) (fun w hw => hts w (tb_of (hg w hw) (List.mem_filter.mp hw).2)) hb ?_
    intro w hw
    rcases List.mem_cons.mp hw with e1 | hw
    · rw [e1]; exact va_tabs rfl rfl (hX.2.2.2.2.2.2.2.2.2.2.2.2.2.2.2.2.2.2.2.2.1 e he)
    · obtain ⟨x, hx, rfl⟩ := List.mem_map.mp hw
      exact va_tabs rfl rfl (hX.2.2.2.2.2.2.2.2.2.2.2.2.2.2.2.2.2.2.2.2.2.1 x hx)
  have hstr := hX.2.2.2.2.2.2.2.2.2.2.2.2.2.2.2.1 _ hr
  have hU := hX.2.2.2.2.2.2.2.2.2.2.2.2.2.2.2.2.2.2.1
  have hN := hX.2.2.2.2.2.2.2.2.2.2.2.2.2.2.2.2.2.2.2.1
  rw [show cx_Q X = _ from hQ.1, hcs.1, hcs.2]
  refine vx_throwSW (A := cx_A X) (names := xnames) hX.1 hX.2.1 hQ.2.1  hX.2.2.2.1 hfit xn_fit (hts _ hl) (hts _ hi) hstr hat ho hU hN hS (by rw [hX.2.2.1, ← eN]; exact hls.1) d0 d3 d4 d6 d9 (fun x hx => (hQ.2.2 x hx).elim) (by rw [eR]; exact hro.1) (by rw [eR]; exact hro.2.1) (by rw [eR]; exact hro.2.2.1) (by rw [eR]; exact hro.2.2.2) hX.2.2.2.2.2.2.2.2.2.1 ?_ ?_ hk.1 hk.2
  · intro t ht hz hq
    refine ⟨(), trivial, ⟨⟨e, he, rfl, rfl⟩, ?_⟩, ?_, ?_⟩
    · exact hP.kept (fun k q hk => hq q.1 (hP k q hk).lt)
    · exact Nat.le_trans hS.1 hz
    · intro q h1 h2
      rw [hq q (Nat.lt_of_lt_of_le h1 hS.1)]
      exact hS.2.1 q h1 (by rw [eA]; exact h2)
  · rw [← eA]; exact hS.2.2
theorem G_throwX {τ : Type} {w : Wld} {X : Ctx} {z : (τ ⊕ Nat) × Mem} {cc : ByteArray} {nL : Nat} {ret : Option FieldType} {R : Room} {pc : Nat} {lv : List (Nat × Value)} {st : List Value} {μ : Mem} {K S k0 n0 : Nat} {QP : Ctx → Array Value → State → Outcome → State → Prop} {ik is ic si : Nat} {tx : String} {Y0 : String} {r0 : List String} {ix : Nat} {rx : ByteArray} (x0 : decode rx 0 = .ok (.aload_n 0, 1)) (x1 : decode rx 1 = .ok (.aload_n 1, 1)) (x2 : decode rx 2 = .ok (.invokespecial ix, 3)) (x5 : decode rx 5 = .ok (.return_, 1)) (hfits : ∀ n ∈ (Y0 :: r0), Bundle.fit n = true) (hlen : (Y0 :: r0).length = 2) (hX : Fx w X cc nL RX10 ret R) (hQ : Qy QP w X z K S) (hcs : cx_cells X = k0 ∧ cx_slots X = n0) (e : Nat) (he : e < 4) (hfit : Bundle.fit (exN e) = true) (hl : Cond.classLink RX10 ik (exN e) ∈ tb) (hi : Cond.initialized (exN e) ∈ tb) (hg : ∀ w ∈ (xAt RX10 ic (exN e) ix rx Y0 r0).filter goodWord, w ∈ lw_tbl) (hb : ∀ w ∈ (xAt RX10 ic (exN e) ix rx Y0 r0).filter (fun w => !goodWord w), w ∈ (.castable (exN e) (exN e) :: dcS.map (fun x => Cond.declares x))) (ho : ∀ w ∈ Cond.classLink RX10 ik (exN e) :: Cond.initialized (exN e) :: xAt RX10 ic (exN e) ix rx Y0 r0, vx_ot w = true) (hr : (RX10, is, tx, si) ∈ refS) (hro : 5 < R.frames ∧ (st.map fun v => v.category).sum + 82 ≤ R.locals ∧ k0 + 1 ≤ R.cells ∧ n0 + 6 ≤ R.slots) (hk : k0 + 1 ≤ K ∧ n0 + 6 ≤ S) (d0 : decode cc pc = .ok (.new ik, 3)) (d3 : decode cc (pc + 3) = .ok (.dup, 1)) (d4 : decode cc (pc + 4) = .ok (.ldc is, 2)) (d6 : decode cc (pc + 6) = .ok (.invokespecial ic, 3)) (d9 : decode cc (pc + 9) = .ok (.athrow, 1)) : G w X z pc lv st μ (some (.inr e, μ)) := by
  intro h H locs ls hls hP hS
  cases h
  have eA := hX.2.2.2.2.2.2.2.2.2.2.2.2.2.1
  have eR := hX.2.2.2.2.2.2.2.2.2.2.2.1
  have eN := hX.2.2.2.2.2.2.2.2.2.2.2.2.1
  have hts := hX.2.2.2.2.1
  have hat : ∀ w ∈ xAt RX10 ic (exN e) ix rx Y0 r0, w.before (cx_args X) (cx_s X) = true := by
    refine vx_hat (B := .castable (exN e) (exN e) :: dcS.map (fun x => Cond.declares x)) (fun w hw => hts w (tb_of (hg w hw) (List.mem_filter.mp hw).2)) hb ?_
    intro w hw
    rcases List.mem_cons.mp hw with e1 | hw
    · rw [e1]; exact va_tabs rfl rfl (hX.2.2.2.2.2.2.2.2.2.2.2.2.2.2.2.2.2.2.2.2.1 e he)
    · obtain ⟨x, hx, rfl⟩ := List.mem_map.mp hw
      exact va_tabs rfl rfl (hX.2.2.2.2.2.2.2.2.2.2.2.2.2.2.2.2.2.2.2.2.2.1 x hx)
  have hstr := hX.2.2.2.2.2.2.2.2.2.2.2.2.2.2.2.1 _ hr
  have hU := hX.2.2.2.2.2.2.2.2.2.2.2.2.2.2.2.2.2.2.1
  have hN := hX.2.2.2.2.2.2.2.2.2.2.2.2.2.2.2.2.2.2.2.1
  rw [show cx_Q X = _ from hQ.1, hcs.1, hcs.2]
  refine vx_throwSX (A := cx_A X) (Y0 := Y0) (r0 := r0) hX.1 hX.2.1 hQ.2.1 x0 x1 x2 x5  hX.2.2.2.1 hfit hfits (hts _ hl) (hts _ hi) hstr hat ho hU hN hS (by rw [hX.2.2.1, ← eN]; exact hls.1) d0 d3 d4 d6 d9 (fun x hx => (hQ.2.2 x hx).elim) (by rw [eR, hlen]; exact hro.1) (by rw [eR, hlen]; exact hro.2.1) (by rw [eR]; exact hro.2.2.1) (by rw [eR]; exact hro.2.2.2) hX.2.2.2.2.2.2.2.2.2.1 ?_ ?_ hk.1 hk.2
  · intro t ht hz hq
    refine ⟨(), trivial, ⟨⟨e, he, rfl, rfl⟩, ?_⟩, ?_, ?_⟩
    · exact hP.kept (fun k q hk => hq q.1 (hP k q hk).lt)
    · exact Nat.le_trans hS.1 hz
    · intro q h1 h2
      rw [hq q (Nat.lt_of_lt_of_le h1 hS.1)]
      exact hS.2.1 q h1 (by rw [eA]; exact h2)
  · rw [← eA]; exact hS.2.2
theorem G_throwWX {τ : Type} {w : Wld} {X : Ctx} {z : (τ ⊕ Nat) × Mem} {cc : ByteArray} {nL : Nat} {ret : Option FieldType} {R : Room} {pc : Nat} {lv : List (Nat × Value)} {st : List Value} {μ : Mem} {K S k0 n0 : Nat} {QP : Ctx → Array Value → State → Outcome → State → Prop} {ik is ic si : Nat} {tx : String} {Y0 : String} {r0 : List String} {ix : Nat} {rx : ByteArray} (x0 : decode rx 0 = .ok (.aload_n 0, 1)) (x1 : decode rx 1 = .ok (.aload_n 1, 1)) (x2 : decode rx 2 = .ok (.invokespecial ix, 3)) (x5 : decode rx 5 = .ok (.return_, 1)) (hfits : ∀ n ∈ (Y0 :: r0), Bundle.fit n = true) (hlen : (Y0 :: r0).length = 2) (hX : Fx w X cc nL RX10 ret R) (hQ : Qy QP w X z K S) (hcs : cx_cells X = k0 ∧ cx_slots X = n0) (e : Nat) (he : e < 4) (hfit : Bundle.fit (exN e) = true) (hl : Cond.classLink RX10 ik (exN e) ∈ tb) (hi : Cond.initialized (exN e) ∈ tb) (hg : ∀ w ∈ (xAt RX10 ic (exN e) ix rx Y0 r0).filter goodWord, w ∈ lw_tbl) (hb : ∀ w ∈ (xAt RX10 ic (exN e) ix rx Y0 r0).filter (fun w => !goodWord w), w ∈ (.castable (exN e) (exN e) :: dcS.map (fun x => Cond.declares x))) (ho : ∀ w ∈ Cond.classLink RX10 ik (exN e) :: Cond.initialized (exN e) :: xAt RX10 ic (exN e) ix rx Y0 r0, vx_ot w = true) (hr : (RX10, is, tx, si) ∈ refS) (hro : 5 < R.frames ∧ (st.map fun v => v.category).sum + 82 ≤ R.locals ∧ k0 + 1 ≤ R.cells ∧ n0 + 6 ≤ R.slots) (hk : k0 + 1 ≤ K ∧ n0 + 6 ≤ S) (d0 : decode cc pc = .ok (.new ik, 3)) (d3 : decode cc (pc + 3) = .ok (.dup, 1)) (d4 : decode cc (pc + 4) = .ok (.ldc_w is, 3)) (d6 : decode cc (pc + 7) = .ok (.invokespecial ic, 3)) (d9 : decode cc (pc + 10) = .ok (.athrow, 1)) : G w X z pc lv st μ (some (.inr e, μ)) := by
  intro h H locs ls hls hP hS
  cases h
  have eA := hX.2.2.2.2.2.2.2.2.2.2.2.2.2.1
  have eR := hX.2.2.2.2.2.2.2.2.2.2.2.1
  have eN := hX.2.2.2.2.2.2.2.2.2.2.2.2.1
  have hts := hX.2.2.2.2.1
  have hat : ∀ w ∈ xAt RX10 ic (exN e) ix rx Y0 r0, w.before (cx_args X) (cx_s X) = true := by
    refine vx_hat (B := .castable (exN e) (exN e) :: dcS.map (fun x => Cond.declares x)) (fun w hw => hts w (tb_of (hg w hw) (List.mem_filter.mp hw).2)) hb ?_
    intro w hw
    rcases List.mem_cons.mp hw with e1 | hw
    · rw [e1]; exact va_tabs rfl rfl (hX.2.2.2.2.2.2.2.2.2.2.2.2.2.2.2.2.2.2.2.2.1 e he)
    · obtain ⟨x, hx, rfl⟩ := List.mem_map.mp hw
      exact va_tabs rfl rfl (hX.2.2.2.2.2.2.2.2.2.2.2.2.2.2.2.2.2.2.2.2.2.1 x hx)
  have hstr := hX.2.2.2.2.2.2.2.2.2.2.2.2.2.2.2.1 _ hr
  have hU := hX.2.2.2.2.2.2.2.2.2.2.2.2.2.2.2.2.2.2.1
  have hN := hX.2.2.2.2.2.2.2.2.2.2.2.2.2.2.2.2.2.2.2.1
  rw [show cx_Q X = _ from hQ.1, hcs.1, hcs.2]
  refine vx_throwSWX (A := cx_A X) (Y0 := Y0) (r0 := r0) hX.1 hX.2.1 hQ.2.1 x0 x1 x2 x5  hX.2.2.2.1 hfit hfits (hts _ hl) (hts _ hi) hstr hat ho hU hN hS (by rw [hX.2.2.1, ← eN]; exact hls.1) d0 d3 d4 d6 d9 (fun x hx => (hQ.2.2 x hx).elim) (by rw [eR, hlen]; exact hro.1) (by rw [eR, hlen]; exact hro.2.1) (by rw [eR]; exact hro.2.2.1) (by rw [eR]; exact hro.2.2.2) hX.2.2.2.2.2.2.2.2.2.1 ?_ ?_ hk.1 hk.2
  · intro t ht hz hq
    refine ⟨(), trivial, ⟨⟨e, he, rfl, rfl⟩, ?_⟩, ?_, ?_⟩
    · exact hP.kept (fun k q hk => hq q.1 (hP k q hk).lt)
    · exact Nat.le_trans hS.1 hz
    · intro q h1 h2
      rw [hq q (Nat.lt_of_lt_of_le h1 hS.1)]
      exact hS.2.1 q h1 (by rw [eA]; exact h2)
  · rw [← eA]; exact hS.2.2
theorem G_xV {τ : Type} {w : Wld} {X : Ctx} {z : (τ ⊕ Nat) × Mem} {cc cc2 : ByteArray} {nL nL2 np : Nat} {own : String} {ret : Option FieldType} {R rm : Room} {pc : Nat} {lv : List (Nat × Value)} {stk : List Value} {μ : Mem} {y : MethodName} {index : Nat} {K S K2 S2 k0 n0 : Nat} {QP : Ctx → Array Value → State → Outcome → State → Prop} {o2 : Option ((Unit ⊕ Nat) × Mem)} {k : Mem → Option ((τ ⊕ Nat) × Mem)} (hX : Fx w X cc nL own ret R) (hQ : Qy QP w X z K S) (hQP : ∀ k n, QP (cxs X k n) = QP X) (hcs : cx_cells X = k0 ∧ cx_slots X = n0) (b : Nat) (ci : Nat) (As : (Nat → Nat) → (Nat → Nat) → List Value) (rest : (Nat → Nat) → (Nat → Nat) → List Value) (lvf : (Nat → Nat) → (Nat → Nat) → List (Nat × Value)) (hM : ∀ z2, o2 = some z2 → Ev w (cx_l X) y cc2 nL2 rm K2 S2 (fun ad adK => .ref (ad b) :: As ad adK) μ z2) (ok : OkV y cc2 nL2 none np) (hlk : Cond.methodLink own index y ∈ tb) (hb : b < w.1) (hk : w.2.1 b = .inl ci) (hC : (vwCl[ci]?).map (fun q => q.1) = some y.cls) (hlv : lv = lvf (cx_ad X) (cx_adK X)) (hst : stk = (As (cx_ad X) (cx_adK X)).reverse ++ .ref (cx_ad X b) :: rest (cx_ad X) (cx_adK X)) (hnp : ∀ a b, (As a b).length = np) (hro : ∀ a b, ((rest a b).map fun v => v.category).sum ≤ 8) (hr : rm.cells = K2 ∧ rm.slots = S2 ∧ rm.frames + 1 ≤ R.frames ∧ 8 + (nL2 + 11) + rm.locals ≤ R.locals) (hcs2 : k0 + K2 ≤ R.cells ∧ n0 + S2 ≤ R.slots) (hKS : k0 + K2 ≤ K ∧ n0 + S2 ≤ S) (d : decode cc pc = .ok (.invokevirtual index, 3)) (kk : ∀ (X : Ctx) (μ1 : Mem), Fx w X cc nL own ret R → Qy QP w X z K S → cx_cells X = k0 + K2 ∧ cx_slots X = n0 + S2 → G w X z (pc + 3) (lvf (cx_ad X) (cx_adK X)) (rest (cx_ad X) (cx_adK X)) μ1 (k μ1)) : G w X z pc lv stk μ (bx o2 k) := by
  intro h H locs ls hl hP hS
  obtain ⟨z2, hz2, h⟩ := Option.bind_eq_some_iff.mp h
  have hM := hM z2 hz2 (cx_D X) (cx_cA X) (cx_ad X) (cx_adK X) (cx_adV X) H.size
  have eA := hX.2.2.2.2.2.2.2.2.2.2.2.2.2.1
  have eR := hX.2.2.2.2.2.2.2.2.2.2.2.1
  have hF : ∀ q, AA w (cx_ad X) H.size q → cx_A X q := by rw [eA]; exact AA_sub hS.1
  have hts := hX.2.2.2.2.1
  subst hst
  subst hlv
  obtain ⟨k1, k2, k3, k4, k5⟩ := ok
  have cw : CallW (cx_R X) (cx_s X) (cx_args X) own y.cls index y cc2 nL2 none (.code y cc2 nL2 none :: tb) rm K2 S2 np := ⟨callB_of np hts (code_tb k4) rfl hr.1 hr.2.1 (hts _ k3) (hts _ hlk) k5 (by rw [eR]; exact hr.2.2), hts _ k1, hts _ k2⟩
  have hrc : ∃ cell : Cell, H[cx_ad X b]? = some cell ∧ cell.vm.isStatics = false ∧ (cx_s X).vm.findClass y.cls = some cell.cls := by
    obtain ⟨q, hq, e⟩ := Option.map_eq_some_iff.mp hC
    rw [← e]
    exact va_recv hX.2.2.2.2.2.1 hP hq (q0 := b) (by rw [wld_at hb, wcell_obj hk])
  have run := vx_runV (p := cx_p X) (l := cx_l X) (e := cx_e X) (R := cx_R X) (s := cx_s X) (m := cx_m X) (args := cx_args X) (below := cx_below X) (meth := cx_meth X) (c := cx_c X) (H := H) (locs := locs) (cells := cx_cells X) (slots := cx_slots X) (b := cx_ad X b) (As := As (cx_ad X) (cx_adK X)) (rest := rest (cx_ad X) (cx_adK X)) (g := F0 (cx_m X) pc ls ((As (cx_ad X) (cx_adK X)).reverse ++ .ref (cx_ad X b) :: rest (cx_ad X) (cx_adK X))) ⟨hX.1, hX.2.1, hX.2.2.1, hX.2.2.2.1, hts⟩ hM cw ⟨PW.blind, hrc, fun U hU hW => ⟨rfl, PW.go hX hP hS hU hW⟩⟩ rfl (hnp _ _) (by rw [← hX.2.2.2.2.2.2.2.2.2.2.2.2.1]; exact hl.1) rfl (lv_room (hro _ _)) d (by rw [eR, hcs.1, hcs.2]; exact hcs2)
  refine vx_callv run hS (fun q _ h => hF q h) hF (fun q _ h => hF q h) ?_ ?_
  · intro E ce q9 u t H1 locs1 ht hvm hp hB hz1 hk1 hS1 hce hcv hcl
    obtain ⟨⟨e, he, e1, e2⟩, hP1⟩ := hB
    rw [ht] at hP1
    rw [e1] at h
    cases h
    rw [show cx_Q X = _ from hQ.1, hcs.1, hcs.2]
    refine vx_out (fun x hx => (hQ.2.2 x hx).elim) hX.2.2.2.2.2.2.2.2.2.1 hce hcv hcl ?_ (by rw [← eA]; exact hS1.2.2) hKS.1 hKS.2
    intro t9 ht9 _
    refine ⟨(), trivial, ⟨⟨e, he, rfl, e2⟩, by show va_P _ _ _ t9.heap; rw [ht9]; exact hP1⟩, ?_, ?_⟩
    · rw [ht9]; exact hS1.1
    · intro q h1 h2
      rw [ht9]
      exact hS1.2.1 q h1 (by rw [eA]; exact h2)
  · intro u t H1 locs1 ht hvm hw hB hz1 hk1 hS1
    rw [ht] at hB
    rw [hw] at h
    have hQ1 : Qy QP w (cxs X (k0 + K2) (n0 + S2)) z K S := by
      refine ⟨?_, hQ.2⟩
      show cx_Q X = _
      rw [hQ.1, hQP]
      rfl
    rw [hcs.1, hcs.2]
    exact kk (cxs X (k0 + K2) (n0 + S2)) z2.2 hX hQ1 ⟨rfl, rfl⟩ h H1 locs1 ls hl hB hS1
theorem G_xS {τ : Type} {w : Wld} {X : Ctx} {z : (τ ⊕ Nat) × Mem} {cc cc2 : ByteArray} {nL nL2 np : Nat} {own : String} {ret : Option FieldType} {R rm : Room} {pc : Nat} {lv : List (Nat × Value)} {stk : List Value} {μ : Mem} {y : MethodName} {index : Nat} {K S K2 S2 k0 n0 : Nat} {QP : Ctx → Array Value → State → Outcome → State → Prop} {o2 : Option ((Unit ⊕ Nat) × Mem)} {k : Mem → Option ((τ ⊕ Nat) × Mem)} (hX : Fx w X cc nL own ret R) (hQ : Qy QP w X z K S) (hQP : ∀ k n, QP (cxs X k n) = QP X) (hcs : cx_cells X = k0 ∧ cx_slots X = n0) (As : (Nat → Nat) → (Nat → Nat) → List Value) (rest : (Nat → Nat) → (Nat → Nat) → List Value) (lvf : (Nat → Nat) → (Nat → Nat) → List (Nat × Value)) (hM : ∀ z2, o2 = some z2 → Ev w (cx_l X) y cc2 nL2 rm K2 S2 As μ z2) (ok : OkS y cc2 nL2 none np) (hlk : Cond.methodLink own index y ∈ tb) (hlv : lv = lvf (cx_ad X) (cx_adK X)) (hst : stk = (As (cx_ad X) (cx_adK X)).reverse ++ rest (cx_ad X) (cx_adK X)) (hnp : ∀ a b, (As a b).length = np) (hro : ∀ a b, ((rest a b).map fun v => v.category).sum ≤ 8) (hr : rm.cells = K2 ∧ rm.slots = S2 ∧ rm.frames + 1 ≤ R.frames ∧ 8 + (nL2 + 11) + rm.locals ≤ R.locals) (hcs2 : k0 + K2 ≤ R.cells ∧ n0 + S2 ≤ R.slots) (hKS : k0 + K2 ≤ K ∧ n0 + S2 ≤ S) (d : decode cc pc = .ok (.invokestatic index, 3)) (kk : ∀ (X : Ctx) (μ1 : Mem), Fx w X cc nL own ret R → Qy QP w X z K S → cx_cells X = k0 + K2 ∧ cx_slots X = n0 + S2 → G w X z (pc + 3) (lvf (cx_ad X) (cx_adK X)) (rest (cx_ad X) (cx_adK X)) μ1 (k μ1)) : G w X z pc lv stk μ (bx o2 k) := by
  intro h H locs ls hl hP hS
  obtain ⟨z2, hz2, h⟩ := Option.bind_eq_some_iff.mp h
  have hM := hM z2 hz2 (cx_D X) (cx_cA X) (cx_ad X) (cx_adK X) (cx_adV X) H.size
  have eA := hX.2.2.2.2.2.2.2.2.2.2.2.2.2.1
  have eR := hX.2.2.2.2.2.2.2.2.2.2.2.1
  have hF : ∀ q, AA w (cx_ad X) H.size q → cx_A X q := by rw [eA]; exact AA_sub hS.1
  have hts := hX.2.2.2.2.1
  subst hst
  subst hlv
  obtain ⟨k1, k3, k4, k5⟩ := ok
  have cw : CallB (cx_R X) (cx_s X) (cx_args X) own index y cc2 nL2 none (.code y cc2 nL2 none :: tb) rm K2 S2 np ∧ (Cond.static y).before (cx_args X) (cx_s X) = true := ⟨callB_of np hts (code_tb k4) rfl hr.1 hr.2.1 (hts _ k3) (hts _ hlk) k5 (by rw [eR]; exact hr.2.2), hts _ k1⟩
  have run := vx_runS (p := cx_p X) (l := cx_l X) (e := cx_e X) (R := cx_R X) (s := cx_s X) (m := cx_m X) (args := cx_args X) (below := cx_below X) (meth := cx_meth X) (c := cx_c X) (H := H) (locs := locs) (cells := cx_cells X) (slots := cx_slots X) (As := As (cx_ad X) (cx_adK X)) (rest := rest (cx_ad X) (cx_adK X)) (g := F0 (cx_m X) pc ls ((As (cx_ad X) (cx_adK X)).reverse ++ rest (cx_ad X) (cx_adK X))) ⟨hX.1, hX.2.1, hX.2.2.1, hX.2.2.2.1, hts⟩ hM cw ⟨PW.blind, fun U hU hW => ⟨rfl, PW.go hX hP hS hU hW⟩⟩ rfl (hnp _ _) (by rw [← hX.2.2.2.2.2.2.2.2.2.2.2.2.1]; exact hl.1) rfl (lv_room (hro _ _)) d (by rw [eR, hcs.1, hcs.2]; exact hcs2)
  refine vx_callv run hS (fun q _ h => hF q h) hF (fun q _ h => hF q h) ?_ ?_
  · intro E ce q9 u t H1 locs1 ht hvm hp hB hz1 hk1 hS1 hce hcv hcl
    obtain ⟨⟨e, he, e1, e2⟩, hP1⟩ := hB
    rw [ht] at hP1
    rw [e1] at h
    cases h
    rw [show cx_Q X = _ from hQ.1, hcs.1, hcs.2]
    refine vx_out (fun x hx => (hQ.2.2 x hx).elim) hX.2.2.2.2.2.2.2.2.2.1 hce hcv hcl ?_ (by rw [← eA]; exact hS1.2.2) hKS.1 hKS.2
    intro t9 ht9 _
    refine ⟨(), trivial, ⟨⟨e, he, rfl, e2⟩, by show va_P _ _ _ t9.heap; rw [ht9]; exact hP1⟩, ?_, ?_⟩
    · rw [ht9]; exact hS1.1
    · intro q h1 h2
      rw [ht9]
      exact hS1.2.1 q h1 (by rw [eA]; exact h2)
  · intro u t H1 locs1 ht hvm hw hB hz1 hk1 hS1
    rw [ht] at hB
    rw [hw] at h
    have hQ1 : Qy QP w (cxs X (k0 + K2) (n0 + S2)) z K S := by
      refine ⟨?_, hQ.2⟩
      show cx_Q X = _
      rw [hQ.1, hQP]
      rfl
    rw [hcs.1, hcs.2]
    exact kk (cxs X (k0 + K2) (n0 + S2)) z2.2 hX hQ1 ⟨rfl, rfl⟩ h H1 locs1 ls hl hB hS1
theorem xfits : ∀ n ∈ ("java/lang/RuntimeException" :: ["java/lang/Exception"]), Bundle.fit n = true := by decide +kernel
theorem xd_0 : decode prog_29_method_4_code 0 = .ok (.aload_n 0, 1) := by decide +kernel
theorem xd_1 : decode prog_29_method_4_code 1 = .ok (.aload_n 1, 1) := by decide +kernel
theorem xd_2 : decode prog_29_method_4_code 2 = .ok (.invokespecial 13, 3) := by decide +kernel
theorem xd_5 : decode prog_29_method_4_code 5 = .ok (.return_, 1) := by decide +kernel
