def rmo (f lo : Nat) : Room := { frames := f, cells := 0, slots := 0, locals := lo }
theorem cs0 {X : Ctx} (h : cx_cells X = 0 ∧ cx_slots X = 0) {R : Room} : cx_cells X + 0 ≤ R.cells ∧ cx_slots X + 0 ≤ R.slots := by rw [h.1, h.2]; exact ⟨Nat.zero_le _, Nat.zero_le _⟩
section
variable {α : Type} {w : Wld} {X : Ctx} {z : α × Mem} {cc : ByteArray} {nL : Nat} {own : String} {ret : Option FieldType} {R : Room} {pc : Nat} {lv : List (Nat × Value)} {st : List Value} {μ : Mem} {o : Option (α × Mem)}
theorem G_iincN (hX : Fx w X cc nL own ret R) {n : Nat} {i : Int} {y c : Int32} {k : Int32 → Option (α × Mem)} (q : Nat) (lv' : Int32 → List (Nat × Value)) (hq : lv[q]? = some (n, .int y)) (hv : Int32.ofInt i = c) (hn : n < nL) (hl9 : ∀ x : Int32, (n, Value.int x) :: lv.filter (fun q => !(q.1 == n) && !(q.1 + 1 == n && q.2.category == 2)) = lv' x) (d : decode cc pc = .ok (.iinc n i, 3)) (kk : ∀ x, G w X z (pc + 3) (lv' x) st μ (k x)) : G w X z pc lv st μ (nm (y + c) k) := by
  subst hv
  exact G_iinc hX q (lv' _) hq rfl hn (hl9 _) d (kk _)
theorem G_zretZ {z : Int32 × Mem} {v : Int32} (hX : Fx w X cc nL own (some .boolean) R) (hQ : Qx_i w X z) (d : decode cc pc = .ok (.ireturn, 1)) : G w X z pc lv [.int v] μ (zr v (some (v, μ))) := G_zretG hX hQ d
theorem G_putZ (hX : Fx w X cc nL own ret R) {C ref n dd : String} {T : u_T} {N index : Nat} {a j : Nat} {v : Int32} (hz : narrow .boolean (.int v) = .int v ∧ fits .boolean (.int v) = true) (ci : Nat) (hcl : vwCl[ci]? = some (C, T, N)) (hin : ∀ w ∈ u_ws C T N, w ∈ tb) (ty : Nat → FieldType) (hty : ∀ k, k < N → parseFieldDescriptor (T k).2.2.1 = some (ty k)) (hnm : ∀ a, a < N → ∀ b, b < N → a ≠ b → (T a).2.1 ≠ (T b).2.1) (ha : a < w.1) (hk : w.2.1 a = .inl ci) (hj : (tyf ci)[j]? = some 0) (hT : (T j).1 = ref ∧ (T j).2.1 = n ∧ (T j).2.2.1 = dd ∧ (T j).2.2.2 = false ∧ ty j = .boolean) (hjN : j < N) (hlk : Cond.fieldLink own index ref n dd ∈ tb) (d : decode cc pc = .ok (.putfield index, 3)) (k : G w X z (pc + 3) lv st (stI μ a j v) o) : G w X z pc lv (.int v :: .ref (cx_ad X a) :: st) μ o := by
  intro h H locs ls hl hP hS
  obtain ⟨h1, h2, h3, h4, h5⟩ := hT
  subst h1; subst h2; subst h3
  have hlen : j < ((tyf ci).mapIdx (fun j t => fval w.2.2 (cx_ad X) μ a j t)).length := by rw [List.length_mapIdx]; exact (List.getElem?_eq_some_iff.mp hj).1
  refine va_put (q0 := a) (ci := ci) (ty := .boolean) (fs := (tyf ci).mapIdx (fun j t => fval w.2.2 (cx_ad X) μ a j t)) hX.1 hX.2.1 hX.2.2.2.2.1 hin ty hty hnm hX.2.2.2.1 hX.2.2.2.2.2.1 hP (wld_D hX.2.2.2.2.2.2.2.1 hX.2.2.2.2.2.2.2.2.1) hS (by rw [wld_at ha, wcell_obj hk]) hcl j hjN (hX.2.2.2.2.1 _ hlk) (fun _ h9 => h9) h4 (by rw [hty j hjN, h5]) hz.1 hz.2 hlen d (fun H1 locs1 hP1 _ hS1 => k h H1 locs1 ls hl ?_ hS1)
  have e : (wld w (cx_cA X) (cx_ad X) μ).set a (cx_ad X a, .inr (ci, ((tyf ci).mapIdx (fun j t => fval w.2.2 (cx_ad X) μ a j t)).set j (.int v))) = wld w (cx_cA X) (cx_ad X) (stI μ a j v) := by
    refine wld_set (fun q hq => wcell_oth ?_ ?_ ?_) ?_
    · exact stI_ne hq
    · rfl
    · rfl
    · rw [wcell_obj hk]
      congr 2
      refine (mapIdx_set (fun i t hi => ?_) (fun t ht => ?_)).symm
      · simp [fval, stI, hi]
      · rw [hj] at ht; cases ht; simp [fval, stI]
  rw [← e]; exact hP1
theorem G_ldcS (hX : Fx w X cc nL own ret R) {index : Nat} {tx : String} (i : Nat) (hr : (own, index, tx, i) ∈ refS) (d : decode cc pc = .ok (.ldc index, 2)) (k : G w X z (pc + 2) lv (.ref (cx_adK X i) :: st) μ o) : G w X z pc lv st μ o := by
  intro h H locs ls hl hP hS
  exact va_ldcS hX.1 hX.2.1 hX.2.2.2.1 (hX.2.2.2.2.2.2.2.2.2.2.2.2.2.2.2.1 _ hr) d (k h H locs ls hl hP hS)
end
theorem Met.ofWF {l : Launch} {y : MethodName} {ws ws' : List Cond} {rm : Room} {Pc : Array Value → State → Prop} {Qc : Array Value → State → Outcome → State → Prop} {mc ms : Nat} {free : Addr → Prop} {cc : ByteArray} {maxL : Nat} {ret : Option FieldType}
    (hy : plainFor y = true) (hw : ws = Cond.code y cc maxL ret :: ws')
    (body : ∀ p e s m args below meth c s₁, BodyLoose p l y (headSpec ws rm) cc maxL ret e s m args below meth c s₁ → c.maxLocals = maxL → Pc args s →
      W p l e (headSpec ws rm).room s m args below meth c s.heap [] 0 0 (MQ below Qc args s mc ms free) (entryFrame m args maxL)) : Met l y ws rm Pc Qc mc ms free := by
  refine MetFree.of_bodySF (code := cc) (maxLocals := maxL) (ret := ret) hy ?_ ?_
  · intro args s m h hn
    obtain ⟨meth, c, h1, h2, h3, h4, h5, h6, -, -⟩ := Cond.code_spec hn (atoms_spec (ws := ws) h _ (by rw [hw]; exact List.mem_cons_self))
    exact ⟨meth, c, h1, h2, h3, h4, h5, h6⟩
  · intro p e s m args below meth c s₁ B hml hP _
    have hh0 : s₁.heap = s.heap := by rw [B.state]; rfl
    obtain ⟨t, a1, o, b1, b2, b3⟩ := body p e s m args below meth c s₁ B hml hP s₁ hh0 (Stand.of_body B)
    exact ⟨t, o, a1, b1, b2, ⟨b3.1, b3.2⟩⟩
theorem Mi.ofF {w : Wld} {l : Launch} {y : MethodName} {cc : ByteArray} {nL : Nat} {ret : FieldType} {rm : Room} {av : (Nat → Nat) → (Nat → Nat) → List Value} {μ : Mem} {z : Int32 × Mem} {o : Option (Int32 × Mem)} (hf : o = some z) (hy : plainFor y = true) (hn : ∀ ad adK, (lg_sl (av ad adK)).length ≤ nL) (body : ∀ X : Ctx, Fx w X cc nL y.cls (some ret) rm → Qx_i w X z → cx_l X = l → cx_cells X = 0 ∧ cx_slots X = 0 → G w X z 0 (lv_args 0 (av (cx_ad X) (cx_adK X))) [] μ o) : Mi w l y cc nL ret rm av μ z := by
  intro D cA ad adK adV sz
  refine Met.ofWF (cc := cc) (maxL := nL) (ret := (some ret)) hy rfl ?_
  intro p e s m args below meth c s₁ B hml hv
  obtain ⟨rfl, hsz, hP, hK, hi, hst⟩ := hv
  subst hsz
  have hts := atoms_spec (ws := .code y cc nL (some ret) :: tb) B.pre
  let X : Ctx := (p, l, e, (headSpec (.code y cc nL (some ret) :: tb) rm).room, s, m, (av ad adK).toArray, below, meth, c, 0, 0, MQ below (Qc_i w D cA ad s.heap.size z) (av ad adK).toArray s 0 0 (AA w ad s.heap.size), D, cA, ad, AA w ad s.heap.size, nL, adK, adV)
  have hX : Fx w X cc nL y.cls (some ret) rm := ⟨B.exec, B.bytes, hml, findClass_of_methodNamed B.named, fun q hq => hts q (List.mem_cons_of_mem _ hq), hK, fun q h => Or.inr h, hi, fun k hk => Or.inl ⟨k, hk, rfl⟩, B.notSynchronized, B.returns, rfl, rfl, rfl, hst⟩
  have hl := lv_entry (av ad adK) (n := nL) (hn ad adK)
  rw [lg_entry_eq]
  exact body X hX rfl rfl ⟨rfl, rfl⟩ hf s.heap [] _ hl hP va_S.rf
theorem Ml.ofF {w : Wld} {l : Launch} {y : MethodName} {cc : ByteArray} {nL : Nat} {ret : FieldType} {rm : Room} {av : (Nat → Nat) → (Nat → Nat) → List Value} {μ : Mem} {z : Int64 × Mem} {o : Option (Int64 × Mem)} (hf : o = some z) (hy : plainFor y = true) (hn : ∀ ad adK, (lg_sl (av ad adK)).length ≤ nL) (body : ∀ X : Ctx, Fx w X cc nL y.cls (some ret) rm → Qx_l w X z → cx_l X = l → cx_cells X = 0 ∧ cx_slots X = 0 → G w X z 0 (lv_args 0 (av (cx_ad X) (cx_adK X))) [] μ o) : Ml w l y cc nL ret rm av μ z := by
  intro D cA ad adK adV sz
  refine Met.ofWF (cc := cc) (maxL := nL) (ret := (some ret)) hy rfl ?_
  intro p e s m args below meth c s₁ B hml hv
  obtain ⟨rfl, hsz, hP, hK, hi, hst⟩ := hv
  subst hsz
  have hts := atoms_spec (ws := .code y cc nL (some ret) :: tb) B.pre
  let X : Ctx := (p, l, e, (headSpec (.code y cc nL (some ret) :: tb) rm).room, s, m, (av ad adK).toArray, below, meth, c, 0, 0, MQ below (Qc_l w D cA ad s.heap.size z) (av ad adK).toArray s 0 0 (AA w ad s.heap.size), D, cA, ad, AA w ad s.heap.size, nL, adK, adV)
  have hX : Fx w X cc nL y.cls (some ret) rm := ⟨B.exec, B.bytes, hml, findClass_of_methodNamed B.named, fun q hq => hts q (List.mem_cons_of_mem _ hq), hK, fun q h => Or.inr h, hi, fun k hk => Or.inl ⟨k, hk, rfl⟩, B.notSynchronized, B.returns, rfl, rfl, rfl, hst⟩
  have hl := lv_entry (av ad adK) (n := nL) (hn ad adK)
  rw [lg_entry_eq]
  exact body X hX rfl rfl ⟨rfl, rfl⟩ hf s.heap [] _ hl hP va_S.rf
theorem Mv.ofF {w : Wld} {l : Launch} {y : MethodName} {cc : ByteArray} {nL : Nat} {rm : Room} {av : (Nat → Nat) → (Nat → Nat) → List Value} {μ : Mem} {z : Unit × Mem} {o : Option (Unit × Mem)} (hf : o = some z) (hy : plainFor y = true) (hn : ∀ ad adK, (lg_sl (av ad adK)).length ≤ nL) (body : ∀ X : Ctx, Fx w X cc nL y.cls none rm → Qx_v w X z → cx_l X = l → cx_cells X = 0 ∧ cx_slots X = 0 → G w X z 0 (lv_args 0 (av (cx_ad X) (cx_adK X))) [] μ o) : Mv w l y cc nL rm av μ z := by
  intro D cA ad adK adV sz
  refine Met.ofWF (cc := cc) (maxL := nL) (ret := none) hy rfl ?_
  intro p e s m args below meth c s₁ B hml hv
  obtain ⟨rfl, hsz, hP, hK, hi, hst⟩ := hv
  subst hsz
  have hts := atoms_spec (ws := .code y cc nL none :: tb) B.pre
  let X : Ctx := (p, l, e, (headSpec (.code y cc nL none :: tb) rm).room, s, m, (av ad adK).toArray, below, meth, c, 0, 0, MQ below (Qc_v w D cA ad s.heap.size z) (av ad adK).toArray s 0 0 (AA w ad s.heap.size), D, cA, ad, AA w ad s.heap.size, nL, adK, adV)
  have hX : Fx w X cc nL y.cls none rm := ⟨B.exec, B.bytes, hml, findClass_of_methodNamed B.named, fun q hq => hts q (List.mem_cons_of_mem _ hq), hK, fun q h => Or.inr h, hi, fun k hk => Or.inl ⟨k, hk, rfl⟩, B.notSynchronized, B.returns, rfl, rfl, rfl, hst⟩
  have hl := lv_entry (av ad adK) (n := nL) (hn ad adK)
  rw [lg_entry_eq]
  exact body X hX rfl rfl ⟨rfl, rfl⟩ hf s.heap [] _ hl hP va_S.rf
theorem G_lxor {α : Type} {w : Wld} {X : Ctx} {z : α × Mem} {cc : ByteArray} {nL : Nat} {own : String} {ret : Option FieldType} {R : Room} {pc : Nat} {lv : List (Nat × Value)} {st : List Value} {μ : Mem} {o : Option (α × Mem)} (hX : Fx w X cc nL own ret R) {x y : Int64} (d : decode cc pc = .ok (.lxor, 1)) (k : G w X z (pc + 1) lv (.long (x ^^^ y) :: st) μ o) : G w X z pc lv (.long y :: .long x :: st) μ o := by
  intro h H locs ls hl hP hS
  exact lv_lxor hX.1 hX.2.1 d (k h H locs ls hl hP hS)
theorem G_cVi {α : Type} {w : Wld} {X : Ctx} {z : α × Mem} {cc cc2 : ByteArray} {nL nL2 np : Nat} {own : String} {ret : Option FieldType} {R rm : Room} {pc : Nat} {lv : List (Nat × Value)} {stk : List Value} {μ : Mem} {y : MethodName} {index : Nat} {rt : FieldType} {o2 : Option (Int32 × Mem)} {k : Int32 → Mem → Option (α × Mem)} (hX : Fx w X cc nL own ret R) (b : Nat) (ci : Nat) (As : (Nat → Nat) → (Nat → Nat) → List Value) (rest : List Value) (hM : ∀ z2, o2 = some z2 → Mi w (cx_l X) y cc2 nL2 rt rm (fun ad adK => .ref (ad b) :: As ad adK) μ z2) (ok : OkV y cc2 nL2 (some rt) np) (hlk : Cond.methodLink own index y ∈ tb) (hb : b < w.1) (hk : w.2.1 b = .inl ci) (hC : (vwCl[ci]?).map (fun q => q.1) = some y.cls) (hst : stk = (As (cx_ad X) (cx_adK X)).reverse ++ .ref (cx_ad X b) :: rest) (hnp : ∀ a b, (As a b).length = np) (hro : (rest.map fun v => v.category).sum ≤ 8) (hr : rm.cells = 0 ∧ rm.slots = 0 ∧ rm.frames + 1 ≤ R.frames ∧ 8 + (nL2 + 11) + rm.locals ≤ R.locals) (hcs : cx_cells X + 0 ≤ R.cells ∧ cx_slots X + 0 ≤ R.slots) (d : decode cc pc = .ok (.invokevirtual index, 3)) (kk : ∀ (r : Int32) (μ1 : Mem), G w X z (pc + 3) lv (.int r :: rest) μ1 (k r μ1)) : G w X z pc lv stk μ (bd o2 k) := G_callVi hX b ci As rest hM ok hlk hb hk hC hst hnp hro hr hcs d kk
theorem G_cSi {α : Type} {w : Wld} {X : Ctx} {z : α × Mem} {cc cc2 : ByteArray} {nL nL2 np : Nat} {own : String} {ret : Option FieldType} {R rm : Room} {pc : Nat} {lv : List (Nat × Value)} {stk : List Value} {μ : Mem} {y : MethodName} {index : Nat} {rt : FieldType} {o2 : Option (Int32 × Mem)} {k : Int32 → Mem → Option (α × Mem)} (hX : Fx w X cc nL own ret R) (As : (Nat → Nat) → (Nat → Nat) → List Value) (rest : List Value) (hM : ∀ z2, o2 = some z2 → Mi w (cx_l X) y cc2 nL2 rt rm As μ z2) (ok : OkS y cc2 nL2 (some rt) np) (hlk : Cond.methodLink own index y ∈ tb) (hst : stk = (As (cx_ad X) (cx_adK X)).reverse ++ rest) (hnp : ∀ a b, (As a b).length = np) (hro : (rest.map fun v => v.category).sum ≤ 8) (hr : rm.cells = 0 ∧ rm.slots = 0 ∧ rm.frames + 1 ≤ R.frames ∧ 8 + (nL2 + 11) + rm.locals ≤ R.locals) (hcs : cx_cells X + 0 ≤ R.cells ∧ cx_slots X + 0 ≤ R.slots) (d : decode cc pc = .ok (.invokestatic index, 3)) (kk : ∀ (r : Int32) (μ1 : Mem), G w X z (pc + 3) lv (.int r :: rest) μ1 (k r μ1)) : G w X z pc lv stk μ (bd o2 k) := G_callSi hX As rest hM ok hlk hst hnp hro hr hcs d kk
theorem G_cVl {α : Type} {w : Wld} {X : Ctx} {z : α × Mem} {cc cc2 : ByteArray} {nL nL2 np : Nat} {own : String} {ret : Option FieldType} {R rm : Room} {pc : Nat} {lv : List (Nat × Value)} {stk : List Value} {μ : Mem} {y : MethodName} {index : Nat} {rt : FieldType} {o2 : Option (Int64 × Mem)} {k : Int64 → Mem → Option (α × Mem)} (hX : Fx w X cc nL own ret R) (b : Nat) (ci : Nat) (As : (Nat → Nat) → (Nat → Nat) → List Value) (rest : List Value) (hM : ∀ z2, o2 = some z2 → Ml w (cx_l X) y cc2 nL2 rt rm (fun ad adK => .ref (ad b) :: As ad adK) μ z2) (ok : OkV y cc2 nL2 (some rt) np) (hlk : Cond.methodLink own index y ∈ tb) (hb : b < w.1) (hk : w.2.1 b = .inl ci) (hC : (vwCl[ci]?).map (fun q => q.1) = some y.cls) (hst : stk = (As (cx_ad X) (cx_adK X)).reverse ++ .ref (cx_ad X b) :: rest) (hnp : ∀ a b, (As a b).length = np) (hro : (rest.map fun v => v.category).sum ≤ 8) (hr : rm.cells = 0 ∧ rm.slots = 0 ∧ rm.frames + 1 ≤ R.frames ∧ 8 + (nL2 + 11) + rm.locals ≤ R.locals) (hcs : cx_cells X + 0 ≤ R.cells ∧ cx_slots X + 0 ≤ R.slots) (d : decode cc pc = .ok (.invokevirtual index, 3)) (kk : ∀ (r : Int64) (μ1 : Mem), G w X z (pc + 3) lv (.long r :: rest) μ1 (k r μ1)) : G w X z pc lv stk μ (bd o2 k) := G_callVl hX b ci As rest hM ok hlk hb hk hC hst hnp hro hr hcs d kk
theorem G_cSl {α : Type} {w : Wld} {X : Ctx} {z : α × Mem} {cc cc2 : ByteArray} {nL nL2 np : Nat} {own : String} {ret : Option FieldType} {R rm : Room} {pc : Nat} {lv : List (Nat × Value)} {stk : List Value} {μ : Mem} {y : MethodName} {index : Nat} {rt : FieldType} {o2 : Option (Int64 × Mem)} {k : Int64 → Mem → Option (α × Mem)} (hX : Fx w X cc nL own ret R) (As : (Nat → Nat) → (Nat → Nat) → List Value) (rest : List Value) (hM : ∀ z2, o2 = some z2 → Ml w (cx_l X) y cc2 nL2 rt rm As μ z2) (ok : OkS y cc2 nL2 (some rt) np) (hlk : Cond.methodLink own index y ∈ tb) (hst : stk = (As (cx_ad X) (cx_adK X)).reverse ++ rest) (hnp : ∀ a b, (As a b).length = np) (hro : (rest.map fun v => v.category).sum ≤ 8) (hr : rm.cells = 0 ∧ rm.slots = 0 ∧ rm.frames + 1 ≤ R.frames ∧ 8 + (nL2 + 11) + rm.locals ≤ R.locals) (hcs : cx_cells X + 0 ≤ R.cells ∧ cx_slots X + 0 ≤ R.slots) (d : decode cc pc = .ok (.invokestatic index, 3)) (kk : ∀ (r : Int64) (μ1 : Mem), G w X z (pc + 3) lv (.long r :: rest) μ1 (k r μ1)) : G w X z pc lv stk μ (bd o2 k) := G_callSl hX As rest hM ok hlk hst hnp hro hr hcs d kk
theorem G_cVv {α : Type} {w : Wld} {X : Ctx} {z : α × Mem} {cc cc2 : ByteArray} {nL nL2 np : Nat} {own : String} {ret : Option FieldType} {R rm : Room} {pc : Nat} {lv : List (Nat × Value)} {stk : List Value} {μ : Mem} {y : MethodName} {index : Nat} {o2 : Option (Unit × Mem)} {k : Mem → Option (α × Mem)} (hX : Fx w X cc nL own ret R) (b : Nat) (ci : Nat) (As : (Nat → Nat) → (Nat → Nat) → List Value) (rest : List Value) (hM : ∀ z2, o2 = some z2 → Mv w (cx_l X) y cc2 nL2 rm (fun ad adK => .ref (ad b) :: As ad adK) μ z2) (ok : OkV y cc2 nL2 none np) (hlk : Cond.methodLink own index y ∈ tb) (hb : b < w.1) (hk : w.2.1 b = .inl ci) (hC : (vwCl[ci]?).map (fun q => q.1) = some y.cls) (hst : stk = (As (cx_ad X) (cx_adK X)).reverse ++ .ref (cx_ad X b) :: rest) (hnp : ∀ a b, (As a b).length = np) (hro : (rest.map fun v => v.category).sum ≤ 8) (hr : rm.cells = 0 ∧ rm.slots = 0 ∧ rm.frames + 1 ≤ R.frames ∧ 8 + (nL2 + 11) + rm.locals ≤ R.locals) (hcs : cx_cells X + 0 ≤ R.cells ∧ cx_slots X + 0 ≤ R.slots) (d : decode cc pc = .ok (.invokevirtual index, 3)) (kk : ∀ (μ1 : Mem), G w X z (pc + 3) lv (rest) μ1 (k μ1)) : G w X z pc lv stk μ (bv o2 k) := G_callVv hX b ci As rest hM ok hlk hb hk hC hst hnp hro hr hcs d kk
theorem G_cSv {α : Type} {w : Wld} {X : Ctx} {z : α × Mem} {cc cc2 : ByteArray} {nL nL2 np : Nat} {own : String} {ret : Option FieldType} {R rm : Room} {pc : Nat} {lv : List (Nat × Value)} {stk : List Value} {μ : Mem} {y : MethodName} {index : Nat} {o2 : Option (Unit × Mem)} {k : Mem → Option (α × Mem)} (hX : Fx w X cc nL own ret R) (As : (Nat → Nat) → (Nat → Nat) → List Value) (rest : List Value) (hM : ∀ z2, o2 = some z2 → Mv w (cx_l X) y cc2 nL2 rm As μ z2) (ok : OkS y cc2 nL2 none np) (hlk : Cond.methodLink own index y ∈ tb) (hst : stk = (As (cx_ad X) (cx_adK X)).reverse ++ rest) (hnp : ∀ a b, (As a b).length = np) (hro : (rest.map fun v => v.category).sum ≤ 8) (hr : rm.cells = 0 ∧ rm.slots = 0 ∧ rm.frames + 1 ≤ R.frames ∧ 8 + (nL2 + 11) + rm.locals ≤ R.locals) (hcs : cx_cells X + 0 ≤ R.cells ∧ cx_slots X + 0 ≤ R.slots) (d : decode cc pc = .ok (.invokestatic index, 3)) (kk : ∀ (μ1 : Mem), G w X z (pc + 3) lv (rest) μ1 (k μ1)) : G w X z pc lv stk μ (bv o2 k) := G_callSv hX As rest hM ok hlk hst hnp hro hr hcs d kk
