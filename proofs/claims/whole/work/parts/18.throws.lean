/-! Methods that throw: an answer, or the number of an exception's class. -/
def cxs (X : Ctx) (k n : Nat) : Ctx := (cx_p X, cx_l X, cx_e X, cx_R X, cx_s X, cx_m X, cx_args X, cx_below X, cx_meth X, cx_c X, k, n, cx_Q X, cx_D X, cx_cA X, cx_ad X, cx_A X, cx_nL X, cx_adK X, cx_adV X)
def rmx (f lo c s : Nat) : Room := { frames := f, cells := c, slots := s, locals := lo }
def bx {τ : Type} (o : Option ((Unit ⊕ Nat) × Mem)) (k : Mem → Option ((τ ⊕ Nat) × Mem)) : Option ((τ ⊕ Nat) × Mem) := o.bind (fun q => match q.1 with
  | .inl _ => k q.2
  | .inr e => some (.inr e, q.2))
def Xe {τ : Type} (w : Wld) (D : va_G) (cA : Nat → ClassId) (ad : Nat → Nat) (sz : Nat) (z : (τ ⊕ Nat) × Mem) : String → State → State → Prop := vx_X (S := Unit) (fun _ => True) (fun E _ t => (∃ e, e < 4 ∧ z.1 = .inr e ∧ E = exN e) ∧ va_P D vwCl (wld w cA ad z.2) t.heap) (AA w ad sz)
def Qy {τ : Type} (QP : Ctx → Array Value → State → Outcome → State → Prop) (w : Wld) (X : Ctx) (z : (τ ⊕ Nat) × Mem) (K S : Nat) : Prop := cx_Q X = vx_MQ (cx_below X) (QP X) (Xe w (cx_D X) (cx_cA X) (cx_ad X) (cx_s X).heap.size z) (cx_args X) (cx_s X) K S (AA w (cx_ad X) (cx_s X).heap.size) ∧ (cx_l X).stackTraces = false ∧ (∀ x ∈ (cx_c X).exceptionTable.toList, False)
theorem csk {X : Ctx} {k n : Nat} (h : cx_cells X = k ∧ cx_slots X = n) {R : Room} (h1 : k ≤ R.cells) (h2 : n ≤ R.slots) : cx_cells X + 0 ≤ R.cells ∧ cx_slots X + 0 ≤ R.slots := by rw [h.1, h.2]; exact ⟨h1, h2⟩
def Qe_i (w : Wld) (z : (Int32 ⊕ Nat) × Mem) (X : Ctx) : Array Value → State → Outcome → State → Prop := va_Qi (S := Unit) (fun r _ => z.1 = .inl r) (fun _ t => va_P (cx_D X) vwCl (wld w (cx_cA X) (cx_ad X) z.2) t.heap) (AA w (cx_ad X) (cx_s X).heap.size)
def Ei (w : Wld) (l : Launch) (y : MethodName) (cc : ByteArray) (nL : Nat) (ret : FieldType) (rm : Room) (K S : Nat) (av : (Nat → Nat) → (Nat → Nat) → List Value) (μ : Mem) (z : (Int32 ⊕ Nat) × Mem) : Prop :=
  ∀ (D : va_G) (cA : Nat → ClassId) (ad adK adV : Nat → Nat) (sz : Nat), vx_Met l y (.code y cc nL (some ret) :: tb) rm (va_Pc (av ad adK) (PW w D cA ad adK adV sz μ)) (va_Qi (S := Unit) (fun r _ => z.1 = .inl r) (fun _ t => va_P D vwCl (wld w cA ad z.2) t.heap) (AA w ad sz)) (Xe w D cA ad sz z) K S (AA w ad sz)
theorem Ei.of {w : Wld} {l : Launch} (hl0 : l.stackTraces = false) {y : MethodName} {cc : ByteArray} {nL : Nat} {ret : FieldType} {rm : Room} {K S : Nat} {av : (Nat → Nat) → (Nat → Nat) → List Value} {μ : Mem} {z : (Int32 ⊕ Nat) × Mem} {o : Option ((Int32 ⊕ Nat) × Mem)} (hf : o = some z) (hy : plainName y.cls = true) (hn : ∀ ad adK, (lg_sl (av ad adK)).length ≤ nL) (body : ∀ X : Ctx, Fx w X cc nL y.cls (some ret) rm → Qy (Qe_i w z) w X z K S → cx_cells X = 0 ∧ cx_slots X = 0 → G w X z 0 (lv_args 0 (av (cx_ad X) (cx_adK X))) [] μ o) : Ei w l y cc nL ret rm K S av μ z := by
  intro D cA ad adK adV sz
  refine vx_ofW (cc := cc) (maxL := nL) (ret := (some ret)) hy rfl ?_
  intro p e s m args below meth c s₁ B hml ht hv
  obtain ⟨rfl, hsz, hP, hK, hi, hst⟩ := hv
  subst hsz
  have hts := atoms_spec (ws := .code y cc nL (some ret) :: tb) B.pre
  let X : Ctx := (p, l, e, (headSpec (.code y cc nL (some ret) :: tb) rm).room, s, m, (av ad adK).toArray, below, meth, c, 0, 0, vx_MQ below (va_Qi (S := Unit) (fun r _ => z.1 = .inl r) (fun _ t => va_P D vwCl (wld w cA ad z.2) t.heap) (AA w ad s.heap.size)) (Xe w D cA ad s.heap.size z) (av ad adK).toArray s K S (AA w ad s.heap.size), D, cA, ad, AA w ad s.heap.size, nL, adK, adV)
  have hX : Fx w X cc nL y.cls (some ret) rm := ⟨B.exec, B.bytes, hml, findClass_of_methodNamed B.named, fun q hq => hts q (List.mem_cons_of_mem _ hq), hK, fun q h => Or.inr h, hi, fun k hk => Or.inl ⟨k, hk, rfl⟩, B.notSynchronized, B.returns, rfl, rfl, rfl, hst⟩
  have hl := lv_entry (av ad adK) (n := nL) (hn ad adK)
  rw [lg_entry_eq]
  exact body X hX ⟨rfl, hl0, ht⟩ ⟨rfl, rfl⟩ hf s.heap [] _ hl hP va_S.rf
def Qe_l (w : Wld) (z : (Int64 ⊕ Nat) × Mem) (X : Ctx) : Array Value → State → Outcome → State → Prop := va_Ql (S := Unit) (fun r _ => z.1 = .inl r) (fun _ t => va_P (cx_D X) vwCl (wld w (cx_cA X) (cx_ad X) z.2) t.heap) (AA w (cx_ad X) (cx_s X).heap.size)
def El (w : Wld) (l : Launch) (y : MethodName) (cc : ByteArray) (nL : Nat) (ret : FieldType) (rm : Room) (K S : Nat) (av : (Nat → Nat) → (Nat → Nat) → List Value) (μ : Mem) (z : (Int64 ⊕ Nat) × Mem) : Prop :=
  ∀ (D : va_G) (cA : Nat → ClassId) (ad adK adV : Nat → Nat) (sz : Nat), vx_Met l y (.code y cc nL (some ret) :: tb) rm (va_Pc (av ad adK) (PW w D cA ad adK adV sz μ)) (va_Ql (S := Unit) (fun r _ => z.1 = .inl r) (fun _ t => va_P D vwCl (wld w cA ad z.2) t.heap) (AA w ad sz)) (Xe w D cA ad sz z) K S (AA w ad sz)
theorem El.of {w : Wld} {l : Launch} (hl0 : l.stackTraces = false) {y : MethodName} {cc : ByteArray} {nL : Nat} {ret : FieldType} {rm : Room} {K S : Nat} {av : (Nat → Nat) → (Nat → Nat) → List Value} {μ : Mem} {z : (Int64 ⊕ Nat) × Mem} {o : Option ((Int64 ⊕ Nat) × Mem)} (hf : o = some z) (hy : plainName y.cls = true) (hn : ∀ ad adK, (lg_sl (av ad adK)).length ≤ nL) (body : ∀ X : Ctx, Fx w X cc nL y.cls (some ret) rm → Qy (Qe_l w z) w X z K S → cx_cells X = 0 ∧ cx_slots X = 0 → G w X z 0 (lv_args 0 (av (cx_ad X) (cx_adK X))) [] μ o) : El w l y cc nL ret rm K S av μ z := by
  intro D cA ad adK adV sz
  refine vx_ofW (cc := cc) (maxL := nL) (ret := (some ret)) hy rfl ?_
  intro p e s m args below meth c s₁ B hml ht hv
  obtain ⟨rfl, hsz, hP, hK, hi, hst⟩ := hv
  subst hsz
  have hts := atoms_spec (ws := .code y cc nL (some ret) :: tb) B.pre
  let X : Ctx := (p, l, e, (headSpec (.code y cc nL (some ret) :: tb) rm).room, s, m, (av ad adK).toArray, below, meth, c, 0, 0, vx_MQ below (va_Ql (S := Unit) (fun r _ => z.1 = .inl r) (fun _ t => va_P D vwCl (wld w cA ad z.2) t.heap) (AA w ad s.heap.size)) (Xe w D cA ad s.heap.size z) (av ad adK).toArray s K S (AA w ad s.heap.size), D, cA, ad, AA w ad s.heap.size, nL, adK, adV)
  have hX : Fx w X cc nL y.cls (some ret) rm := ⟨B.exec, B.bytes, hml, findClass_of_methodNamed B.named, fun q hq => hts q (List.mem_cons_of_mem _ hq), hK, fun q h => Or.inr h, hi, fun k hk => Or.inl ⟨k, hk, rfl⟩, B.notSynchronized, B.returns, rfl, rfl, rfl, hst⟩
  have hl := lv_entry (av ad adK) (n := nL) (hn ad adK)
  rw [lg_entry_eq]
  exact body X hX ⟨rfl, hl0, ht⟩ ⟨rfl, rfl⟩ hf s.heap [] _ hl hP va_S.rf
def Qe_v (w : Wld) (z : (Unit ⊕ Nat) × Mem) (X : Ctx) : Array Value → State → Outcome → State → Prop := va_Qv (S := Unit) (fun _ => z.1 = .inl ()) (fun _ t => va_P (cx_D X) vwCl (wld w (cx_cA X) (cx_ad X) z.2) t.heap) (AA w (cx_ad X) (cx_s X).heap.size)
def Ev (w : Wld) (l : Launch) (y : MethodName) (cc : ByteArray) (nL : Nat) (rm : Room) (K S : Nat) (av : (Nat → Nat) → (Nat → Nat) → List Value) (μ : Mem) (z : (Unit ⊕ Nat) × Mem) : Prop :=
  ∀ (D : va_G) (cA : Nat → ClassId) (ad adK adV : Nat → Nat) (sz : Nat), vx_Met l y (.code y cc nL none :: tb) rm (va_Pc (av ad adK) (PW w D cA ad adK adV sz μ)) (va_Qv (S := Unit) (fun _ => z.1 = .inl ()) (fun _ t => va_P D vwCl (wld w cA ad z.2) t.heap) (AA w ad sz)) (Xe w D cA ad sz z) K S (AA w ad sz)
theorem Ev.of {w : Wld} {l : Launch} (hl0 : l.stackTraces = false) {y : MethodName} {cc : ByteArray} {nL : Nat} {rm : Room} {K S : Nat} {av : (Nat → Nat) → (Nat → Nat) → List Value} {μ : Mem} {z : (Unit ⊕ Nat) × Mem} {o : Option ((Unit ⊕ Nat) × Mem)} (hf : o = some z) (hy : plainName y.cls = true) (hn : ∀ ad adK, (lg_sl (av ad adK)).length ≤ nL) (body : ∀ X : Ctx, Fx w X cc nL y.cls none rm → Qy (Qe_v w z) w X z K S → cx_cells X = 0 ∧ cx_slots X = 0 → G w X z 0 (lv_args 0 (av (cx_ad X) (cx_adK X))) [] μ o) : Ev w l y cc nL rm K S av μ z := by
  intro D cA ad adK adV sz
  refine vx_ofW (cc := cc) (maxL := nL) (ret := none) hy rfl ?_
  intro p e s m args below meth c s₁ B hml ht hv
  obtain ⟨rfl, hsz, hP, hK, hi, hst⟩ := hv
  subst hsz
  have hts := atoms_spec (ws := .code y cc nL none :: tb) B.pre
  let X : Ctx := (p, l, e, (headSpec (.code y cc nL none :: tb) rm).room, s, m, (av ad adK).toArray, below, meth, c, 0, 0, vx_MQ below (va_Qv (S := Unit) (fun _ => z.1 = .inl ()) (fun _ t => va_P D vwCl (wld w cA ad z.2) t.heap) (AA w ad s.heap.size)) (Xe w D cA ad s.heap.size z) (av ad adK).toArray s K S (AA w ad s.heap.size), D, cA, ad, AA w ad s.heap.size, nL, adK, adV)
  have hX : Fx w X cc nL y.cls none rm := ⟨B.exec, B.bytes, hml, findClass_of_methodNamed B.named, fun q hq => hts q (List.mem_cons_of_mem _ hq), hK, fun q h => Or.inr h, hi, fun k hk => Or.inl ⟨k, hk, rfl⟩, B.notSynchronized, B.returns, rfl, rfl, rfl, hst⟩
  have hl := lv_entry (av ad adK) (n := nL) (hn ad adK)
  rw [lg_entry_eq]
  exact body X hX ⟨rfl, hl0, ht⟩ ⟨rfl, rfl⟩ hf s.heap [] _ hl hP va_S.rf
theorem G_iretX {w : Wld} {X : Ctx} {cc : ByteArray} {nL : Nat} {own : String} {R : Room} {pc : Nat} {lv : List (Nat × Value)} {μ : Mem} {K S k0 n0 : Nat} {z : (Int32 ⊕ Nat) × Mem} {v : Int32} (hX : Fx w X cc nL own (some .int) R) (hQ : Qy (Qe_i w z) w X z K S) (hcs : cx_cells X = k0 ∧ cx_slots X = n0) (hk : k0 ≤ K ∧ n0 ≤ S) (d : decode cc pc = .ok (.ireturn, 1)) : G w X z pc lv [.int v] μ (some (.inl v, μ)) := by
  intro h H locs ls hl hP hS
  cases h
  have eA := hX.2.2.2.2.2.2.2.2.2.2.2.2.2.1
  rw [eA] at hS
  have hlocks := hX.2.2.2.2.2.2.2.2.2.1
  rw [show cx_Q X = _ from hQ.1, hcs.1, hcs.2]
  refine W.widen hk.1 hk.2 (vx_ret ?_)
  exact W.iret (v := v) hX.1 hX.2.1 hX.2.2.2.2.2.2.2.2.2.2.1 (fun t ht hW => ⟨⟨v, (), rfl, rfl, by show va_P _ _ _ t.heap; rw [ht]; exact hP⟩, hS.F ht⟩) hS.2.2 d hlocks
theorem G_zretX {w : Wld} {X : Ctx} {cc : ByteArray} {nL : Nat} {own : String} {R : Room} {pc : Nat} {lv : List (Nat × Value)} {μ : Mem} {K S k0 n0 : Nat} {z : (Int32 ⊕ Nat) × Mem} {v : Int32} (hX : Fx w X cc nL own (some .boolean) R) (hQ : Qy (Qe_i w z) w X z K S) (hcs : cx_cells X = k0 ∧ cx_slots X = n0) (hk : k0 ≤ K ∧ n0 ≤ S) (d : decode cc pc = .ok (.ireturn, 1)) : G w X z pc lv [.int v] μ (zr v (some (.inl v, μ))) := G_guard (fun hc => by
  intro h H locs ls hl hP hS
  cases h
  have eA := hX.2.2.2.2.2.2.2.2.2.2.2.2.2.1
  rw [eA] at hS
  have hlocks := hX.2.2.2.2.2.2.2.2.2.1
  rw [show cx_Q X = _ from hQ.1, hcs.1, hcs.2]
  refine W.widen hk.1 hk.2 (vx_ret ?_)
  exact W.zret (v := v) hX.1 hX.2.1 hX.2.2.2.2.2.2.2.2.2.2.1 (by have h1 : narrow .boolean (.int v) = .int (vp_nar .boolean v) := rfl
                                                                                                                                                                                                                                                                                                                                            rw [h1, hc]) (fun t ht hW => ⟨⟨v, (), rfl, rfl, by show va_P _ _ _ t.heap; rw [ht]; exact hP⟩, hS.F ht⟩) hS.2.2 d hlocks)
theorem G_lretX {w : Wld} {X : Ctx} {cc : ByteArray} {nL : Nat} {own : String} {R : Room} {pc : Nat} {lv : List (Nat × Value)} {μ : Mem} {K S k0 n0 : Nat} {z : (Int64 ⊕ Nat) × Mem} {v : Int64} (hX : Fx w X cc nL own (some .long) R) (hQ : Qy (Qe_l w z) w X z K S) (hcs : cx_cells X = k0 ∧ cx_slots X = n0) (hk : k0 ≤ K ∧ n0 ≤ S) (d : decode cc pc = .ok (.lreturn, 1)) : G w X z pc lv [.long v] μ (some (.inl v, μ)) := by
  intro h H locs ls hl hP hS
  cases h
  have eA := hX.2.2.2.2.2.2.2.2.2.2.2.2.2.1
  rw [eA] at hS
  have hlocks := hX.2.2.2.2.2.2.2.2.2.1
  rw [show cx_Q X = _ from hQ.1, hcs.1, hcs.2]
  refine W.widen hk.1 hk.2 (vx_ret ?_)
  exact W.lret (v := v) hX.1 hX.2.1 hX.2.2.2.2.2.2.2.2.2.2.1 (fun t ht hW => ⟨⟨v, (), rfl, rfl, by show va_P _ _ _ t.heap; rw [ht]; exact hP⟩, hS.F ht⟩) hS.2.2 d hlocks
theorem G_vretX {w : Wld} {X : Ctx} {cc : ByteArray} {nL : Nat} {own : String} {R : Room} {pc : Nat} {lv : List (Nat × Value)} {μ : Mem} {K S k0 n0 : Nat} {z : (Unit ⊕ Nat) × Mem} (hX : Fx w X cc nL own none R) (hQ : Qy (Qe_v w z) w X z K S) (hcs : cx_cells X = k0 ∧ cx_slots X = n0) (hk : k0 ≤ K ∧ n0 ≤ S) (d : decode cc pc = .ok (.return_, 1)) : G w X z pc lv [] μ (some (.inl (), μ)) := by
  intro h H locs ls hl hP hS
  cases h
  have eA := hX.2.2.2.2.2.2.2.2.2.2.2.2.2.1
  rw [eA] at hS
  have hlocks := hX.2.2.2.2.2.2.2.2.2.1
  rw [show cx_Q X = _ from hQ.1, hcs.1, hcs.2]
  refine W.widen hk.1 hk.2 (vx_ret ?_)
  exact W.vret hX.1 hX.2.1 hX.2.2.2.2.2.2.2.2.2.2.1 (fun t ht hW => ⟨⟨(), rfl, rfl, by show va_P _ _ _ t.heap; rw [ht]; exact hP⟩, hS.F ht⟩) hS.2.2 d hlocks
abbrev xnames : List String := ["java/lang/RuntimeException", "java/lang/Exception"]
theorem xn_fit : ∀ n ∈ xnames, Bundle.fit n = true := by decide +kernel
set_option maxRecDepth 100000 in
theorem xl_0 : Cond.classLink RX10 403 (exN 0) ∈ tb := tb_5 (List.mem_of_getElem? (i := 28) rfl) rfl
set_option maxRecDepth 100000 in
theorem xi_0 : Cond.initialized (exN 0) ∈ tb := tb_1 (List.mem_of_getElem? (i := 22) rfl) rfl
theorem xg_0 : ∀ w ∈ (vx_atS RX10 407 (exN 0) xnames).filter goodWord, w ∈ lw_tbl := by decide +kernel
theorem xb_0 : ∀ w ∈ (vx_atS RX10 407 (exN 0) xnames).filter (fun w => !goodWord w), w ∈ (.castable (exN 0) (exN 0) :: dcS.map (fun x => Cond.declares x)) := by decide +kernel
theorem xo_0 : ∀ w ∈ Cond.classLink RX10 403 (exN 0) :: Cond.initialized (exN 0) :: vx_atS RX10 407 (exN 0) xnames, vx_ot w = true := by decide +kernel
theorem xf_0 : Bundle.fit (exN 0) = true := by decide +kernel
set_option maxRecDepth 100000 in
theorem xl_1 : Cond.classLink RX10 81 (exN 1) ∈ tb := tb_4 (List.mem_of_getElem? (i := 188) rfl) rfl
set_option maxRecDepth 100000 in
theorem xi_1 : Cond.initialized (exN 1) ∈ tb := tb_1 (List.mem_of_getElem? (i := 21) rfl) rfl
theorem xg_1 : ∀ w ∈ (vx_atS RX10 85 (exN 1) xnames).filter goodWord, w ∈ lw_tbl := by decide +kernel
theorem xb_1 : ∀ w ∈ (vx_atS RX10 85 (exN 1) xnames).filter (fun w => !goodWord w), w ∈ (.castable (exN 1) (exN 1) :: dcS.map (fun x => Cond.declares x)) := by decide +kernel
theorem xo_1 : ∀ w ∈ Cond.classLink RX10 81 (exN 1) :: Cond.initialized (exN 1) :: vx_atS RX10 85 (exN 1) xnames, vx_ot w = true := by decide +kernel
theorem xf_1 : Bundle.fit (exN 1) = true := by decide +kernel
set_option maxRecDepth 100000 in
theorem xl_2 : Cond.classLink RX10 182 (exN 2) ∈ tb := tb_5 (List.mem_of_getElem? (i := 111) rfl) rfl
set_option maxRecDepth 100000 in
theorem xi_2 : Cond.initialized (exN 2) ∈ tb := tb_1 (List.mem_of_getElem? (i := 24) rfl) rfl
theorem xg_2 : ∀ w ∈ (vx_atS RX10 186 (exN 2) xnames).filter goodWord, w ∈ lw_tbl := by decide +kernel
theorem xb_2 : ∀ w ∈ (vx_atS RX10 186 (exN 2) xnames).filter (fun w => !goodWord w), w ∈ (.castable (exN 2) (exN 2) :: dcS.map (fun x => Cond.declares x)) := by decide +kernel
theorem xo_2 : ∀ w ∈ Cond.classLink RX10 182 (exN 2) :: Cond.initialized (exN 2) :: vx_atS RX10 186 (exN 2) xnames, vx_ot w = true := by decide +kernel
theorem xf_2 : Bundle.fit (exN 2) = true := by decide +kernel
set_option maxRecDepth 100000 in
theorem xl_3 : Cond.classLink RX10 127 (exN 3) ∈ tb := tb_5 (List.mem_of_getElem? (i := 61) rfl) rfl
set_option maxRecDepth 100000 in
theorem xi_3 : Cond.initialized (exN 3) ∈ tb := tb_1 (List.mem_of_getElem? (i := 23) rfl) rfl
theorem xg_3 : ∀ w ∈ (vx_atS RX10 131 (exN 3) xnames).filter goodWord, w ∈ lw_tbl := by decide +kernel
theorem xb_3 : ∀ w ∈ (vx_atS RX10 131 (exN 3) xnames).filter (fun w => !goodWord w), w ∈ (.castable (exN 3) (exN 3) :: dcS.map (fun x => Cond.declares x)) := by decide +kernel
theorem xo_3 : ∀ w ∈ Cond.classLink RX10 127 (exN 3) :: Cond.initialized (exN 3) :: vx_atS RX10 131 (exN 3) xnames, vx_ot w = true := by decide +kernel
theorem xf_3 : Bundle.fit (exN 3) = true := by decide +kernel
theorem G_throw {τ : Type} {w : Wld} {X : Ctx} {z : (τ ⊕ Nat) × Mem} {cc : ByteArray} {nL : Nat} {ret : Option FieldType} {R : Room} {pc : Nat} {lv : List (Nat × Value)} {st : List Value} {μ : Mem} {K S k0 n0 : Nat} {QP : Ctx → Array Value → State → Outcome → State → Prop} {ik is ic si : Nat} {tx : String} (hX : Fx w X cc nL RX10 ret R) (hQ : Qy QP w X z K S) (hcs : cx_cells X = k0 ∧ cx_slots X = n0) (e : Nat) (he : e < 4) (hfit : Bundle.fit (exN e) = true) (hl : Cond.classLink RX10 ik (exN e) ∈ tb) (hi : Cond.initialized (exN e) ∈ tb) (hg : ∀ w ∈ (vx_atS RX10 ic (exN e) xnames).filter goodWord, w ∈ lw_tbl) (hb : ∀ w ∈ (vx_atS RX10 ic (exN e) xnames).filter (fun w => !goodWord w), w ∈ (.castable (exN e) (exN e) :: dcS.map (fun x => Cond.declares x))) (ho : ∀ w ∈ Cond.classLink RX10 ik (exN e) :: Cond.initialized (exN e) :: vx_atS RX10 ic (exN e) xnames, vx_ot w = true) (hr : (RX10, is, tx, si) ∈ refS) (hro : 5 < R.frames ∧ (st.map fun v => v.category).sum + 82 ≤ R.locals ∧ k0 + 1 ≤ R.cells ∧ n0 + 6 ≤ R.slots) (hk : k0 + 1 ≤ K ∧ n0 + 6 ≤ S) (d0 : decode cc pc = .ok (.new ik, 3)) (d3 : decode cc (pc + 3) = .ok (.dup, 1)) (d4 : decode cc (pc + 4) = .ok (.ldc is, 2)) (d6 : decode cc (pc + 6) = .ok (.invokespecial ic, 3)) (d9 : decode cc (pc + 9) = .ok (.athrow, 1)) : G w X z pc lv st μ (some (.inr e, μ)) := by
  intro h H locs ls hls hP hS
  cases h
  have eA := hX.2.2.2.2.2.2.2.2.2.2.2.2.2.1
  have eR := hX.2.2.2.2.2.2.2.2.2.2.2.1
  have eN := hX.2.2.2.2.2.2.2.2.2.2.2.2.1
  have hts := hX.2.2.2.2.1
  have hat : ∀ w ∈ vx_atS RX10 ic (exN e) xnames, w.before (cx_args X) (cx_s X) = true := by
    refine vx_hat (B := .castable (exN e) (exN e) :: dcS.map (fun x => Cond.declares x)) (fun w hw => hts w (tb_of (hg w hw) (List.mem_filter.mp hw).2)) hb ?_
    intro w hw
    rcases List.mem_cons.mp hw with e1 | hw
    · rw [e1]; exact va_tabs rfl rfl (hX.2.2.2.2.2.2.2.2.2.2.2.2.2.2.2.2.2.2.2.2.1 e he)
    · obtain ⟨x, hx, rfl⟩ := List.mem_map.mp hw
      exact va_tabs rfl rfl (hX.2.2.2.2.2.2.2.2.2.2.2.2.2.2.2.2.2.2.2.2.2.1 x hx)
  have hstr := hX.2.2.2.2.2.2.2.2.2.2.2.2.2.2.2.1 _ hr
  have hU := hX.2.2.2.2.2.2.2.2.2.2.2.2.2.2.2.2.2.2.1
  have hN := hX.2.2.2.2.2.2.2.2.2.2.2.2.2.2.2.2.2.2.2.1
  rw [show cx_Q X = _ from hQ.1, hcs.1, hcs.2]
  refine vx_throwS (A := cx_A X) (names := xnames) hX.1 hX.2.1 hQ.2.1 hX.2.2.2.1 hfit xn_fit (hts _ hl) (hts _ hi) hstr hat ho hU hN hS (by rw [hX.2.2.1, ← eN]; exact hls.1) d0 d3 d4 d6 d9 (fun x hx => (hQ.2.2 x hx).elim) (by rw [eR]; exact hro.1) (by rw [eR]; exact hro.2.1) (by rw [eR]; exact hro.2.2.1) (by rw [eR]; exact hro.2.2.2) hX.2.2.2.2.2.2.2.2.2.1 ?_ ?_ hk.1 hk.2
  · intro t ht hz hq
    refine ⟨(), trivial, ⟨⟨e, he, rfl, rfl⟩, ?_⟩, ?_, ?_⟩
    · exact hP.kept (fun k q hk => hq q.1 (hP k q hk).lt)
    · exact Nat.le_trans hS.1 hz
    · intro q h1 h2
      rw [hq q (Nat.lt_of_lt_of_le h1 hS.1)]
      exact hS.2.1 q h1 (by rw [eA]; exact h2)
  · rw [← eA]; exact hS.2.2
theorem G_throwW {τ : Type} {w : Wld} {X : Ctx} {z : (τ ⊕ Nat) × Mem} {cc : ByteArray} {nL : Nat} {ret : Option FieldType} {R : Room} {pc : Nat} {lv : List (Nat × Value)} {st : List Value} {μ : Mem} {K S k0 n0 : Nat} {QP : Ctx → Array Value → State → Outcome → State → Prop} {ik is ic si : Nat} {tx : String} (hX : Fx w X cc nL RX10 ret R) (hQ : Qy QP w X z K S) (hcs : cx_cells X = k0 ∧ cx_slots X = n0) (e : Nat) (he : e < 4) (hfit : Bundle.fit (exN e) = true) (hl : Cond.classLink RX10 ik (exN e) ∈ tb) (hi : Cond.initialized (exN e) ∈ tb) (hg : ∀ w ∈ (vx_atS RX10 ic (exN e) xnames).filter goodWord, w ∈ lw_tbl) (hb : ∀ w ∈ (vx_atS RX10 ic (exN e) xnames).filter (fun w => !goodWord w), w ∈ (.castable (exN e) (exN e) :: dcS.map (fun x => Cond.declares x))) (ho : ∀ w ∈ Cond.classLink RX10 ik (exN e) :: Cond.initialized (exN e) :: vx_atS RX10 ic (exN e) xnames, vx_ot w = true) (hr : (RX10, is, tx, si) ∈ refS) (hro : 5 < R.frames ∧ (st.map fun v => v.category).sum + 82 ≤ R.locals ∧ k0 + 1 ≤ R.cells ∧ n0 + 6 ≤ R.slots) (hk : k0 + 1 ≤ K ∧ n0 + 6 ≤ S) (d0 : decode cc pc = .ok (.new ik, 3)) (d3 : decode cc (pc + 3) = .ok (.dup, 1)) (d4 : decode cc (pc + 4) = .ok (.ldc_w is, 3)) (d6 : decode cc (pc + 7) = .ok (.invokespecial ic, 3)) (d9 : decode cc (pc + 10) = .ok (.athrow, 1)) : G w X z pc lv st μ (some (.inr e, μ)) := by
  intro h H locs ls hls hP hS
  cases h
  have eA := hX.2.2.2.2.2.2.2.2.2.2.2.2.2.1
  have eR := hX.2.2.2.2.2.2.2.2.2.2.2.1
  have eN := hX.2.2.2.2.2.2.2.2.2.2.2.2.1
  have hts := hX.2.2.2.2.1
  have hat : ∀ w ∈ vx_atS RX10 ic (exN e) xnames, w.before (cx_args X) (cx_s X) = true := by
    refine vx_hat (B := .castable (exN e) (exN e) :: dcS.map (fun x => Cond.declares x)) (fun w hw => hts w (tb_of (hg w hw) (List.mem_filter.mp hw).2)) hb ?_
    intro w hw
    rcases List.mem_cons.mp hw with e1 | hw
    · rw [e1]; exact va_tabs rfl rfl (hX.2.2.2.2.2.2.2.2.2.2.2.2.2.2.2.2.2.2.2.2.1 e he)
    · obtain ⟨x, hx, rfl⟩ := List.mem_map.mp hw
      exact va_tabs rfl rfl (hX.2.2.2.2.2.2.2.2.2.2.2.2.2.2.2.2.2.2.2.2.2.1 x hx)
  have hstr := hX.2.2.2.2.2.2.2.2.2.2.2.2.2.2.2.1 _ hr
  have hU := hX.2.2.2.2.2.2.2.2.2.2.2.2.2.2.2.2.2.2.1
  have hN := hX.2.2.2.2.2.2.2.2.2.2.2.2.2.2.2.2.2.2.2.1
  rw [show cx_Q X = _ from hQ.1, hcs.1, hcs.2]
  refine vx_throwSW (A := cx_A X) (names := xnames) hX.1 hX.2.1 hQ.2.1 hX.2.2.2.1 hfit xn_fit (hts _ hl) (hts _ hi) hstr hat ho hU hN hS (by rw [hX.2.2.1, ← eN]; exact hls.1) d0 d3 d4 d6 d9 (fun x hx => (hQ.2.2 x hx).elim) (by rw [eR]; exact hro.1) (by rw [eR]; exact hro.2.1) (by rw [eR]; exact hro.2.2.1) (by rw [eR]; exact hro.2.2.2) hX.2.2.2.2.2.2.2.2.2.1 ?_ ?_ hk.1 hk.2
  · intro t ht hz hq
    refine ⟨(), trivial, ⟨⟨e, he, rfl, rfl⟩, ?_⟩, ?_, ?_⟩
    · exact hP.kept (fun k q hk => hq q.1 (hP k q hk).lt)
    · exact Nat.le_trans hS.1 hz
    · intro q h1 h2
      rw [hq q (Nat.lt_of_lt_of_le h1 hS.1)]
      exact hS.2.1 q h1 (by rw [eA]; exact h2)
  · rw [← eA]; exact hS.2.2
theorem G_xV {τ : Type} {w : Wld} {X : Ctx} {z : (τ ⊕ Nat) × Mem} {cc cc2 : ByteArray} {nL nL2 np : Nat} {own : String} {ret : Option FieldType} {R rm : Room} {pc : Nat} {lv : List (Nat × Value)} {stk : List Value} {μ : Mem} {y : MethodName} {index : Nat} {K S K2 S2 k0 n0 : Nat} {QP : Ctx → Array Value → State → Outcome → State → Prop} {o2 : Option ((Unit ⊕ Nat) × Mem)} {k : Mem → Option ((τ ⊕ Nat) × Mem)} (hX : Fx w X cc nL own ret R) (hQ : Qy QP w X z K S) (hQP : ∀ k n, QP (cxs X k n) = QP X) (hcs : cx_cells X = k0 ∧ cx_slots X = n0) (b : Nat) (ci : Nat) (As : (Nat → Nat) → (Nat → Nat) → List Value) (rest : (Nat → Nat) → (Nat → Nat) → List Value) (lvf : (Nat → Nat) → (Nat → Nat) → List (Nat × Value)) (hM : ∀ z2, o2 = some z2 → Ev w (cx_l X) y cc2 nL2 rm K2 S2 (fun ad adK => .ref (ad b) :: As ad adK) μ z2) (ok : OkV y cc2 nL2 none np) (hlk : Cond.methodLink own index y ∈ tb) (hb : b < w.1) (hk : w.2.1 b = .inl ci) (hC : (vwCl[ci]?).map (fun q => q.1) = some y.cls) (hlv : lv = lvf (cx_ad X) (cx_adK X)) (hst : stk = (As (cx_ad X) (cx_adK X)).reverse ++ .ref (cx_ad X b) :: rest (cx_ad X) (cx_adK X)) (hnp : ∀ a b, (As a b).length = np) (hro : ∀ a b, ((rest a b).map fun v => v.category).sum ≤ 8) (hr : rm.cells = K2 ∧ rm.slots = S2 ∧ rm.frames + 1 ≤ R.frames ∧ 8 + (nL2 + 11) + rm.locals ≤ R.locals) (hcs2 : k0 + K2 ≤ R.cells ∧ n0 + S2 ≤ R.slots) (hKS : k0 + K2 ≤ K ∧ n0 + S2 ≤ S) (d : decode cc pc = .ok (.invokevirtual index, 3)) (kk : ∀ (X : Ctx) (μ1 : Mem), Fx w X cc nL own ret R → Qy QP w X z K S → cx_cells X = k0 + K2 ∧ cx_slots X = n0 + S2 → G w X z (pc + 3) (lvf (cx_ad X) (cx_adK X)) (rest (cx_ad X) (cx_adK X)) μ1 (k μ1)) : G w X z pc lv stk μ (bx o2 k) := by
  intro h H locs ls hl hP hS
  obtain ⟨z2, hz2, h⟩ := Option.bind_eq_some_iff.mp h
  have hM := hM z2 hz2 (cx_D X) (cx_cA X) (cx_ad X) (cx_adK X) (cx_adV X) H.size
  have eA := hX.2.2.2.2.2.2.2.2.2.2.2.2.2.1
  have eR := hX.2.2.2.2.2.2.2.2.2.2.2.1
  have hF : ∀ q, AA w (cx_ad X) H.size q → cx_A X q := by rw [eA]; exact AA_sub hS.1
  have hts := hX.2.2.2.2.1
  subst hst
  subst hlv
  obtain ⟨k1, k2, k3, k4, k5⟩ := ok
  have cw : CallW (cx_R X) (cx_s X) (cx_args X) own y.cls index y cc2 nL2 none (.code y cc2 nL2 none :: tb) rm K2 S2 np := ⟨callB_of np hts (code_tb k4) rfl hr.1 hr.2.1 (hts _ k3) (hts _ hlk) k5 (by rw [eR]; exact hr.2.2), hts _ k1, hts _ k2⟩
  have hrc : ∃ cell : Cell, H[cx_ad X b]? = some cell ∧ cell.vm.isStatics = false ∧ (cx_s X).vm.findClass y.cls = some cell.cls := by
    obtain ⟨q, hq, e⟩ := Option.map_eq_some_iff.mp hC
    rw [← e]
    exact va_recv hX.2.2.2.2.2.1 hP hq (q0 := b) (by rw [wld_at hb, wcell_obj hk])
  have run := vx_runV (p := cx_p X) (l := cx_l X) (e := cx_e X) (R := cx_R X) (s := cx_s X) (m := cx_m X) (args := cx_args X) (below := cx_below X) (meth := cx_meth X) (c := cx_c X) (H := H) (locs := locs) (cells := cx_cells X) (slots := cx_slots X) (b := cx_ad X b) (As := As (cx_ad X) (cx_adK X)) (rest := rest (cx_ad X) (cx_adK X)) (g := F0 (cx_m X) pc ls ((As (cx_ad X) (cx_adK X)).reverse ++ .ref (cx_ad X b) :: rest (cx_ad X) (cx_adK X))) ⟨hX.1, hX.2.1, hX.2.2.1, hX.2.2.2.1, hts⟩ hM cw ⟨PW.blind, hrc, fun U hU hW => ⟨rfl, PW.go hX hP hS hU hW⟩⟩ rfl (hnp _ _) (by rw [← hX.2.2.2.2.2.2.2.2.2.2.2.2.1]; exact hl.1) rfl (lv_room (hro _ _)) d (by rw [eR, hcs.1, hcs.2]; exact hcs2)
  refine vx_callv run hS (fun q _ h => hF q h) hF (fun q _ h => hF q h) ?_ ?_
  · intro E ce q9 u t H1 locs1 ht hvm hp hB hz1 hk1 hS1 hce hcv hcl
    obtain ⟨⟨e, he, e1, e2⟩, hP1⟩ := hB
    rw [ht] at hP1
    rw [e1] at h
    cases h
    rw [show cx_Q X = _ from hQ.1, hcs.1, hcs.2]
    refine vx_out (fun x hx => (hQ.2.2 x hx).elim) hX.2.2.2.2.2.2.2.2.2.1 hce hcv hcl ?_ (by rw [← eA]; exact hS1.2.2) hKS.1 hKS.2
    intro t9 ht9 _
    refine ⟨(), trivial, ⟨⟨e, he, rfl, e2⟩, by show va_P _ _ _ t9.heap; rw [ht9]; exact hP1⟩, ?_, ?_⟩
    · rw [ht9]; exact hS1.1
    · intro q h1 h2
      rw [ht9]
      exact hS1.2.1 q h1 (by rw [eA]; exact h2)
  · intro u t H1 locs1 ht hvm hw hB hz1 hk1 hS1
    rw [ht] at hB
    rw [hw] at h
    have hQ1 : Qy QP w (cxs X (k0 + K2) (n0 + S2)) z K S := by
      refine ⟨?_, hQ.2⟩
      show cx_Q X = _
      rw [hQ.1, hQP]
      rfl
    rw [hcs.1, hcs.2]
    exact kk (cxs X (k0 + K2) (n0 + S2)) z2.2 hX hQ1 ⟨rfl, rfl⟩ h H1 locs1 ls hl hB hS1
theorem G_xS {τ : Type} {w : Wld} {X : Ctx} {z : (τ ⊕ Nat) × Mem} {cc cc2 : ByteArray} {nL nL2 np : Nat} {own : String} {ret : Option FieldType} {R rm : Room} {pc : Nat} {lv : List (Nat × Value)} {stk : List Value} {μ : Mem} {y : MethodName} {index : Nat} {K S K2 S2 k0 n0 : Nat} {QP : Ctx → Array Value → State → Outcome → State → Prop} {o2 : Option ((Unit ⊕ Nat) × Mem)} {k : Mem → Option ((τ ⊕ Nat) × Mem)} (hX : Fx w X cc nL own ret R) (hQ : Qy QP w X z K S) (hQP : ∀ k n, QP (cxs X k n) = QP X) (hcs : cx_cells X = k0 ∧ cx_slots X = n0) (As : (Nat → Nat) → (Nat → Nat) → List Value) (rest : (Nat → Nat) → (Nat → Nat) → List Value) (lvf : (Nat → Nat) → (Nat → Nat) → List (Nat × Value)) (hM : ∀ z2, o2 = some z2 → Ev w (cx_l X) y cc2 nL2 rm K2 S2 As μ z2) (ok : OkS y cc2 nL2 none np) (hlk : Cond.methodLink own index y ∈ tb) (hlv : lv = lvf (cx_ad X) (cx_adK X)) (hst : stk = (As (cx_ad X) (cx_adK X)).reverse ++ rest (cx_ad X) (cx_adK X)) (hnp : ∀ a b, (As a b).length = np) (hro : ∀ a b, ((rest a b).map fun v => v.category).sum ≤ 8) (hr : rm.cells = K2 ∧ rm.slots = S2 ∧ rm.frames + 1 ≤ R.frames ∧ 8 + (nL2 + 11) + rm.locals ≤ R.locals) (hcs2 : k0 + K2 ≤ R.cells ∧ n0 + S2 ≤ R.slots) (hKS : k0 + K2 ≤ K ∧ n0 + S2 ≤ S) (d : decode cc pc = .ok (.invokestatic index, 3)) (kk : ∀ (X : Ctx) (μ1 : Mem), Fx w X cc nL own ret R → Qy QP w X z K S → cx_cells X = k0 + K2 ∧ cx_slots X = n0 + S2 → G w X z (pc + 3) (lvf (cx_ad X) (cx_adK X)) (rest (cx_ad X) (cx_adK X)) μ1 (k μ1)) : G w X z pc lv stk μ (bx o2 k) := by
  intro h H locs ls hl hP hS
  obtain ⟨z2, hz2, h⟩ := Option.bind_eq_some_iff.mp h
  have hM := hM z2 hz2 (cx_D X) (cx_cA X) (cx_ad X) (cx_adK X) (cx_adV X) H.size
  have eA := hX.2.2.2.2.2.2.2.2.2.2.2.2.2.1
  have eR := hX.2.2.2.2.2.2.2.2.2.2.2.1
  have hF : ∀ q, AA w (cx_ad X) H.size q → cx_A X q := by rw [eA]; exact AA_sub hS.1
  have hts := hX.2.2.2.2.1
  subst hst
  subst hlv
  obtain ⟨k1, k3, k4, k5⟩ := ok
  have cw : CallB (cx_R X) (cx_s X) (cx_args X) own index y cc2 nL2 none (.code y cc2 nL2 none :: tb) rm K2 S2 np ∧ (Cond.static y).before (cx_args X) (cx_s X) = true := ⟨callB_of np hts (code_tb k4) rfl hr.1 hr.2.1 (hts _ k3) (hts _ hlk) k5 (by rw [eR]; exact hr.2.2), hts _ k1⟩
  have run := vx_runS (p := cx_p X) (l := cx_l X) (e := cx_e X) (R := cx_R X) (s := cx_s X) (m := cx_m X) (args := cx_args X) (below := cx_below X) (meth := cx_meth X) (c := cx_c X) (H := H) (locs := locs) (cells := cx_cells X) (slots := cx_slots X) (As := As (cx_ad X) (cx_adK X)) (rest := rest (cx_ad X) (cx_adK X)) (g := F0 (cx_m X) pc ls ((As (cx_ad X) (cx_adK X)).reverse ++ rest (cx_ad X) (cx_adK X))) ⟨hX.1, hX.2.1, hX.2.2.1, hX.2.2.2.1, hts⟩ hM cw ⟨PW.blind, fun U hU hW => ⟨rfl, PW.go hX hP hS hU hW⟩⟩ rfl (hnp _ _) (by rw [← hX.2.2.2.2.2.2.2.2.2.2.2.2.1]; exact hl.1) rfl (lv_room (hro _ _)) d (by rw [eR, hcs.1, hcs.2]; exact hcs2)
  refine vx_callv run hS (fun q _ h => hF q h) hF (fun q _ h => hF q h) ?_ ?_
  · intro E ce q9 u t H1 locs1 ht hvm hp hB hz1 hk1 hS1 hce hcv hcl
    obtain ⟨⟨e, he, e1, e2⟩, hP1⟩ := hB
    rw [ht] at hP1
    rw [e1] at h
    cases h
    rw [show cx_Q X = _ from hQ.1, hcs.1, hcs.2]
    refine vx_out (fun x hx => (hQ.2.2 x hx).elim) hX.2.2.2.2.2.2.2.2.2.1 hce hcv hcl ?_ (by rw [← eA]; exact hS1.2.2) hKS.1 hKS.2
    intro t9 ht9 _
    refine ⟨(), trivial, ⟨⟨e, he, rfl, e2⟩, by show va_P _ _ _ t9.heap; rw [ht9]; exact hP1⟩, ?_, ?_⟩
    · rw [ht9]; exact hS1.1
    · intro q h1 h2
      rw [ht9]
      exact hS1.2.1 q h1 (by rw [eA]; exact h2)
  · intro u t H1 locs1 ht hvm hw hB hz1 hk1 hS1
    rw [ht] at hB
    rw [hw] at h
    have hQ1 : Qy QP w (cxs X (k0 + K2) (n0 + S2)) z K S := by
      refine ⟨?_, hQ.2⟩
      show cx_Q X = _
      rw [hQ.1, hQP]
      rfl
    rw [hcs.1, hcs.2]
    exact kk (cxs X (k0 + K2) (n0 + S2)) z2.2 hX hQ1 ⟨rfl, rfl⟩ h H1 locs1 ls hl hB hS1
