/-! The law's wrappers: they catch; plain answers. -/
theorem Met.ofWH {l : Launch} {y : MethodName} {ws ws' : List Cond} {rm : Room} {Pc : Array Value → State → Prop} {Qc : Array Value → State → Outcome → State → Prop} {mc ms : Nat} {free : Addr → Prop} {cc : ByteArray} {maxL : Nat} {ret : Option FieldType} {hh : List (Nat × Nat × Nat × Nat)}
    (hy : plainName y.cls = true) (hw : ws = Cond.codeWith y cc maxL ret hh :: ws')
    (body : ∀ p e s m args below meth c s₁, BodyLoose p l y (headSpec ws rm) cc maxL ret e s m args below meth c s₁ → c.maxLocals = maxL → Pc args s →
      W p l e (headSpec ws rm).room s m args below meth c s.heap [] 0 0 (MQ below Qc args s mc ms free) (entryFrame m args maxL)) : Met l y ws rm Pc Qc mc ms free := by
  refine MetFree.of_bodyS (code := cc) (maxLocals := maxL) (ret := ret) hy ?_ ?_
  · intro args s m h hn
    obtain ⟨m9, meth, c, hn9, h1, h2, h3, h4, -, h5, h6, -⟩ := Cond.codeWith_spec (atoms_spec (ws := ws) h _ (by rw [hw]; exact List.mem_cons_self))
    cases hn.symm.trans hn9
    exact ⟨meth, c, h1, h2, h3, h4, h5, h6⟩
  · intro p e s m args below meth c s₁ B hml hP _
    have hh0 : s₁.heap = s.heap := by rw [B.state]; rfl
    obtain ⟨t, a1, o, b1, b2, b3⟩ := body p e s m args below meth c s₁ B hml hP s₁ hh0 (Stand.of_body B)
    exact ⟨t, o, a1, b1, b2, ⟨b3.1, b3.2⟩⟩
def Hi (w : Wld) (l : Launch) (y : MethodName) (cc : ByteArray) (nL : Nat) (hh : List (Nat × Nat × Nat × Nat)) (rm : Room) (K S : Nat) (av : (Nat → Nat) → (Nat → Nat) → List Value) (μ : Mem) (z : Int32 × Mem) : Prop :=
  ∀ (D : va_G) (cA : Nat → ClassId) (ad adK adV : Nat → Nat) (sz : Nat), Met l y (.codeWith y cc nL (some .int) hh :: tb) rm (va_Pc (av ad adK) (PW w D cA ad adK adV sz μ)) (Qc_i w D cA ad sz z) K S (AA w ad sz)
def Qh (w : Wld) (X : Ctx) (z : Int32 × Mem) (hh : List (Nat × Nat × Nat × Nat)) (K S : Nat) : Prop := cx_Q X = MQ (cx_below X) (Qc_i w (cx_D X) (cx_cA X) (cx_ad X) (cx_s X).heap.size z) (cx_args X) (cx_s X) K S (AA w (cx_ad X) (cx_s X).heap.size) ∧ (cx_l X).stackTraces = false ∧ (cx_c X).exceptionTable.toList = tableOf hh
theorem Hi.of {w : Wld} {l : Launch} (hl0 : l.stackTraces = false) {y : MethodName} {cc : ByteArray} {nL : Nat} {hh : List (Nat × Nat × Nat × Nat)} {rm : Room} {K S : Nat} {av : (Nat → Nat) → (Nat → Nat) → List Value} {μ : Mem} {z : Int32 × Mem} {o : Option (Int32 × Mem)} (hf : o = some z) (hy : plainName y.cls = true) (hn : ∀ ad adK, (lg_sl (av ad adK)).length ≤ nL) (body : ∀ X : Ctx, Fx w X cc nL y.cls (some .int) rm → Qh w X z hh K S → cx_cells X = 0 ∧ cx_slots X = 0 → G w X z 0 (lv_args 0 (av (cx_ad X) (cx_adK X))) [] μ o) : Hi w l y cc nL hh rm K S av μ z := by
  intro D cA ad adK adV sz
  refine Met.ofWH (cc := cc) (maxL := nL) (ret := (some .int)) hy rfl ?_
  intro p e s m args below meth c s₁ B hml hv
  obtain ⟨rfl, hsz, hP, hK, hi, hst⟩ := hv
  subst hsz
  have hts := atoms_spec (ws := .codeWith y cc nL (some .int) hh :: tb) B.pre
  have htab := vx_table (x := y) B (hts _ List.mem_cons_self)
  let X : Ctx := (p, l, e, (headSpec (.codeWith y cc nL (some .int) hh :: tb) rm).room, s, m, (av ad adK).toArray, below, meth, c, 0, 0, MQ below (Qc_i w D cA ad s.heap.size z) (av ad adK).toArray s K S (AA w ad s.heap.size), D, cA, ad, AA w ad s.heap.size, nL, adK, adV)
  have hX : Fx w X cc nL y.cls (some .int) rm := ⟨B.exec, B.bytes, hml, findClass_of_methodNamed B.named, fun q hq => hts q (List.mem_cons_of_mem _ hq), hK, fun q h => Or.inr h, hi, fun k hk => Or.inl ⟨k, hk, rfl⟩, B.notSynchronized, B.returns, rfl, rfl, rfl, hst⟩
  have hl := lv_entry (av ad adK) (n := nL) (hn ad adK)
  rw [lg_entry_eq]
  exact body X hX ⟨rfl, hl0, htab⟩ ⟨rfl, rfl⟩ hf s.heap [] _ hl hP va_S.rf
theorem G_iretH {w : Wld} {X : Ctx} {cc : ByteArray} {nL : Nat} {own : String} {R : Room} {pc : Nat} {lv : List (Nat × Value)} {μ : Mem} {K S k0 n0 : Nat} {hh : List (Nat × Nat × Nat × Nat)} {z : Int32 × Mem} {v : Int32} (hX : Fx w X cc nL own (some .int) R) (hQ : Qh w X z hh K S) (hcs : cx_cells X = k0 ∧ cx_slots X = n0) (hk : k0 ≤ K ∧ n0 ≤ S) (d : decode cc pc = .ok (.ireturn, 1)) : G w X z pc lv [.int v] μ (some (v, μ)) := by
  intro h H locs ls hl hP hS
  cases h
  have eA := hX.2.2.2.2.2.2.2.2.2.2.2.2.2.1
  rw [eA] at hS
  have hlocks := hX.2.2.2.2.2.2.2.2.2.1
  rw [show cx_Q X = _ from hQ.1, hcs.1, hcs.2]
  refine W.widen hk.1 hk.2 ?_
  exact W.iret (v := v) hX.1 hX.2.1 hX.2.2.2.2.2.2.2.2.2.2.1 (fun t ht hW => ⟨⟨v, (), rfl, rfl, by show va_P _ _ _ t.heap; rw [ht]; exact hP⟩, hS.F ht⟩) hS.2.2 d hlocks
/-- an exception of class e at the cell qa is on its way, at pc -/
def GE {α : Type} (w : Wld) (X : Ctx) (z : α × Mem) (pc e : Nat) (lv : List (Nat × Value)) (μ : Mem) (qa : Nat) (o : Option (α × Mem)) : Prop :=
  o = some z → ∀ (H : Heap) (locs : List Loc) (ls : Array Slot) (ce : Cell) (rest : List Value), lv_has ls (cx_nL X) lv → va_P (cx_D X) vwCl (wld w (cx_cA X) (cx_ad X) μ) H → va_S (cx_A X) (cx_s X).heap H locs → H[qa]? = some ce → ce.vm = .none → (cx_s X).vm.findClass (exN e) = some ce.cls →
    vx_W (cx_p X) (cx_l X) (cx_e X) (cx_R X) (cx_s X) (cx_m X) (cx_args X) (cx_below X) (cx_meth X) (cx_c X) H locs (cx_cells X) (cx_slots X) (cx_Q X) (F0 (cx_m X) pc ls rest) qa
theorem GE_none {α : Type} {w : Wld} {X : Ctx} {z : α × Mem} {pc e : Nat} {lv : List (Nat × Value)} {μ : Mem} {qa : Nat} : GE w X z pc e lv μ qa none := by
  intro h; cases h
theorem GE_if {α : Type} {w : Wld} {X : Ctx} {z : α × Mem} {pc e : Nat} {lv : List (Nat × Value)} {μ : Mem} {qa : Nat} {c : Prop} [Decidable c] {o1 o2 : Option (α × Mem)} (k1 : c → GE w X z pc e lv μ qa o1) (k2 : ¬ c → GE w X z pc e lv μ qa o2) : GE w X z pc e lv μ qa (if c then o1 else o2) := by
  by_cases hc : c
  · rw [if_pos hc]; exact k1 hc
  · rw [if_neg hc]; exact k2 hc
theorem GE_catch {w : Wld} {X : Ctx} {z : Int32 × Mem} {cc : ByteArray} {nL : Nat} {own : String} {ret : Option FieldType} {R : Room} {pc e : Nat} {lv : List (Nat × Value)} {μ : Mem} {qa : Nat} {o : Option (Int32 × Mem)} {hh : List (Nat × Nat × Nat × Nat)} {K S : Nat} (hX : Fx w X cc nL own ret R) (hQ : Qh w X z hh K S) (he : e < 4) (pre : List ExceptionTableEntry) (x : ExceptionTableEntry) (suf : List ExceptionTableEntry) (hsplit : tableOf hh = pre ++ x :: suf) (hpass : ∀ q ∈ pre, q.catchType ≠ 0 ∧ ∃ j, j < 4 ∧ e ≠ j ∧ Cond.classLink own q.catchType (exN j) ∈ tb) (hx : covers x pc = true) (h0 : x.catchType ≠ 0) (hlk : Cond.classLink own x.catchType (exN e) ∈ tb) (k : G w X z x.handlerPc lv [.ref qa] μ o) : GE w X z pc e lv μ qa o := by
  intro h H locs ls ce rest hl hP hS hce hcv hcl
  have hts := hX.2.2.2.2.1
  have hSW := hX.2.2.2.2.2.2.2.2.2.2.2.2.2.2
  refine vx_catch hX.2.2.2.1 pre x suf (by rw [hQ.2.2]; exact hsplit) ?_ hx h0 (hts _ hlk) (va_tabs rfl rfl (hSW.2.2.2.2.2.2.1 e he)) hce hcv hcl (k h H locs ls hl hP hS)
  intro q hq
  obtain ⟨h1, j, hj, hne, hlj⟩ := hpass q hq
  exact Or.inr ⟨h1, exN j, hts _ hlj, hSW.2.2.2.2.2.2.2.2 e j he hj hne⟩
theorem G_hi {w : Wld} {X : Ctx} {z : Int32 × Mem} {cc cc2 : ByteArray} {nL nL2 np : Nat} {own : String} {ret : Option FieldType} {rt : FieldType} {R rm : Room} {pc : Nat} {lv : List (Nat × Value)} {stk : List Value} {μ : Mem} {y : MethodName} {index : Nat} {K S K2 S2 : Nat} {hh : List (Nat × Nat × Nat × Nat)} {o2 : Option ((Int32 ⊕ Nat) × Mem)} {kx : Nat → Mem → Option (Int32 × Mem)} {k : Int32 → Mem → Option (Int32 × Mem)} (hX : Fx w X cc nL own ret R) (hQ : Qh w X z hh K S) (hcs : cx_cells X = 0 ∧ cx_slots X = 0) (b : Nat) (ci : Nat) (As : (Nat → Nat) → (Nat → Nat) → List Value) (rest : (Nat → Nat) → (Nat → Nat) → List Value) (lvf : (Nat → Nat) → (Nat → Nat) → List (Nat × Value)) (hM : ∀ z2, o2 = some z2 → Ei w (cx_l X) y cc2 nL2 rt rm K2 S2 (fun ad adK => .ref (ad b) :: As ad adK) μ z2) (ok : OkV y cc2 nL2 (some rt) np) (hlk : Cond.methodLink own index y ∈ tb) (hb : b < w.1) (hk : w.2.1 b = .inl ci) (hC : (vwCl[ci]?).map (fun q => q.1) = some y.cls) (hlv : lv = lvf (cx_ad X) (cx_adK X)) (hst : stk = (As (cx_ad X) (cx_adK X)).reverse ++ .ref (cx_ad X b) :: rest (cx_ad X) (cx_adK X)) (hnp : ∀ a b, (As a b).length = np) (hro : ∀ a b, ((rest a b).map fun v => v.category).sum ≤ 8) (hr : rm.cells = K2 ∧ rm.slots = S2 ∧ rm.frames + 1 ≤ R.frames ∧ 8 + (nL2 + 11) + rm.locals ≤ R.locals) (hcs2 : K2 ≤ R.cells ∧ S2 ≤ R.slots) (d : decode cc pc = .ok (.invokevirtual index, 3))
    (kkx : ∀ (X : Ctx) (e : Nat) (μ1 : Mem) (qa : Nat), e < 4 → Fx w X cc nL own ret R → Qh w X z hh K S → cx_cells X = K2 ∧ cx_slots X = S2 → GE w X z pc e (lvf (cx_ad X) (cx_adK X)) μ1 qa (kx e μ1))
    (kk : ∀ (X : Ctx) (r : Int32) (μ1 : Mem), Fx w X cc nL own ret R → Qh w X z hh K S → cx_cells X = K2 ∧ cx_slots X = S2 → G w X z (pc + 3) (lvf (cx_ad X) (cx_adK X)) (.int r :: rest (cx_ad X) (cx_adK X)) μ1 (k r μ1)) : G w X z pc lv stk μ (bh o2 kx k) := by
  intro h H locs ls hl hP hS
  obtain ⟨z2, hz2, h⟩ := Option.bind_eq_some_iff.mp h
  have hM := hM z2 hz2 (cx_D X) (cx_cA X) (cx_ad X) (cx_adK X) (cx_adV X) H.size
  have eA := hX.2.2.2.2.2.2.2.2.2.2.2.2.2.1
  have eR := hX.2.2.2.2.2.2.2.2.2.2.2.1
  have hF : ∀ q, AA w (cx_ad X) H.size q → cx_A X q := by rw [eA]; exact AA_sub hS.1
  have hts := hX.2.2.2.2.1
  subst hst
  subst hlv
  obtain ⟨k1, k2, k3, k4, k5⟩ := ok
  have cw : CallW (cx_R X) (cx_s X) (cx_args X) own y.cls index y cc2 nL2 (some rt) (.code y cc2 nL2 (some rt) :: tb) rm K2 S2 np := ⟨callB_of np hts (code_tb k4) rfl hr.1 hr.2.1 (hts _ k3) (hts _ hlk) k5 (by rw [eR]; exact hr.2.2), hts _ k1, hts _ k2⟩
  have hrc : ∃ cell : Cell, H[cx_ad X b]? = some cell ∧ cell.vm.isStatics = false ∧ (cx_s X).vm.findClass y.cls = some cell.cls := by
    obtain ⟨q, hq, e⟩ := Option.map_eq_some_iff.mp hC
    rw [← e]
    exact va_recv hX.2.2.2.2.2.1 hP hq (q0 := b) (by rw [wld_at hb, wcell_obj hk])
  have run := vx_runV (p := cx_p X) (l := cx_l X) (e := cx_e X) (R := cx_R X) (s := cx_s X) (m := cx_m X) (args := cx_args X) (below := cx_below X) (meth := cx_meth X) (c := cx_c X) (H := H) (locs := locs) (cells := cx_cells X) (slots := cx_slots X) (b := cx_ad X b) (As := As (cx_ad X) (cx_adK X)) (rest := rest (cx_ad X) (cx_adK X)) (g := F0 (cx_m X) pc ls ((As (cx_ad X) (cx_adK X)).reverse ++ .ref (cx_ad X b) :: rest (cx_ad X) (cx_adK X))) ⟨hX.1, hX.2.1, hX.2.2.1, hX.2.2.2.1, hts⟩ hM cw ⟨PW.blind, hrc, fun U hU hW => ⟨rfl, PW.go hX hP hS hU hW⟩⟩ rfl (hnp _ _) (by rw [← hX.2.2.2.2.2.2.2.2.2.2.2.2.1]; exact hl.1) rfl (lv_room (hro _ _)) d (by rw [eR, hcs.1, hcs.2, Nat.zero_add, Nat.zero_add]; exact hcs2)
  have hQ1 : Qh w (cxs X K2 S2) z hh K S := hQ
  refine vx_calli run hS (fun q _ h => hF q h) hF (fun q _ h => hF q h) ?_ ?_
  · intro E ce q9 u t H1 locs1 ht hvm hp hB hz1 hk1 hS1 hce hcv hcl
    obtain ⟨⟨e, he, e1, e2⟩, hP1⟩ := hB
    rw [ht] at hP1
    rw [e1] at h
    rw [hcs.1, hcs.2, Nat.zero_add, Nat.zero_add]
    subst e2
    exact kkx (cxs X K2 S2) e z2.2 q9 he hX hQ1 ⟨rfl, rfl⟩ h H1 locs1 ls ce _ hl hP1 hS1 hce hcv hcl
  · intro r u t H1 locs1 ht hvm hw hB hz1 hk1 hS1
    rw [ht] at hB
    rw [hw] at h
    rw [hcs.1, hcs.2, Nat.zero_add, Nat.zero_add]
    exact kk (cxs X K2 S2) r z2.2 hX hQ1 ⟨rfl, rfl⟩ h H1 locs1 ls hl hB hS1
theorem G_hl {w : Wld} {X : Ctx} {z : Int32 × Mem} {cc cc2 : ByteArray} {nL nL2 np : Nat} {own : String} {ret : Option FieldType} {rt : FieldType} {R rm : Room} {pc : Nat} {lv : List (Nat × Value)} {stk : List Value} {μ : Mem} {y : MethodName} {index : Nat} {K S K2 S2 : Nat} {hh : List (Nat × Nat × Nat × Nat)} {o2 : Option ((Int64 ⊕ Nat) × Mem)} {kx : Nat → Mem → Option (Int32 × Mem)} {k : Int64 → Mem → Option (Int32 × Mem)} (hX : Fx w X cc nL own ret R) (hQ : Qh w X z hh K S) (hcs : cx_cells X = 0 ∧ cx_slots X = 0) (b : Nat) (ci : Nat) (As : (Nat → Nat) → (Nat → Nat) → List Value) (rest : (Nat → Nat) → (Nat → Nat) → List Value) (lvf : (Nat → Nat) → (Nat → Nat) → List (Nat × Value)) (hM : ∀ z2, o2 = some z2 → El w (cx_l X) y cc2 nL2 rt rm K2 S2 (fun ad adK => .ref (ad b) :: As ad adK) μ z2) (ok : OkV y cc2 nL2 (some rt) np) (hlk : Cond.methodLink own index y ∈ tb) (hb : b < w.1) (hk : w.2.1 b = .inl ci) (hC : (vwCl[ci]?).map (fun q => q.1) = some y.cls) (hlv : lv = lvf (cx_ad X) (cx_adK X)) (hst : stk = (As (cx_ad X) (cx_adK X)).reverse ++ .ref (cx_ad X b) :: rest (cx_ad X) (cx_adK X)) (hnp : ∀ a b, (As a b).length = np) (hro : ∀ a b, ((rest a b).map fun v => v.category).sum ≤ 8) (hr : rm.cells = K2 ∧ rm.slots = S2 ∧ rm.frames + 1 ≤ R.frames ∧ 8 + (nL2 + 11) + rm.locals ≤ R.locals) (hcs2 : K2 ≤ R.cells ∧ S2 ≤ R.slots) (d : decode cc pc = .ok (.invokevirtual index, 3))
    (kkx : ∀ (X : Ctx) (e : Nat) (μ1 : Mem) (qa : Nat), e < 4 → Fx w X cc nL own ret R → Qh w X z hh K S → cx_cells X = K2 ∧ cx_slots X = S2 → GE w X z pc e (lvf (cx_ad X) (cx_adK X)) μ1 qa (kx e μ1))
    (kk : ∀ (X : Ctx) (r : Int64) (μ1 : Mem), Fx w X cc nL own ret R → Qh w X z hh K S → cx_cells X = K2 ∧ cx_slots X = S2 → G w X z (pc + 3) (lvf (cx_ad X) (cx_adK X)) (.long r :: rest (cx_ad X) (cx_adK X)) μ1 (k r μ1)) : G w X z pc lv stk μ (bh o2 kx k) := by
  intro h H locs ls hl hP hS
  obtain ⟨z2, hz2, h⟩ := Option.bind_eq_some_iff.mp h
  have hM := hM z2 hz2 (cx_D X) (cx_cA X) (cx_ad X) (cx_adK X) (cx_adV X) H.size
  have eA := hX.2.2.2.2.2.2.2.2.2.2.2.2.2.1
  have eR := hX.2.2.2.2.2.2.2.2.2.2.2.1
  have hF : ∀ q, AA w (cx_ad X) H.size q → cx_A X q := by rw [eA]; exact AA_sub hS.1
  have hts := hX.2.2.2.2.1
  subst hst
  subst hlv
  obtain ⟨k1, k2, k3, k4, k5⟩ := ok
  have cw : CallW (cx_R X) (cx_s X) (cx_args X) own y.cls index y cc2 nL2 (some rt) (.code y cc2 nL2 (some rt) :: tb) rm K2 S2 np := ⟨callB_of np hts (code_tb k4) rfl hr.1 hr.2.1 (hts _ k3) (hts _ hlk) k5 (by rw [eR]; exact hr.2.2), hts _ k1, hts _ k2⟩
  have hrc : ∃ cell : Cell, H[cx_ad X b]? = some cell ∧ cell.vm.isStatics = false ∧ (cx_s X).vm.findClass y.cls = some cell.cls := by
    obtain ⟨q, hq, e⟩ := Option.map_eq_some_iff.mp hC
    rw [← e]
    exact va_recv hX.2.2.2.2.2.1 hP hq (q0 := b) (by rw [wld_at hb, wcell_obj hk])
  have run := vx_runV (p := cx_p X) (l := cx_l X) (e := cx_e X) (R := cx_R X) (s := cx_s X) (m := cx_m X) (args := cx_args X) (below := cx_below X) (meth := cx_meth X) (c := cx_c X) (H := H) (locs := locs) (cells := cx_cells X) (slots := cx_slots X) (b := cx_ad X b) (As := As (cx_ad X) (cx_adK X)) (rest := rest (cx_ad X) (cx_adK X)) (g := F0 (cx_m X) pc ls ((As (cx_ad X) (cx_adK X)).reverse ++ .ref (cx_ad X b) :: rest (cx_ad X) (cx_adK X))) ⟨hX.1, hX.2.1, hX.2.2.1, hX.2.2.2.1, hts⟩ hM cw ⟨PW.blind, hrc, fun U hU hW => ⟨rfl, PW.go hX hP hS hU hW⟩⟩ rfl (hnp _ _) (by rw [← hX.2.2.2.2.2.2.2.2.2.2.2.2.1]; exact hl.1) rfl (lv_room (hro _ _)) d (by rw [eR, hcs.1, hcs.2, Nat.zero_add, Nat.zero_add]; exact hcs2)
  have hQ1 : Qh w (cxs X K2 S2) z hh K S := hQ
  refine vx_calll run hS (fun q _ h => hF q h) hF (fun q _ h => hF q h) ?_ ?_
  · intro E ce q9 u t H1 locs1 ht hvm hp hB hz1 hk1 hS1 hce hcv hcl
    obtain ⟨⟨e, he, e1, e2⟩, hP1⟩ := hB
    rw [ht] at hP1
    rw [e1] at h
    rw [hcs.1, hcs.2, Nat.zero_add, Nat.zero_add]
    subst e2
    exact kkx (cxs X K2 S2) e z2.2 q9 he hX hQ1 ⟨rfl, rfl⟩ h H1 locs1 ls ce _ hl hP1 hS1 hce hcv hcl
  · intro r u t H1 locs1 ht hvm hw hB hz1 hk1 hS1
    rw [ht] at hB
    rw [hw] at h
    rw [hcs.1, hcs.2, Nat.zero_add, Nat.zero_add]
    exact kk (cxs X K2 S2) r z2.2 hX hQ1 ⟨rfl, rfl⟩ h H1 locs1 ls hl hB hS1
theorem G_hv {w : Wld} {X : Ctx} {z : Int32 × Mem} {cc cc2 : ByteArray} {nL nL2 np : Nat} {own : String} {ret : Option FieldType} {R rm : Room} {pc : Nat} {lv : List (Nat × Value)} {stk : List Value} {μ : Mem} {y : MethodName} {index : Nat} {K S K2 S2 : Nat} {hh : List (Nat × Nat × Nat × Nat)} {o2 : Option ((Unit ⊕ Nat) × Mem)} {kx : Nat → Mem → Option (Int32 × Mem)} {k : Unit → Mem → Option (Int32 × Mem)} (hX : Fx w X cc nL own ret R) (hQ : Qh w X z hh K S) (hcs : cx_cells X = 0 ∧ cx_slots X = 0) (b : Nat) (ci : Nat) (As : (Nat → Nat) → (Nat → Nat) → List Value) (rest : (Nat → Nat) → (Nat → Nat) → List Value) (lvf : (Nat → Nat) → (Nat → Nat) → List (Nat × Value)) (hM : ∀ z2, o2 = some z2 → Ev w (cx_l X) y cc2 nL2 rm K2 S2 (fun ad adK => .ref (ad b) :: As ad adK) μ z2) (ok : OkV y cc2 nL2 none np) (hlk : Cond.methodLink own index y ∈ tb) (hb : b < w.1) (hk : w.2.1 b = .inl ci) (hC : (vwCl[ci]?).map (fun q => q.1) = some y.cls) (hlv : lv = lvf (cx_ad X) (cx_adK X)) (hst : stk = (As (cx_ad X) (cx_adK X)).reverse ++ .ref (cx_ad X b) :: rest (cx_ad X) (cx_adK X)) (hnp : ∀ a b, (As a b).length = np) (hro : ∀ a b, ((rest a b).map fun v => v.category).sum ≤ 8) (hr : rm.cells = K2 ∧ rm.slots = S2 ∧ rm.frames + 1 ≤ R.frames ∧ 8 + (nL2 + 11) + rm.locals ≤ R.locals) (hcs2 : K2 ≤ R.cells ∧ S2 ≤ R.slots) (d : decode cc pc = .ok (.invokevirtual index, 3))
    (kkx : ∀ (X : Ctx) (e : Nat) (μ1 : Mem) (qa : Nat), e < 4 → Fx w X cc nL own ret R → Qh w X z hh K S → cx_cells X = K2 ∧ cx_slots X = S2 → GE w X z pc e (lvf (cx_ad X) (cx_adK X)) μ1 qa (kx e μ1))
    (kk : ∀ (X : Ctx) (r : Unit) (μ1 : Mem), Fx w X cc nL own ret R → Qh w X z hh K S → cx_cells X = K2 ∧ cx_slots X = S2 → G w X z (pc + 3) (lvf (cx_ad X) (cx_adK X)) (rest (cx_ad X) (cx_adK X)) μ1 (k r μ1)) : G w X z pc lv stk μ (bh o2 kx k) := by
  intro h H locs ls hl hP hS
  obtain ⟨z2, hz2, h⟩ := Option.bind_eq_some_iff.mp h
  have hM := hM z2 hz2 (cx_D X) (cx_cA X) (cx_ad X) (cx_adK X) (cx_adV X) H.size
  have eA := hX.2.2.2.2.2.2.2.2.2.2.2.2.2.1
  have eR := hX.2.2.2.2.2.2.2.2.2.2.2.1
  have hF : ∀ q, AA w (cx_ad X) H.size q → cx_A X q := by rw [eA]; exact AA_sub hS.1
  have hts := hX.2.2.2.2.1
  subst hst
  subst hlv
  obtain ⟨k1, k2, k3, k4, k5⟩ := ok
  have cw : CallW (cx_R X) (cx_s X) (cx_args X) own y.cls index y cc2 nL2 none (.code y cc2 nL2 none :: tb) rm K2 S2 np := ⟨callB_of np hts (code_tb k4) rfl hr.1 hr.2.1 (hts _ k3) (hts _ hlk) k5 (by rw [eR]; exact hr.2.2), hts _ k1, hts _ k2⟩
  have hrc : ∃ cell : Cell, H[cx_ad X b]? = some cell ∧ cell.vm.isStatics = false ∧ (cx_s X).vm.findClass y.cls = some cell.cls := by
    obtain ⟨q, hq, e⟩ := Option.map_eq_some_iff.mp hC
    rw [← e]
    exact va_recv hX.2.2.2.2.2.1 hP hq (q0 := b) (by rw [wld_at hb, wcell_obj hk])
  have run := vx_runV (p := cx_p X) (l := cx_l X) (e := cx_e X) (R := cx_R X) (s := cx_s X) (m := cx_m X) (args := cx_args X) (below := cx_below X) (meth := cx_meth X) (c := cx_c X) (H := H) (locs := locs) (cells := cx_cells X) (slots := cx_slots X) (b := cx_ad X b) (As := As (cx_ad X) (cx_adK X)) (rest := rest (cx_ad X) (cx_adK X)) (g := F0 (cx_m X) pc ls ((As (cx_ad X) (cx_adK X)).reverse ++ .ref (cx_ad X b) :: rest (cx_ad X) (cx_adK X))) ⟨hX.1, hX.2.1, hX.2.2.1, hX.2.2.2.1, hts⟩ hM cw ⟨PW.blind, hrc, fun U hU hW => ⟨rfl, PW.go hX hP hS hU hW⟩⟩ rfl (hnp _ _) (by rw [← hX.2.2.2.2.2.2.2.2.2.2.2.2.1]; exact hl.1) rfl (lv_room (hro _ _)) d (by rw [eR, hcs.1, hcs.2, Nat.zero_add, Nat.zero_add]; exact hcs2)
  have hQ1 : Qh w (cxs X K2 S2) z hh K S := hQ
  refine vx_callv run hS (fun q _ h => hF q h) hF (fun q _ h => hF q h) ?_ ?_
  · intro E ce q9 u t H1 locs1 ht hvm hp hB hz1 hk1 hS1 hce hcv hcl
    obtain ⟨⟨e, he, e1, e2⟩, hP1⟩ := hB
    rw [ht] at hP1
    rw [e1] at h
    rw [hcs.1, hcs.2, Nat.zero_add, Nat.zero_add]
    subst e2
    exact kkx (cxs X K2 S2) e z2.2 q9 he hX hQ1 ⟨rfl, rfl⟩ h H1 locs1 ls ce _ hl hP1 hS1 hce hcv hcl
  · intro u t H1 locs1 ht hvm hw hB hz1 hk1 hS1
    rw [ht] at hB
    rw [hw] at h
    rw [hcs.1, hcs.2, Nat.zero_add, Nat.zero_add]
    exact kk (cxs X K2 S2) () z2.2 hX hQ1 ⟨rfl, rfl⟩ h H1 locs1 ls hl hB hS1
set_option maxRecDepth 100000 in
theorem ll_13 : Cond.classLink RL 13 (exN 1) ∈ tb := tb_3 (List.mem_of_getElem? (i := 227) rfl) rfl
set_option maxRecDepth 100000 in
theorem ll_19 : Cond.classLink RL 19 (exN 0) ∈ tb := tb_5 (List.mem_of_getElem? (i := 19) rfl) rfl
set_option maxRecDepth 100000 in
theorem ll_25 : Cond.classLink RL 25 (exN 3) ∈ tb := tb_5 (List.mem_of_getElem? (i := 56) rfl) rfl
set_option maxRecDepth 100000 in
theorem ll_37 : Cond.classLink RL 37 (exN 2) ∈ tb := tb_5 (List.mem_of_getElem? (i := 102) rfl) rfl
