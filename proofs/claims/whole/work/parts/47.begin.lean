/-! The law's own start: rows for what it makes. -/
def Fd (X : Ctx) (cc : ByteArray) (nL : Nat) (own : String) (R : Room) : Prop :=
  (cx_p X).tables.exec = Jvm.exec ∧ (cx_c X).code = cc ∧ (cx_c X).maxLocals = nL ∧ (cx_s X).vm.findClass own = some (cx_m X).cls ∧ (∀ w ∈ tb, w.before (cx_args X) (cx_s X) = true) ∧
  va_K (cx_D X) vwCl (tysA (cx_cA X)) (cx_s X) ∧ (∀ q, (cx_s X).heap.size ≤ q → cx_A X q) ∧ (cx_meth X).locks = false ∧ True ∧ cx_R X = R ∧ cx_nL X = nL ∧ NW (cx_s X) ∧ True
section
variable {X : Ctx} {cc : ByteArray} {nL : Nat} {own : String} {R : Room} {pc : Nat} {lv : List (Nat × Value)} {st : List Value} {ws T : va_W} {k n : Nat}
theorem GD_iconst (hX : Fd X cc nL own R) {i : Int} (v : Int32) (hv : Int32.ofInt i = v) (d : decode cc pc = .ok (.iconst i, 1)) (kk : GC X (pc + 1) lv (.int v :: st) ws k n) : GC X pc lv (st) ws k n := by
  intro H locs ls hl hP hD hS
  exact lv_iconst hX.1 hX.2.1 d hv (kk H locs ls hl hP hD hS)
theorem GD_dup (hX : Fd X cc nL own R) {v : Value} (hv : v.category = 1) (d : decode cc pc = .ok (.dup, 1)) (kk : GC X (pc + 1) lv (v :: v :: st) ws k n) : GC X pc lv (v :: st) ws k n := by
  intro H locs ls hl hP hD hS
  exact lv_dup hX.1 hX.2.1 d hv (kk H locs ls hl hP hD hS)
theorem GD_newLong (hX : Fd X cc nL own R) {i : Int32} (N : Nat) (hi : ¬ i < 0) (hN : i.toNatClampNeg = N) (hb : N * componentBytes .long ≤ 536870912) (hr : k + 1 ≤ R.cells ∧ n + N ≤ R.slots) (d : decode cc pc = .ok (.newarray .long, 2)) (kk : ∀ q : Nat, GC X (pc + 2) lv (.ref q :: st) (ws ++ [(q, .inl (cx_cA X 1, N, .inr (.inl (fun _ => 0))))]) (k + 1) (n + N)) : GC X pc lv (.int i :: st) ws k n := by
  intro H locs ls hl hP hD hS
  have eR := hX.2.2.2.2.2.2.2.2.2.1
  have hK := hX.2.2.2.2.2.1
  refine va_newa (atype := .long) (ty := .long) (a0 := (N, .inr (.inl (fun _ => 0)))) hX.1 hX.2.1 (hX.2.2.2.2.1 _ aw_Long) rfl hK hP hD hS hX.2.2.2.2.2.2.1 (fun _ => rfl) hi hN hb (by rw [eR]; exact hr.1) (by rw [eR]; exact hr.2) d (fun q c0 H1 hK2 hP1 hD1 hS1 => ?_)
  have e := cls_arr hK 1 rfl (fun C h => by cases h) hK2
  rw [e] at hP1 hD1
  exact kk q H1 locs ls hl hP1 hD1 hS1
theorem GD_new (hX : Fd X cc nL own R) {C : String} {T0 : u_T} {N idx : Nat} (ci : Nat) (fs : List Value) (hcl : vwCl[ci]? = some (C, T0, N)) (hin : ∀ w ∈ u_ws C T0 N, w ∈ tb) (ty : Nat → FieldType) (hty : ∀ k, k < N → parseFieldDescriptor (T0 k).2.2.1 = some (ty k)) (hlk : Cond.classLink own idx C ∈ tb) (hins : Cond.instantiable C N ∈ tb) (hini : Cond.initialized C ∈ tb) (hfs : ∀ j, j < N → defaultValue (ty j) = vp_V fs j) (hr : k + 1 ≤ R.cells ∧ n + N ≤ R.slots) (d : decode cc pc = .ok (.new idx, 3)) (kk : ∀ q : Nat, GC X (pc + 3) lv (.ref q :: st) (ws ++ [(q, .inr (ci, fs))]) (k + 1) (n + N)) : GC X pc lv st ws k n := by
  intro H locs ls hl hP hD hS
  have eR := hX.2.2.2.2.2.2.2.2.2.1
  have hts := hX.2.2.2.2.1
  exact va_new hX.1 hX.2.1 hts hin ty hty hX.2.2.2.1 (hts _ hlk) (hts _ hins) (hts _ hini) hX.2.2.2.2.2.1 hP hD hS hX.2.2.2.2.2.2.1 hcl hfs (by rw [eR]; exact hr.1) (by rw [eR]; exact hr.2) d (fun q H1 hP1 hD1 hS1 => kk q H1 locs ls hl hP1 hD1 hS1)
theorem GD_ctor (hX : Fd X cc nL own R) {y : MethodName} {cc2 : ByteArray} {nL2 np idx q K2 S2 : Nat} {rm : Room} {as : List Value} {w0 : va_E} {blk : (Nat → ClassId) → (Nat → Nat) → va_W} {stk : List Value} (rest : List Value) (hM : Mk (cx_l X) y cc2 nL2 rm K2 S2 as w0 blk) (hyn : y.name = "<init>") (hin : Cond.instanceMethod y ∈ tb) (hini : Cond.initialized y.cls ∈ tb) (hcode : Cond.code y cc2 nL2 none ∈ tb) (hyc : y.cls ≠ "java/lang/invoke/MethodHandle" ∧ y.cls ≠ "java/lang/invoke/VarHandle" ∧ (parseMethodDescriptor y.desc).map (fun d => d.parameters.length) = some np) (hlk : Cond.methodLink own idx y ∈ tb ∨ ∃ host, (own, idx, y, host) ∈ nestS) (hst : stk = as.reverse ++ .ref q :: rest) (hnp : as.length = np) (hro : (rest.map fun v => v.category).sum ≤ 8) (hr : rm.cells = K2 ∧ rm.slots = S2 ∧ rm.frames + 1 ≤ R.frames ∧ 8 + (nL2 + 11) + rm.locals ≤ R.locals) (hcs : k + K2 ≤ R.cells ∧ n + S2 ≤ R.slots) (d : decode cc pc = .ok (.invokespecial idx, 3)) (kk : ∀ u : Nat → Nat, u 0 = q → GC X (pc + 3) lv rest (ws ++ blk (cx_cA X) u) (k + K2) (n + S2)) : GC X pc lv stk (ws ++ [(q, w0)]) k n := by
  intro H locs ls hl hP hD hS
  have hM := hM (cx_D X) (cx_cA X) H.size q
  have eR := hX.2.2.2.2.2.2.2.2.2.1
  have eN := hX.2.2.2.2.2.2.2.2.2.2.1
  have hts := hX.2.2.2.2.1
  subst hst
  have hlast : (ws ++ [(q, w0)])[ws.length]? = some (q, w0) := by rw [List.getElem?_append_right (Nat.le_refl _), Nat.sub_self]; rfl
  have hC : ([ws.length] : List Nat).map (fun i => (ws ++ [(q, w0)])[i]?) = ([(q, w0)] : va_W).map some := by simp only [List.map_cons, List.map_nil, hlast]
  have hR : (List.range ws.length).map (fun i => (ws ++ [(q, w0)])[i]?) = ws.map some := by
    apply List.ext_getElem?
    intro i
    by_cases hi : i < ws.length
    · simp [hi, List.getElem?_append_left hi]
    · simp [hi]
  have hn9 : va_nd (List.range ws.length) = true := by
    have g : ∀ (L : List Nat), L.Nodup → va_nd L = true := by
      intro L
      induction L with
      | nil => intro _; rfl
      | cons a L ih =>
        intro h
        rw [List.nodup_cons] at h
        simp [va_nd, h.1, ih h.2]
    exact g _ List.nodup_range
  have hPc : va_P (cx_D X) vwCl [(q, w0)] H := hP.sub [ws.length] (by simp only [List.filterMap_cons, hlast, List.filterMap_nil])
  have hFc := va_free (wc := [(q, w0)]) hD hS hX.2.2.2.2.2.2.1 [ws.length] hC
  have pre : PreS (cx_s X) H (va_Pc (.ref q :: as) (PC (cx_D X) (cx_cA X) H.size q w0)) (.ref q :: as) := ⟨PC.blind, fun U hU hW => ⟨rfl, by rw [hU], by rw [hU]; exact hPc, va_K.moved hW.alike hX.2.2.2.2.2.1, NW.go hW hX.2.2.2.2.2.2.2.2.2.2.2.1⟩⟩
  have run : va_Run (cx_p X) (cx_l X) (cx_e X) (cx_R X) (cx_s X) (cx_m X) (cx_args X) (cx_below X) (cx_meth X) (cx_c X) H locs k n K2 S2 (F0 (cx_m X) pc ls (as.reverse ++ .ref q :: rest)) rest (Qk (cx_D X) (cx_cA X) H.size q w0 blk (Value.ref q :: as).toArray) (va_A [(q, w0)] H.size) := by
    rcases hlk with hlk | ⟨host, hlk⟩
    · exact va_runI (As := as) (rest := rest) ⟨hX.1, hX.2.1, hX.2.2.1, hX.2.2.2.1, hts⟩ hM (cwI np hts (code_tb hcode) rfl hr.1 hr.2.1 (hts _ hini) (hts _ hlk) (hts _ hin) hyn hyc (by rw [eR]; exact hr.2.2)) pre rfl hnp (by rw [← eN]; exact hl.1) rfl (lv_room hro) d (by rw [eR]; exact hcs)
    · exact va_runIN (As := as) (rest := rest) ⟨hX.1, hX.2.1, hX.2.2.1, hX.2.2.2.1, hts⟩ hM ⟨va_cnB np hts (code_tb hcode) rfl hr.1 hr.2.1 (hX.2.2.2.2.2.2.2.2.2.2.2.1 _ hlk) (hts _ hini) hyc (by rw [eR]; exact hr.2.2), hyn, hts _ hin⟩ pre rfl hnp (by rw [← eN]; exact hl.1) rfl (lv_room hro) d (by rw [eR]; exact hcs)
  refine va_callv run hS (fun q _ h => hFc q h) hFc (fun u t H1 locs1 ht hvm hw hB hz1 hk1 hS1 => ?_)
  obtain ⟨hP1, hD1⟩ := hB
  rw [ht] at hP1
  obtain ⟨hPj, hDj⟩ := va_join (wc := [(q, w0)]) (wr := ws) (w1 := blk (cx_cA X) u) hP hD [ws.length] (List.range ws.length) hC hR hn9 (by intro i hi h; rw [List.mem_singleton] at h; rw [List.mem_range] at hi; omega) hk1 hFc hP1 hD1
  exact kk u hw H1 locs1 ls hl hPj hDj hS1
theorem GD_astore_n (hX : Fd X cc nL own R) {i : Fin 4} {j : Nat} {x : Nat} (lv' : List (Nat × Value)) (hi : (i : Nat) = j) (hn : j < nL) (hl9 : (j, Value.ref x) :: lv.filter (fun q => !(q.1 == j) && !(q.1 + 1 == j && q.2.category == 2)) = lv') (d : decode cc pc = .ok (.astore_n i, 1)) (kk : GC X (pc + 1) lv' st ws k n) : GC X pc lv (.ref x :: st) ws k n := by
  intro H locs ls hl hP hD hS
  exact lv_astore_n hX.1 hX.2.1 d hi hl (by rw [hX.2.2.2.2.2.2.2.2.2.2.1]; exact hn) hl9 (fun ls' hl' => kk H locs ls' hl' hP hD hS)
theorem GD_istore (hX : Fd X cc nL own R) {j : Nat} {x : Int32} (lv' : List (Nat × Value)) (hn : j < nL) (hl9 : (j, Value.int x) :: lv.filter (fun q => !(q.1 == j) && !(q.1 + 1 == j && q.2.category == 2)) = lv') (d : decode cc pc = .ok (.istore j, 2)) (kk : GC X (pc + 2) lv' st ws k n) : GC X pc lv (.int x :: st) ws k n := by
  intro H locs ls hl hP hD hS
  exact lv_istore hX.1 hX.2.1 d hl (by rw [hX.2.2.2.2.2.2.2.2.2.2.1]; exact hn) hl9 (fun ls' hl' => kk H locs ls' hl' hP hD hS)
end
def pmC : List Nat := [0, 59, 61, 65, 74, 79, 88, 60, 62, 63, 64, 66, 67, 68, 69, 70, 71, 72, 73, 75, 76, 77, 78, 80, 81, 82, 83, 84, 85, 86, 87, 89, 1, 2, 3, 4, 5, 6, 7, 13, 14, 15, 16, 17, 18, 19, 20, 21, 22, 23, 24, 25, 26, 27, 28, 8, 9, 10, 11, 12, 29, 30, 31, 32, 33, 34, 35, 36, 42, 43, 44, 45, 46, 47, 48, 49, 50, 51, 52, 53, 54, 55, 56, 57, 37, 38, 39, 40, 41, 58]
def pmA : List Nat := [0, 59, 61, 65, 74, 79, 88, 60, 62, 63, 64, 66, 67, 68, 69, 70, 71, 72, 73, 75, 76, 77, 78, 80, 81, 82, 83, 84, 85, 86, 87, 89, 1, 2, 3, 4, 5, 6, 7, 13, 14, 15, 16, 17, 18, 19, 20, 21, 22, 23, 24, 25, 26, 27, 28, 8, 9, 10, 11, 12, 29, 30, 31, 32, 33, 34, 35, 36, 42, 43, 44, 45, 46, 47, 48, 49, 50, 51, 52, 53, 54, 55, 56, 57, 37, 38, 39, 40, 41, 58, 120, 90, 91, 92, 93, 94, 95, 96, 97, 98, 99, 100, 101, 102, 103, 104, 105, 106, 107, 108, 109, 110, 111, 112, 113, 114, 115, 116, 117, 118, 119]
def mu0 : Mem := (fun a => if a = 60 then upd (fun _ => 0) 4 10 else if a = 89 then upd (fun _ => 0) 4 10 else if a = 1 then upd (fun _ => 0) 2 (-1) else if a = 3 then upd (fun _ => 0) 4 (-1) else fun _ => 0, fun _ _ => 0, fun a b => if a = 0 then (if b = 6 then 32 else 61) else if a = 1 then 61 else 32)
def nu0 : Mem := (fun a => if a = 1 then upd (fun _ => 0) 32 10 else if a = 0 then upd (fun _ => 0) 17 (-1) else fun _ => 0, fun _ _ => 0, fun _ _ => 0)
def adC (u : Nat → Nat) (q : Nat) : Nat → Nat := fun k => if k < 90 then u (pmC.getD k 0) else q
def wsA (cA : Nat → ClassId) (u v : Nat → Nat) (q : Nat) : va_W := bk_X10 cA u ++ bk_X11 cA v ++ [(q, .inl (cA 1, 1, .inr (.inl (fun _ => 0))))]
set_option maxRecDepth 100000 in
set_option maxHeartbeats 4000000 in
theorem wsA_map (cA : Nat → ClassId) (u v : Nat → Nat) (q : Nat) : pmA.map (fun i => (wsA cA u v q)[i]?) = (wld wC cA (adC u q) mu0 ++ wld wM cA v nu0).map some := by rfl
theorem filterMap_of_map {α β : Type} {f : α → Option β} {l : List α} {r : List β} (h : l.map f = r.map some) : l.filterMap f = r := by
  have h2 : l.filterMap f = (l.map f).filterMap id := by rw [List.filterMap_map]; rfl
  rw [h2, h, List.filterMap_map]
  simp
theorem wld_len (w : Wld) (cA : Nat → ClassId) (ad : Nat → Nat) (μ : Mem) : (wld w cA ad μ).length = w.1 := by simp [wld]
theorem P_left {D : va_G} {cl : List vw_C} {a b : va_W} {H : Heap} (h : va_P D cl (a ++ b) H) : va_P D cl a H := by
  intro k q hq
  have hk := (List.getElem?_eq_some_iff.mp hq).1
  exact h k q (by rw [List.getElem?_append_left hk]; exact hq)
theorem P_right {D : va_G} {cl : List vw_C} {a b : va_W} {H : Heap} (h : va_P D cl (a ++ b) H) : va_P D cl b H := by
  intro k q hq
  exact h (a.length + k) q (by rw [List.getElem?_append_right (by omega)]; simpa using hq)
theorem injs {A : Nat → Prop} {cA : Nat → ClassId} {ad aM : Nat → Nat} {μ ν : Mem} (h : va_D A (wld wC cA ad μ ++ wld wM cA aM ν)) : injA wC ad ∧ injA wM aM ∧ (∀ i j, i < wC.1 → j < wM.1 → ad i ≠ aM j) ∧ (∀ i, i < wC.1 → A (ad i)) ∧ ∀ j, j < wM.1 → A (aM j) := by
  have e1 : ∀ i, i < wC.1 → (wld wC cA ad μ ++ wld wM cA aM ν)[i]? = some (ad i, wcell wC cA ad μ i) := fun i hi => by
    rw [List.getElem?_append_left (by rw [wld_len]; exact hi)]; exact wld_at hi
  have e2 : ∀ j, j < wM.1 → (wld wC cA ad μ ++ wld wM cA aM ν)[wC.1 + j]? = some (aM j, wcell wM cA aM ν j) := fun j hj => by
    rw [List.getElem?_append_right (by rw [wld_len]; omega), wld_len, Nat.add_sub_cancel_left]; exact wld_at hj
  refine ⟨fun i j hi hj e => h.1 i j _ _ (e1 i hi) (e1 j hj) e, fun i j hi hj e => ?_, fun i j hi hj e => ?_, fun i hi => h.2 i _ (e1 i hi), fun j hj => h.2 _ _ (e2 j hj)⟩
  · have := h.1 _ _ _ _ (e2 i hi) (e2 j hj) e
    omega
  · have := h.1 _ _ _ _ (e1 i hi) (e2 j hj) e
    omega
theorem pmA_nd : va_nd pmA = true := by decide +kernel
theorem tl_tb {w : Cond} (h : w ∈ tb) : w ∈ lw_tbl := (tb_good h).1
set_option maxHeartbeats 4000000 in
set_option maxRecDepth 100000 in
/-- THE LAW, from its entry: over a relation of phase 2 that holds at first and that every call keeps -/
theorem whole_of {Rl : Mem → Mem → Prop} {N : Nat} (h0 : Rl mu0 nu0) (hstep : ∀ (v : Nat → Int32) (μ ν : Mem), Rl μ ν → ∃ z, lawStep N v μ ν = some z ∧ Rl z.1 z.2)
    {p : Program} {e : Env} {s : State} {m : MethodId} {below : List Frame} {meth : Method} {c : Code} (l : Launch) (hflags : l.flags = flags0) {b L : Nat} {xs : Nat → Int32} (hL : L ≤ 4096) (C0 : lw_At p s m meth c b L xs) : W p l e room_1 s m #[Value.ref b] below meth c s.heap [] 0 0 (lw_Z below #[Value.ref b] s) (entryFrame m ([Value.ref b] : List Value).toArray 8) := by
  obtain ⟨hx, hb, hr, hml, hown, hts, hX0, hbl, hlocks, hgv⟩ := id C0
  have htb : ∀ w ∈ tb, w.before #[Value.ref b] s = true := fun w hw => hts w (tl_tb hw)
  have hA : ∀ q : Nat, s.heap.size ≤ q → (fun q : Nat => s.heap.size ≤ q) q := fun _ h => h
  have hnA : ∀ a : Nat, a < s.heap.size → ¬ (fun q : Nat => s.heap.size ≤ q) a := fun a h => Nat.not_le.mpr h
  obtain ⟨D, cA, hK⟩ := K_start htb
  obtain ⟨adK, adV, hSW⟩ := SW_start (A := fun q : Nat => s.heap.size ≤ q) hts hgv hnA
  have hN := NW_start hts
  have hl := lv_entry ([.ref b]) (n := 8) (Nat.le_of_ble_eq_true rfl)
  rw [lg_entry_eq]
  generalize (lg_sl ([.ref b]) ++ List.replicate (8 - (lg_sl ([.ref b])).length) Slot.unset).toArray = ls at hl ⊢
  have hl : lv_has ls 8 [(0, .ref b)] := hl
  let X : Ctx := (p, l, e, room_1, s, m, #[Value.ref b], below, meth, c, 0, 0, lw_Z below #[Value.ref b] s, D, cA, fun _ => 0, fun q => s.heap.size ≤ q, 8, adK, adV)
  have hXd : Fd X cL_law 8 RL room_1 := ⟨hx, hb, hml, hown, htb, hK, hA, hlocks, trivial, rfl, rfl, hN, trivial⟩
  have key : GC X 0 [(0, .ref b)] [] [] 0 0 := by
    refine GD_new hXd 10 [.null, .null, .null, .null, .null, .null, .null, .null] rfl in_X10 tyX10 tyX10_ok wk_L_8 wi_X10 wn_X10 (fun j hj => by have h9 : j < 8 := hj; exact df_X10 j h9) ⟨Nat.le_of_ble_eq_true rfl, Nat.le_of_ble_eq_true rfl⟩ dL_law_0 (fun q0 => ?_)
    refine GD_dup hXd rfl dL_law_3 ?_
    refine GD_ctor (np := 0) hXd [.ref q0] (cX10_init_mk (cx_l X)) rfl wm_X10 wn_X10 wc_X10 ⟨by decide +kernel, by decide +kernel, by decide +kernel⟩ (Or.inl wl_L_131) rfl rfl (Nat.le_of_ble_eq_true rfl) ⟨rfl, rfl, Nat.le_of_ble_eq_true rfl, Nat.le_of_ble_eq_true rfl⟩ ⟨Nat.le_of_ble_eq_true rfl, Nat.le_of_ble_eq_true rfl⟩ dL_law_4 (fun u hu => ?_)
    subst hu
    refine GD_astore_n hXd [(1, .ref (u 0)), (0, .ref b)] rfl (by decide) rfl dL_law_7 ?_
    refine GD_new hXd 11 [.int 0, .null, .null, .null, .int 0, .int 0, .int 0, .null, .null, .null, .null, .null, .null, .null, .int 0, .int 0, .int 0, .int 0, .int 0, .int 0, .null, .null, .null, .null, .null, .null, .int 0, .int 0, .null, .int 0, .int 0, .null, .null, .null, .null, .null, .null, .int 0, .int 0, .int 0, .null, .null, .null, .null, .null, .int 0, .null, .int 0] rfl in_X11 tyX11 tyX11_ok wk_L_132 wi_X11 wn_X11 (fun j hj => by have h9 : j < 48 := hj; exact df_X11 j h9) ⟨Nat.le_of_ble_eq_true rfl, Nat.le_of_ble_eq_true rfl⟩ dL_law_8 (fun q1 => ?_)
    refine GD_dup hXd rfl dL_law_11 ?_
    refine GD_ctor (np := 0) hXd [.ref q1] (cX11_init_mk (cx_l X)) rfl wm_X11 wn_X11 wc_X11 ⟨by decide +kernel, by decide +kernel, by decide +kernel⟩ (Or.inl wl_L_134) rfl rfl (Nat.le_of_ble_eq_true rfl) ⟨rfl, rfl, Nat.le_of_ble_eq_true rfl, Nat.le_of_ble_eq_true rfl⟩ ⟨Nat.le_of_ble_eq_true rfl, Nat.le_of_ble_eq_true rfl⟩ dL_law_12 (fun v hv => ?_)
    subst hv
    refine GD_astore_n hXd [(2, .ref (v 0)), (1, .ref (u 0)), (0, .ref b)] rfl (by decide) rfl dL_law_15 ?_
    refine GD_iconst hXd (1 : Int32) rfl dL_law_16 ?_
    refine GD_newLong hXd 1 (by decide) (by decide) (Nat.le_of_ble_eq_true rfl) ⟨Nat.le_of_ble_eq_true rfl, Nat.le_of_ble_eq_true rfl⟩ dL_law_17 (fun q => ?_)
    refine GD_astore_n hXd [(3, .ref q), (2, .ref (v 0)), (1, .ref (u 0)), (0, .ref b)] rfl (by decide) rfl dL_law_19 ?_
    refine GD_iconst hXd (0 : Int32) rfl dL_law_20 ?_
    refine GD_istore hXd [(4, .int 0), (3, .ref q), (2, .ref (v 0)), (1, .ref (u 0)), (0, .ref b)] (by decide) rfl dL_law_21 ?_
    intro H locs ls hl hP hD hS
    have hP : va_P D vwCl (wsA cA u v q) H := hP
    have hD : va_D (fun q => s.heap.size ≤ q) (wsA cA u v q) := hD
    have hP2 := hP.sub pmA (filterMap_of_map (wsA_map cA u v q))
    have hD2 := hD.sub pmA pmA_nd (wsA_map cA u v q)
    let Y : Ctx := (p, l, e, room_1, s, m, #[Value.ref b], below, meth, c, 0, 0, lw_Z below #[Value.ref b] s, D, cA, adC u q, fun q => s.heap.size ≤ q, 8, adK, adV)
    have hY : FL Y v b L xs := ⟨hx, hb, hml, hown, htb, hK, rfl, injs hD2, rfl, rfl, hSW, ⟨hX0, hbl, hL⟩, by show Launch.stackTraces l = false; unfold Launch.stackTraces; rw [hflags]; decide +kernel⟩
    refine law_loop (X := Y) (aM := v) hY ?_ hstep 514 0 mu0 nu0 _ _ H locs ls (by omega) (by omega) h0 ?_ ?_ (lv_sub hl [4, 3, 2, 1, 0] rfl) (P_left hP2) (P_right hP2) hS
    · intro H locs ls k n hk hn hS
      refine lv_iconst (v := 1) hx hb dL_law_2721 (by decide) ?_
      refine va_forget (fun q hq => hS.2.2 q hq) ?_
      refine W.widen hk hn ?_
      exact lw_ret hx hb hr hlocks dL_law_2722
    · exact Nat.le_of_ble_eq_true rfl
    · exact Nat.le_of_ble_eq_true rfl
  exact key s.heap [] ls hl (fun k q h => by simp at h) ⟨fun i j p q h => by simp at h, fun k q h => by simp at h⟩ va_S.rf
