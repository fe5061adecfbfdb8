/-! The law's own start: rows for what it makes. -/
def FdL (X : Ctx) (cc : ByteArray) (nL : Nat) (own : String) (R : Room) : Prop :=
  (cx_p X).tables.exec = Jvm.exec ∧ (cx_c X).code = cc ∧ (cx_c X).maxLocals = nL ∧ (cx_s X).vm.findClass own = some (cx_m X).cls ∧ (∀ w ∈ tb, w.before (cx_args X) (cx_s X) = true) ∧
  va_K (cx_D X) vwCl (tysA (cx_cA X)) (cx_s X) ∧ (∀ q, (cx_s X).heap.size ≤ q → cx_A X q) ∧ (cx_meth X).locks = false ∧ True ∧ cx_R X = R ∧ cx_nL X = nL ∧ NW (cx_s X) ∧ True
section
variable {X : Ctx} {cc : ByteArray} {nL : Nat} {own : String} {R : Room} {pc : Nat} {lv : List (Nat × Value)} {st : List Value} {ws T : va_W} {k n : Nat}
theorem GD_iconst (hX : FdL X cc nL own R) {i : Int} (v : Int32) (hv : Int32.ofInt i = v) (d : decode cc pc = .ok (.iconst i, 1)) (kk : GC X (pc + 1) lv (.int v :: st) ws k n) : GC X pc lv (st) ws k n := by
  intro H locs ls hl hP hD hS
  exact lv_iconst hX.1 hX.2.1 d hv (kk H locs ls hl hP hD hS)
theorem GD_dup (hX : FdL X cc nL own R) {v : Value} (hv : v.category = 1) (d : decode cc pc = .ok (.dup, 1)) (kk : GC X (pc + 1) lv (v :: v :: st) ws k n) : GC X pc lv (v :: st) ws k n := by
  intro H locs ls hl hP hD hS
  exact lv_dup hX.1 hX.2.1 d hv (kk H locs ls hl hP hD hS)
theorem GD_newLong (hX : FdL X cc nL own R) {i : Int32} (N : Nat) (hi : ¬ i < 0) (hN : i.toNatClampNeg = N) (hb : N * componentBytes .long ≤ 536870912) (hr : k + 1 ≤ R.cells ∧ n + N ≤ R.slots) (d : decode cc pc = .ok (.newarray .long, 2)) (kk : ∀ q : Nat, GC X (pc + 2) lv (.ref q :: st) (ws ++ [(q, .inl (cx_cA X 1, N, .inr (.inl (fun _ => 0))))]) (k + 1) (n + N)) : GC X pc lv (.int i :: st) ws k n := by
  intro H locs ls hl hP hD hS
  have eR := hX.2.2.2.2.2.2.2.2.2.1
  have hK := hX.2.2.2.2.2.1
  refine va_newa (atype := .long) (ty := .long) (a0 := (N, .inr (.inl (fun _ => 0)))) hX.1 hX.2.1 (hX.2.2.2.2.1 _ aw_Long) rfl hK hP hD hS hX.2.2.2.2.2.2.1 (fun _ => rfl) hi hN hb (by rw [eR]; exact hr.1) (by rw [eR]; exact hr.2) d (fun q c0 H1 hK2 hP1 hD1 hS1 => ?_)
  have e := cls_arr hK 1 rfl (fun C h => by cases h) hK2
  rw [e] at hP1 hD1
  exact kk q H1 locs ls hl hP1 hD1 hS1
theorem GD_new (hX : FdL X cc nL own R) {C : String} {T0 : u_T} {N idx : Nat} (ci : Nat) (fs : List Value) (hcl : vwCl[ci]? = some (C, T0, N)) (hin : ∀ w ∈ u_ws C T0 N, w ∈ tb) (ty : Nat → FieldType) (hty : ∀ k, k < N → parseFieldDescriptor (T0 k).2.2.1 = some (ty k)) (hlk : Cond.classLink own idx C ∈ tb) (hins : Cond.instantiable C N ∈ tb) (hini : Cond.initialized C ∈ tb) (hfs : ∀ j, j < N → defaultValue (ty j) = vp_V fs j) (hr : k + 1 ≤ R.cells ∧ n + N ≤ R.slots) (d : decode cc pc = .ok (.new idx, 3)) (kk : ∀ q : Nat, GC X (pc + 3) lv (.ref q :: st) (ws ++ [(q, .inr (ci, fs))]) (k + 1) (n + N)) : GC X pc lv st ws k n := by
  intro H locs ls hl hP hD hS
  have eR := hX.2.2.2.2.2.2.2.2.2.1
  have hts := hX.2.2.2.2.1
  exact va_new hX.1 hX.2.1 hts hin ty hty hX.2.2.2.1 (hts _ hlk) (hts _ hins) (hts _ hini) hX.2.2.2.2.2.1 hP hD hS hX.2.2.2.2.2.2.1 hcl hfs (by rw [eR]; exact hr.1) (by rw [eR]; exact hr.2) d (fun q H1 hP1 hD1 hS1 => kk q H1 locs ls hl hP1 hD1 hS1)
theorem GD_ctor (hX : FdL X cc nL own R) {y : MethodName} {cc2 : ByteArray} {nL2 np idx q K2 S2 : Nat} {rm : Room} {as : List Value} {w0 : va_E} {blk : (Nat → ClassId) → (Nat → Nat) → va_W} {stk : List Value} (rest : List Value) (hM : Mk (cx_l X) y cc2 nL2 rm K2 S2 as w0 blk) (hyn : y.name = "<init>") (hin : Cond.instanceMethod y ∈ tb) (hini : Cond.initialized y.cls ∈ tb) (hcode : Cond.code y cc2 nL2 none ∈ tb) (hyc : y.cls ≠ "java/lang/invoke/MethodHandle" ∧ y.cls ≠ "java/lang/invoke/VarHandle" ∧ (parseMethodDescriptor y.desc).map (fun d => d.parameters.length) = some np) (hlk : Cond.methodLink own idx y ∈ tb ∨ ∃ host, (own, idx, y, host) ∈ nestS) (hst : stk = as.reverse ++ .ref q :: rest) (hnp : as.length = np) (hro : (rest.map fun v => v.category).sum ≤ 8) (hr : rm.cells = K2 ∧ rm.slots = S2 ∧ rm.frames + 1 ≤ R.frames ∧ 8 + (nL2 + 11) + rm.locals ≤ R.locals) (hcs : k + K2 ≤ R.cells ∧ n + S2 ≤ R.slots) (d : decode cc pc = .ok (.invokespecial idx, 3)) (kk : ∀ u : Nat → Nat, u 0 = q → GC X (pc + 3) lv rest (ws ++ blk (cx_cA X) u) (k + K2) (n + S2)) : GC X pc lv stk (ws ++ [(q, w0)]) k n := by
  intro H locs ls hl hP hD hS
  have hM := hM (cx_D X) (cx_cA X) H.size q
  have eR := hX.2.2.2.2.2.2.2.2.2.1
  have eN := hX.2.2.2.2.2.2.2.2.2.2.1
  have hts := hX.2.2.2.2.1
  subst hst
  have hlast : (ws ++ [(q, w0)])[ws.length]? = some (q, w0) := by rw [List.getElem?_append_right (Nat.le_refl _), Nat.sub_self]; rfl
  have hC : ([ws.length] : List Nat).map (fun i => (ws ++ [(q, w0)])[i]?) = ([(q, w0)] : va_W).map some := by simp only [List.map_cons, List.map_nil, hlast]
  have hR : (List.range ws.length).map (fun i => (ws ++ [(q, w0)])[i]?) = ws.map some := by
    apply List.ext_getElem?
    intro i
    by_cases hi : i < ws.length
    · simp [hi, List.getElem?_append_left hi]
    · simp [hi]
  have hn9 : va_nd (List.range ws.length) = true := by
    have g : ∀ (L : List Nat), L.Nodup → va_nd L = true := by
      intro L
      induction L with
      | nil => intro _; rfl
      | cons a L ih =>
        intro h
        rw [List.nodup_cons] at h
        simp [va_nd, h.1, ih h.2]
    exact g _ List.nodup_range
  have hPc : va_P (cx_D X) vwCl [(q, w0)] H := hP.sub [ws.length] (by simp only [List.filterMap_cons, hlast, List.filterMap_nil])
  have hFc := va_free (wc := [(q, w0)]) hD hS hX.2.2.2.2.2.2.1 [ws.length] hC
  have pre : PreS (cx_s X) H (va_Pc (.ref q :: as) (PCt (cx_D X) (cx_cA X) H.size q w0)) (.ref q :: as) := ⟨PCt.blind, fun U hU hW => ⟨rfl, by rw [hU], by rw [hU]; exact hPc, va_K.moved hW.alike hX.2.2.2.2.2.1, NW.go hW hX.2.2.2.2.2.2.2.2.2.2.2.1⟩⟩
  have run : va_Run (cx_p X) (cx_l X) (cx_e X) (cx_R X) (cx_s X) (cx_m X) (cx_args X) (cx_below X) (cx_meth X) (cx_c X) H locs k n K2 S2 (F0 (cx_m X) pc ls (as.reverse ++ .ref q :: rest)) rest (Qk (cx_D X) (cx_cA X) H.size q w0 blk (Value.ref q :: as).toArray) (va_A [(q, w0)] H.size) := by
    rcases hlk with hlk | ⟨host, hlk⟩
    · exact va_runI (As := as) (rest := rest) ⟨hX.1, hX.2.1, hX.2.2.1, hX.2.2.2.1, hts⟩ hM (cwI np hts (code_tb hcode) rfl hr.1 hr.2.1 (hts _ hini) (hts _ hlk) (hts _ hin) hyn hyc (by rw [eR]; exact hr.2.2)) pre rfl hnp (by rw [← eN]; exact hl.1) rfl (lv_room hro) d (by rw [eR]; exact hcs)
    · exact va_runIN (As := as) (rest := rest) ⟨hX.1, hX.2.1, hX.2.2.1, hX.2.2.2.1, hts⟩ hM ⟨va_cnB np hts (code_tb hcode) rfl hr.1 hr.2.1 (hX.2.2.2.2.2.2.2.2.2.2.2.1 _ hlk) (hts _ hini) hyc (by rw [eR]; exact hr.2.2), hyn, hts _ hin⟩ pre rfl hnp (by rw [← eN]; exact hl.1) rfl (lv_room hro) d (by rw [eR]; exact hcs)
  refine va_callv run hS (fun q _ h => hFc q h) hFc (fun u t H1 locs1 ht hvm hw hB hz1 hk1 hS1 => ?_)
  obtain ⟨hP1, hD1⟩ := hB
  rw [ht] at hP1
  obtain ⟨hPj, hDj⟩ := va_join (wc := [(q, w0)]) (wr := ws) (w1 := blk (cx_cA X) u) hP hD [ws.length] (List.range ws.length) hC hR hn9 (by intro i hi h; rw [List.mem_singleton] at h; rw [List.mem_range] at hi; omega) hk1 hFc hP1 hD1
  exact kk u hw H1 locs1 ls hl hPj hDj hS1
theorem GD_astore_n (hX : FdL X cc nL own R) {i : Fin 4} {j : Nat} {x : Nat} (lv' : List (Nat × Value)) (hi : (i : Nat) = j) (hn : j < nL) (hl9 : (j, Value.ref x) :: lv.filter (fun q => !(q.1 == j) && !(q.1 + 1 == j && q.2.category == 2)) = lv') (d : decode cc pc = .ok (.astore_n i, 1)) (kk : GC X (pc + 1) lv' st ws k n) : GC X pc lv (.ref x :: st) ws k n := by
  intro H locs ls hl hP hD hS
  exact lv_astore_n hX.1 hX.2.1 d hi hl (by rw [hX.2.2.2.2.2.2.2.2.2.2.1]; exact hn) hl9 (fun ls' hl' => kk H locs ls' hl' hP hD hS)
theorem GD_istore (hX : FdL X cc nL own R) {j : Nat} {x : Int32} (lv' : List (Nat × Value)) (hn : j < nL) (hl9 : (j, Value.int x) :: lv.filter (fun q => !(q.1 == j) && !(q.1 + 1 == j && q.2.category == 2)) = lv') (d : decode cc pc = .ok (.istore j, 2)) (kk : GC X (pc + 2) lv' st ws k n) : GC X pc lv (.int x :: st) ws k n := by
  intro H locs ls hl hP hD hS
  exact lv_istore hX.1 hX.2.1 d hl (by rw [hX.2.2.2.2.2.2.2.2.2.2.1]; exact hn) hl9 (fun ls' hl' => kk H locs ls' hl' hP hD hS)
end
def pmC : List Nat := [0, 59, 61, 65, 74, 79, 88, 60, 62, 63, 64, 66, 67, 68, 69, 70, 71, 72, 73, 75, 76, 77, 78, 80, 81, 82, 83, 84, 85, 86, 87, 89, 1, 2, 3, 4, 5, 6, 7, 13, 14, 15, 16, 17, 18, 19, 20, 21, 22, 23, 24, 25, 26, 27, 28, 8, 9, 10, 11, 12, 29, 30, 31, 32, 33, 34, 35, 36, 42, 43, 44, 45, 46, 47, 48, 49, 50, 51, 52, 53, 54, 55, 56, 57, 37, 38, 39, 40, 41, 58]
def pmA : List Nat := [0, 59, 61, 65, 74, 79, 88, 60, 62, 63, 64, 66, 67, 68, 69, 70, 71, 72, 73, 75, 76, 77, 78, 80, 81, 82, 83, 84, 85, 86, 87, 89, 1, 2, 3, 4, 5, 6, 7, 13, 14, 15, 16, 17, 18, 19, 20, 21, 22, 23, 24, 25, 26, 27, 28, 8, 9, 10, 11, 12, 29, 30, 31, 32, 33, 34, 35, 36, 42, 43, 44, 45, 46, 47, 48, 49, 50, 51, 52, 53, 54, 55, 56, 57, 37, 38, 39, 40, 41, 58, 120, 90, 91, 92, 93, 94, 95, 96, 97, 98, 99, 100, 101, 102, 103, 104, 105, 106, 107, 108, 109, 110, 111, 112, 113, 114, 115, 116, 117, 118, 119]
def mu0 : Mem := (fun a => if a = 60 then upd (fun _ => 0) 4 10 else if a = 89 then upd (fun _ => 0) 4 10 else if a = 1 then upd (fun _ => 0) 2 (-1) else if a = 3 then upd (fun _ => 0) 4 (-1) else fun _ => 0, fun _ _ => 0, fun a b => if a = 0 then (if b = 6 then 32 else 61) else if a = 1 then 61 else 32)
def nu0 : Mem := (fun a => if a = 1 then upd (fun _ => 0) 32 10 else if a = 0 then upd (fun _ => 0) 17 (-1) else fun _ => 0, fun _ _ => 0, fun _ _ => 0)
def adC (u : Nat → Nat) (q : Nat) : Nat → Nat := fun k => if k < 90 then u (pmC.getD k 0) else q
def wsA (cA : Nat → ClassId) (u v : Nat → Nat) (q : Nat) : va_W := bk_X10 cA u ++ bk_X11 cA v ++ [(q, .inl (cA 1, 1, .inr (.inl (fun _ => 0))))]
theorem ceC_0 (cA : Nat → ClassId) (u v : Nat → Nat) (q : Nat) : (wsA cA u v q)[0]? = some (adC u q 0, wcell wC cA (adC u q) mu0 0) := by rw [wcell_obj (show wC.2.1 0 = .inl 10 from rfl), tf_X10]; rfl
theorem ceC_1 (cA : Nat → ClassId) (u v : Nat → Nat) (q : Nat) : (wsA cA u v q)[59]? = some (adC u q 1, wcell wC cA (adC u q) mu0 1) := by rw [wcell_obj (show wC.2.1 1 = .inl 5 from rfl), tf_X5]; rfl
theorem ceC_2 (cA : Nat → ClassId) (u v : Nat → Nat) (q : Nat) : (wsA cA u v q)[61]? = some (adC u q 2, wcell wC cA (adC u q) mu0 2) := by rw [wcell_obj (show wC.2.1 2 = .inl 0 from rfl), tf_X0]; rfl
theorem ceC_3 (cA : Nat → ClassId) (u v : Nat → Nat) (q : Nat) : (wsA cA u v q)[65]? = some (adC u q 3, wcell wC cA (adC u q) mu0 3) := by rw [wcell_obj (show wC.2.1 3 = .inl 8 from rfl), tf_X8]; rfl
theorem ceC_4 (cA : Nat → ClassId) (u v : Nat → Nat) (q : Nat) : (wsA cA u v q)[74]? = some (adC u q 4, wcell wC cA (adC u q) mu0 4) := by rw [wcell_obj (show wC.2.1 4 = .inl 2 from rfl), tf_X2]; rfl
theorem ceC_5 (cA : Nat → ClassId) (u v : Nat → Nat) (q : Nat) : (wsA cA u v q)[79]? = some (adC u q 5, wcell wC cA (adC u q) mu0 5) := by rw [wcell_obj (show wC.2.1 5 = .inl 3 from rfl), tf_X3]; rfl
theorem ceC_6 (cA : Nat → ClassId) (u v : Nat → Nat) (q : Nat) : (wsA cA u v q)[88]? = some (adC u q 6, wcell wC cA (adC u q) mu0 6) := by rw [wcell_obj (show wC.2.1 6 = .inl 6 from rfl), tf_X6]; rfl
theorem ceC_7 (cA : Nat → ClassId) (u v : Nat → Nat) (q : Nat) : (wsA cA u v q)[60]? = some (adC u q 7, wcell wC cA (adC u q) mu0 7) := by rw [wcell_arr (show wC.2.1 7 = .inr (2, 400) from rfl) (by decide)]; rfl
theorem ceC_8 (cA : Nat → ClassId) (u v : Nat → Nat) (q : Nat) : (wsA cA u v q)[62]? = some (adC u q 8, wcell wC cA (adC u q) mu0 8) := by rw [wcell_arr (show wC.2.1 8 = .inr (0, 16) from rfl) (by decide)]; rfl
theorem ceC_9 (cA : Nat → ClassId) (u v : Nat → Nat) (q : Nat) : (wsA cA u v q)[63]? = some (adC u q 9, wcell wC cA (adC u q) mu0 9) := by rw [wcell_arr (show wC.2.1 9 = .inr (0, 16) from rfl) (by decide)]; rfl
theorem ceC_10 (cA : Nat → ClassId) (u v : Nat → Nat) (q : Nat) : (wsA cA u v q)[64]? = some (adC u q 10, wcell wC cA (adC u q) mu0 10) := by rw [wcell_arr (show wC.2.1 10 = .inr (0, 16) from rfl) (by decide)]; rfl
theorem ceC_11 (cA : Nat → ClassId) (u v : Nat → Nat) (q : Nat) : (wsA cA u v q)[66]? = some (adC u q 11, wcell wC cA (adC u q) mu0 11) := by rw [wcell_arr (show wC.2.1 11 = .inr (0, 6) from rfl) (by decide)]; rfl
theorem ceC_12 (cA : Nat → ClassId) (u v : Nat → Nat) (q : Nat) : (wsA cA u v q)[67]? = some (adC u q 12, wcell wC cA (adC u q) mu0 12) := by rw [wcell_arr (show wC.2.1 12 = .inr (0, 6) from rfl) (by decide)]; rfl
theorem ceC_13 (cA : Nat → ClassId) (u v : Nat → Nat) (q : Nat) : (wsA cA u v q)[68]? = some (adC u q 13, wcell wC cA (adC u q) mu0 13) := by rw [wcell_arr (show wC.2.1 13 = .inr (3, 40) from rfl) (by decide)]; rfl
theorem ceC_14 (cA : Nat → ClassId) (u v : Nat → Nat) (q : Nat) : (wsA cA u v q)[69]? = some (adC u q 14, wcell wC cA (adC u q) mu0 14) := by rw [wcell_arr (show wC.2.1 14 = .inr (3, 40) from rfl) (by decide)]; rfl
theorem ceC_15 (cA : Nat → ClassId) (u v : Nat → Nat) (q : Nat) : (wsA cA u v q)[70]? = some (adC u q 15, wcell wC cA (adC u q) mu0 15) := by rw [wcell_arr (show wC.2.1 15 = .inr (3, 6) from rfl) (by decide)]; rfl
theorem ceC_16 (cA : Nat → ClassId) (u v : Nat → Nat) (q : Nat) : (wsA cA u v q)[71]? = some (adC u q 16, wcell wC cA (adC u q) mu0 16) := by rw [wcell_arr (show wC.2.1 16 = .inr (0, 24) from rfl) (by decide)]; rfl
theorem ceC_17 (cA : Nat → ClassId) (u v : Nat → Nat) (q : Nat) : (wsA cA u v q)[72]? = some (adC u q 17, wcell wC cA (adC u q) mu0 17) := by rw [wcell_arrL (show wC.2.1 17 = .inr (1, 24) from rfl)]; rfl
theorem ceC_18 (cA : Nat → ClassId) (u v : Nat → Nat) (q : Nat) : (wsA cA u v q)[73]? = some (adC u q 18, wcell wC cA (adC u q) mu0 18) := by rw [wcell_arr (show wC.2.1 18 = .inr (0, 3) from rfl) (by decide)]; rfl
theorem ceC_19 (cA : Nat → ClassId) (u v : Nat → Nat) (q : Nat) : (wsA cA u v q)[75]? = some (adC u q 19, wcell wC cA (adC u q) mu0 19) := by rw [wcell_arr (show wC.2.1 19 = .inr (0, 40) from rfl) (by decide)]; rfl
theorem ceC_20 (cA : Nat → ClassId) (u v : Nat → Nat) (q : Nat) : (wsA cA u v q)[76]? = some (adC u q 20, wcell wC cA (adC u q) mu0 20) := by rw [wcell_arr (show wC.2.1 20 = .inr (0, 40) from rfl) (by decide)]; rfl
theorem ceC_21 (cA : Nat → ClassId) (u v : Nat → Nat) (q : Nat) : (wsA cA u v q)[77]? = some (adC u q 21, wcell wC cA (adC u q) mu0 21) := by rw [wcell_arrL (show wC.2.1 21 = .inr (1, 40) from rfl)]; rfl
theorem ceC_22 (cA : Nat → ClassId) (u v : Nat → Nat) (q : Nat) : (wsA cA u v q)[78]? = some (adC u q 22, wcell wC cA (adC u q) mu0 22) := by rw [wcell_arrL (show wC.2.1 22 = .inr (1, 40) from rfl)]; rfl
theorem ceC_23 (cA : Nat → ClassId) (u v : Nat → Nat) (q : Nat) : (wsA cA u v q)[80]? = some (adC u q 23, wcell wC cA (adC u q) mu0 23) := by rw [wcell_arr (show wC.2.1 23 = .inr (0, 4) from rfl) (by decide)]; rfl
theorem ceC_24 (cA : Nat → ClassId) (u v : Nat → Nat) (q : Nat) : (wsA cA u v q)[81]? = some (adC u q 24, wcell wC cA (adC u q) mu0 24) := by rw [wcell_arr (show wC.2.1 24 = .inr (0, 4) from rfl) (by decide)]; rfl
theorem ceC_25 (cA : Nat → ClassId) (u v : Nat → Nat) (q : Nat) : (wsA cA u v q)[82]? = some (adC u q 25, wcell wC cA (adC u q) mu0 25) := by rw [wcell_arr (show wC.2.1 25 = .inr (0, 4) from rfl) (by decide)]; rfl
theorem ceC_26 (cA : Nat → ClassId) (u v : Nat → Nat) (q : Nat) : (wsA cA u v q)[83]? = some (adC u q 26, wcell wC cA (adC u q) mu0 26) := by rw [wcell_arr (show wC.2.1 26 = .inr (0, 4) from rfl) (by decide)]; rfl
theorem ceC_27 (cA : Nat → ClassId) (u v : Nat → Nat) (q : Nat) : (wsA cA u v q)[84]? = some (adC u q 27, wcell wC cA (adC u q) mu0 27) := by rw [wcell_arr (show wC.2.1 27 = .inr (3, 4) from rfl) (by decide)]; rfl
theorem ceC_28 (cA : Nat → ClassId) (u v : Nat → Nat) (q : Nat) : (wsA cA u v q)[85]? = some (adC u q 28, wcell wC cA (adC u q) mu0 28) := by rw [wcell_arr (show wC.2.1 28 = .inr (0, 4) from rfl) (by decide)]; rfl
theorem ceC_29 (cA : Nat → ClassId) (u v : Nat → Nat) (q : Nat) : (wsA cA u v q)[86]? = some (adC u q 29, wcell wC cA (adC u q) mu0 29) := by rw [wcell_arr (show wC.2.1 29 = .inr (0, 12) from rfl) (by decide)]; rfl
theorem ceC_30 (cA : Nat → ClassId) (u v : Nat → Nat) (q : Nat) : (wsA cA u v q)[87]? = some (adC u q 30, wcell wC cA (adC u q) mu0 30) := by rw [wcell_arrL (show wC.2.1 30 = .inr (1, 12) from rfl)]; rfl
theorem ceC_31 (cA : Nat → ClassId) (u v : Nat → Nat) (q : Nat) : (wsA cA u v q)[89]? = some (adC u q 31, wcell wC cA (adC u q) mu0 31) := by rw [wcell_arr (show wC.2.1 31 = .inr (2, 64) from rfl) (by decide)]; rfl
theorem ceC_32 (cA : Nat → ClassId) (u v : Nat → Nat) (q : Nat) : (wsA cA u v q)[1]? = some (adC u q 32, wcell wC cA (adC u q) mu0 32) := by rw [wcell_obj (show wC.2.1 32 = .inl 1 from rfl), tf_X1]; rfl
theorem ceC_33 (cA : Nat → ClassId) (u v : Nat → Nat) (q : Nat) : (wsA cA u v q)[2]? = some (adC u q 33, wcell wC cA (adC u q) mu0 33) := by rw [wcell_obj (show wC.2.1 33 = .inl 4 from rfl), tf_X4]; rfl
theorem ceC_34 (cA : Nat → ClassId) (u v : Nat → Nat) (q : Nat) : (wsA cA u v q)[3]? = some (adC u q 34, wcell wC cA (adC u q) mu0 34) := by rw [wcell_arr (show wC.2.1 34 = .inr (2, 36) from rfl) (by decide)]; rfl
theorem ceC_35 (cA : Nat → ClassId) (u v : Nat → Nat) (q : Nat) : (wsA cA u v q)[4]? = some (adC u q 35, wcell wC cA (adC u q) mu0 35) := by rw [wcell_arr (show wC.2.1 35 = .inr (0, 6) from rfl) (by decide)]; rfl
theorem ceC_36 (cA : Nat → ClassId) (u v : Nat → Nat) (q : Nat) : (wsA cA u v q)[5]? = some (adC u q 36, wcell wC cA (adC u q) mu0 36) := by rw [wcell_obj (show wC.2.1 36 = .inl 4 from rfl), tf_X4]; rfl
theorem ceC_37 (cA : Nat → ClassId) (u v : Nat → Nat) (q : Nat) : (wsA cA u v q)[6]? = some (adC u q 37, wcell wC cA (adC u q) mu0 37) := by rw [wcell_arr (show wC.2.1 37 = .inr (2, 36) from rfl) (by decide)]; rfl
theorem ceC_38 (cA : Nat → ClassId) (u v : Nat → Nat) (q : Nat) : (wsA cA u v q)[7]? = some (adC u q 38, wcell wC cA (adC u q) mu0 38) := by rw [wcell_arr (show wC.2.1 38 = .inr (0, 6) from rfl) (by decide)]; rfl
theorem ceC_39 (cA : Nat → ClassId) (u v : Nat → Nat) (q : Nat) : (wsA cA u v q)[13]? = some (adC u q 39, wcell wC cA (adC u q) mu0 39) := by rw [wcell_obj (show wC.2.1 39 = .inl 9 from rfl), tf_X9]; rfl
theorem ceC_40 (cA : Nat → ClassId) (u v : Nat → Nat) (q : Nat) : (wsA cA u v q)[14]? = some (adC u q 40, wcell wC cA (adC u q) mu0 40) := by rw [wcell_arr (show wC.2.1 40 = .inr (0, 400) from rfl) (by decide)]; rfl
theorem ceC_41 (cA : Nat → ClassId) (u v : Nat → Nat) (q : Nat) : (wsA cA u v q)[15]? = some (adC u q 41, wcell wC cA (adC u q) mu0 41) := by rw [wcell_arr (show wC.2.1 41 = .inr (0, 3) from rfl) (by decide)]; rfl
theorem ceC_42 (cA : Nat → ClassId) (u v : Nat → Nat) (q : Nat) : (wsA cA u v q)[16]? = some (adC u q 42, wcell wC cA (adC u q) mu0 42) := by rw [wcell_arr (show wC.2.1 42 = .inr (0, 3) from rfl) (by decide)]; rfl
theorem ceC_43 (cA : Nat → ClassId) (u v : Nat → Nat) (q : Nat) : (wsA cA u v q)[17]? = some (adC u q 43, wcell wC cA (adC u q) mu0 43) := by rw [wcell_arrL (show wC.2.1 43 = .inr (1, 16) from rfl)]; rfl
theorem ceC_44 (cA : Nat → ClassId) (u v : Nat → Nat) (q : Nat) : (wsA cA u v q)[18]? = some (adC u q 44, wcell wC cA (adC u q) mu0 44) := by rw [wcell_obj (show wC.2.1 44 = .inl 7 from rfl), tf_X7]; rfl
theorem ceC_45 (cA : Nat → ClassId) (u v : Nat → Nat) (q : Nat) : (wsA cA u v q)[19]? = some (adC u q 45, wcell wC cA (adC u q) mu0 45) := by rw [wcell_arr (show wC.2.1 45 = .inr (0, 40) from rfl) (by decide)]; rfl
theorem ceC_46 (cA : Nat → ClassId) (u v : Nat → Nat) (q : Nat) : (wsA cA u v q)[20]? = some (adC u q 46, wcell wC cA (adC u q) mu0 46) := by rw [wcell_arr (show wC.2.1 46 = .inr (0, 40) from rfl) (by decide)]; rfl
theorem ceC_47 (cA : Nat → ClassId) (u v : Nat → Nat) (q : Nat) : (wsA cA u v q)[21]? = some (adC u q 47, wcell wC cA (adC u q) mu0 47) := by rw [wcell_arr (show wC.2.1 47 = .inr (0, 40) from rfl) (by decide)]; rfl
theorem ceC_48 (cA : Nat → ClassId) (u v : Nat → Nat) (q : Nat) : (wsA cA u v q)[22]? = some (adC u q 48, wcell wC cA (adC u q) mu0 48) := by rw [wcell_arr (show wC.2.1 48 = .inr (0, 40) from rfl) (by decide)]; rfl
theorem ceC_49 (cA : Nat → ClassId) (u v : Nat → Nat) (q : Nat) : (wsA cA u v q)[23]? = some (adC u q 49, wcell wC cA (adC u q) mu0 49) := by rw [wcell_arr (show wC.2.1 49 = .inr (0, 40) from rfl) (by decide)]; rfl
theorem ceC_50 (cA : Nat → ClassId) (u v : Nat → Nat) (q : Nat) : (wsA cA u v q)[24]? = some (adC u q 50, wcell wC cA (adC u q) mu0 50) := by rw [wcell_arr (show wC.2.1 50 = .inr (0, 40) from rfl) (by decide)]; rfl
theorem ceC_51 (cA : Nat → ClassId) (u v : Nat → Nat) (q : Nat) : (wsA cA u v q)[25]? = some (adC u q 51, wcell wC cA (adC u q) mu0 51) := by rw [wcell_arr (show wC.2.1 51 = .inr (0, 40) from rfl) (by decide)]; rfl
theorem ceC_52 (cA : Nat → ClassId) (u v : Nat → Nat) (q : Nat) : (wsA cA u v q)[26]? = some (adC u q 52, wcell wC cA (adC u q) mu0 52) := by rw [wcell_arr (show wC.2.1 52 = .inr (0, 40) from rfl) (by decide)]; rfl
theorem ceC_53 (cA : Nat → ClassId) (u v : Nat → Nat) (q : Nat) : (wsA cA u v q)[27]? = some (adC u q 53, wcell wC cA (adC u q) mu0 53) := by rw [wcell_arr (show wC.2.1 53 = .inr (0, 40) from rfl) (by decide)]; rfl
theorem ceC_54 (cA : Nat → ClassId) (u v : Nat → Nat) (q : Nat) : (wsA cA u v q)[28]? = some (adC u q 54, wcell wC cA (adC u q) mu0 54) := by rw [wcell_arr (show wC.2.1 54 = .inr (3, 40) from rfl) (by decide)]; rfl
theorem ceC_55 (cA : Nat → ClassId) (u v : Nat → Nat) (q : Nat) : (wsA cA u v q)[8]? = some (adC u q 55, wcell wC cA (adC u q) mu0 55) := by rw [wcell_arr (show wC.2.1 55 = .inr (0, 6) from rfl) (by decide)]; rfl
theorem ceC_56 (cA : Nat → ClassId) (u v : Nat → Nat) (q : Nat) : (wsA cA u v q)[9]? = some (adC u q 56, wcell wC cA (adC u q) mu0 56) := by rw [wcell_arr (show wC.2.1 56 = .inr (0, 6) from rfl) (by decide)]; rfl
theorem ceC_57 (cA : Nat → ClassId) (u v : Nat → Nat) (q : Nat) : (wsA cA u v q)[10]? = some (adC u q 57, wcell wC cA (adC u q) mu0 57) := by rw [wcell_arr (show wC.2.1 57 = .inr (0, 6) from rfl) (by decide)]; rfl
theorem ceC_58 (cA : Nat → ClassId) (u v : Nat → Nat) (q : Nat) : (wsA cA u v q)[11]? = some (adC u q 58, wcell wC cA (adC u q) mu0 58) := by rw [wcell_arr (show wC.2.1 58 = .inr (0, 24) from rfl) (by decide)]; rfl
theorem ceC_59 (cA : Nat → ClassId) (u v : Nat → Nat) (q : Nat) : (wsA cA u v q)[12]? = some (adC u q 59, wcell wC cA (adC u q) mu0 59) := by rw [wcell_arr (show wC.2.1 59 = .inr (3, 4) from rfl) (by decide)]; rfl
theorem ceC_60 (cA : Nat → ClassId) (u v : Nat → Nat) (q : Nat) : (wsA cA u v q)[29]? = some (adC u q 60, wcell wC cA (adC u q) mu0 60) := by rw [wcell_arr (show wC.2.1 60 = .inr (0, 6) from rfl) (by decide)]; rfl
theorem ceC_61 (cA : Nat → ClassId) (u v : Nat → Nat) (q : Nat) : (wsA cA u v q)[30]? = some (adC u q 61, wcell wC cA (adC u q) mu0 61) := by rw [wcell_obj (show wC.2.1 61 = .inl 1 from rfl), tf_X1]; rfl
theorem ceC_62 (cA : Nat → ClassId) (u v : Nat → Nat) (q : Nat) : (wsA cA u v q)[31]? = some (adC u q 62, wcell wC cA (adC u q) mu0 62) := by rw [wcell_obj (show wC.2.1 62 = .inl 4 from rfl), tf_X4]; rfl
theorem ceC_63 (cA : Nat → ClassId) (u v : Nat → Nat) (q : Nat) : (wsA cA u v q)[32]? = some (adC u q 63, wcell wC cA (adC u q) mu0 63) := by rw [wcell_arr (show wC.2.1 63 = .inr (2, 36) from rfl) (by decide)]; rfl
theorem ceC_64 (cA : Nat → ClassId) (u v : Nat → Nat) (q : Nat) : (wsA cA u v q)[33]? = some (adC u q 64, wcell wC cA (adC u q) mu0 64) := by rw [wcell_arr (show wC.2.1 64 = .inr (0, 6) from rfl) (by decide)]; rfl
theorem ceC_65 (cA : Nat → ClassId) (u v : Nat → Nat) (q : Nat) : (wsA cA u v q)[34]? = some (adC u q 65, wcell wC cA (adC u q) mu0 65) := by rw [wcell_obj (show wC.2.1 65 = .inl 4 from rfl), tf_X4]; rfl
theorem ceC_66 (cA : Nat → ClassId) (u v : Nat → Nat) (q : Nat) : (wsA cA u v q)[35]? = some (adC u q 66, wcell wC cA (adC u q) mu0 66) := by rw [wcell_arr (show wC.2.1 66 = .inr (2, 36) from rfl) (by decide)]; rfl
theorem ceC_67 (cA : Nat → ClassId) (u v : Nat → Nat) (q : Nat) : (wsA cA u v q)[36]? = some (adC u q 67, wcell wC cA (adC u q) mu0 67) := by rw [wcell_arr (show wC.2.1 67 = .inr (0, 6) from rfl) (by decide)]; rfl
theorem ceC_68 (cA : Nat → ClassId) (u v : Nat → Nat) (q : Nat) : (wsA cA u v q)[42]? = some (adC u q 68, wcell wC cA (adC u q) mu0 68) := by rw [wcell_obj (show wC.2.1 68 = .inl 9 from rfl), tf_X9]; rfl
theorem ceC_69 (cA : Nat → ClassId) (u v : Nat → Nat) (q : Nat) : (wsA cA u v q)[43]? = some (adC u q 69, wcell wC cA (adC u q) mu0 69) := by rw [wcell_arr (show wC.2.1 69 = .inr (0, 400) from rfl) (by decide)]; rfl
theorem ceC_70 (cA : Nat → ClassId) (u v : Nat → Nat) (q : Nat) : (wsA cA u v q)[44]? = some (adC u q 70, wcell wC cA (adC u q) mu0 70) := by rw [wcell_arr (show wC.2.1 70 = .inr (0, 3) from rfl) (by decide)]; rfl
theorem ceC_71 (cA : Nat → ClassId) (u v : Nat → Nat) (q : Nat) : (wsA cA u v q)[45]? = some (adC u q 71, wcell wC cA (adC u q) mu0 71) := by rw [wcell_arr (show wC.2.1 71 = .inr (0, 3) from rfl) (by decide)]; rfl
theorem ceC_72 (cA : Nat → ClassId) (u v : Nat → Nat) (q : Nat) : (wsA cA u v q)[46]? = some (adC u q 72, wcell wC cA (adC u q) mu0 72) := by rw [wcell_arrL (show wC.2.1 72 = .inr (1, 16) from rfl)]; rfl
theorem ceC_73 (cA : Nat → ClassId) (u v : Nat → Nat) (q : Nat) : (wsA cA u v q)[47]? = some (adC u q 73, wcell wC cA (adC u q) mu0 73) := by rw [wcell_obj (show wC.2.1 73 = .inl 7 from rfl), tf_X7]; rfl
theorem ceC_74 (cA : Nat → ClassId) (u v : Nat → Nat) (q : Nat) : (wsA cA u v q)[48]? = some (adC u q 74, wcell wC cA (adC u q) mu0 74) := by rw [wcell_arr (show wC.2.1 74 = .inr (0, 40) from rfl) (by decide)]; rfl
theorem ceC_75 (cA : Nat → ClassId) (u v : Nat → Nat) (q : Nat) : (wsA cA u v q)[49]? = some (adC u q 75, wcell wC cA (adC u q) mu0 75) := by rw [wcell_arr (show wC.2.1 75 = .inr (0, 40) from rfl) (by decide)]; rfl
theorem ceC_76 (cA : Nat → ClassId) (u v : Nat → Nat) (q : Nat) : (wsA cA u v q)[50]? = some (adC u q 76, wcell wC cA (adC u q) mu0 76) := by rw [wcell_arr (show wC.2.1 76 = .inr (0, 40) from rfl) (by decide)]; rfl
theorem ceC_77 (cA : Nat → ClassId) (u v : Nat → Nat) (q : Nat) : (wsA cA u v q)[51]? = some (adC u q 77, wcell wC cA (adC u q) mu0 77) := by rw [wcell_arr (show wC.2.1 77 = .inr (0, 40) from rfl) (by decide)]; rfl
theorem ceC_78 (cA : Nat → ClassId) (u v : Nat → Nat) (q : Nat) : (wsA cA u v q)[52]? = some (adC u q 78, wcell wC cA (adC u q) mu0 78) := by rw [wcell_arr (show wC.2.1 78 = .inr (0, 40) from rfl) (by decide)]; rfl
theorem ceC_79 (cA : Nat → ClassId) (u v : Nat → Nat) (q : Nat) : (wsA cA u v q)[53]? = some (adC u q 79, wcell wC cA (adC u q) mu0 79) := by rw [wcell_arr (show wC.2.1 79 = .inr (0, 40) from rfl) (by decide)]; rfl
theorem ceC_80 (cA : Nat → ClassId) (u v : Nat → Nat) (q : Nat) : (wsA cA u v q)[54]? = some (adC u q 80, wcell wC cA (adC u q) mu0 80) := by rw [wcell_arr (show wC.2.1 80 = .inr (0, 40) from rfl) (by decide)]; rfl
theorem ceC_81 (cA : Nat → ClassId) (u v : Nat → Nat) (q : Nat) : (wsA cA u v q)[55]? = some (adC u q 81, wcell wC cA (adC u q) mu0 81) := by rw [wcell_arr (show wC.2.1 81 = .inr (0, 40) from rfl) (by decide)]; rfl
theorem ceC_82 (cA : Nat → ClassId) (u v : Nat → Nat) (q : Nat) : (wsA cA u v q)[56]? = some (adC u q 82, wcell wC cA (adC u q) mu0 82) := by rw [wcell_arr (show wC.2.1 82 = .inr (0, 40) from rfl) (by decide)]; rfl
theorem ceC_83 (cA : Nat → ClassId) (u v : Nat → Nat) (q : Nat) : (wsA cA u v q)[57]? = some (adC u q 83, wcell wC cA (adC u q) mu0 83) := by rw [wcell_arr (show wC.2.1 83 = .inr (3, 40) from rfl) (by decide)]; rfl
theorem ceC_84 (cA : Nat → ClassId) (u v : Nat → Nat) (q : Nat) : (wsA cA u v q)[37]? = some (adC u q 84, wcell wC cA (adC u q) mu0 84) := by rw [wcell_arr (show wC.2.1 84 = .inr (0, 6) from rfl) (by decide)]; rfl
theorem ceC_85 (cA : Nat → ClassId) (u v : Nat → Nat) (q : Nat) : (wsA cA u v q)[38]? = some (adC u q 85, wcell wC cA (adC u q) mu0 85) := by rw [wcell_arr (show wC.2.1 85 = .inr (0, 6) from rfl) (by decide)]; rfl
theorem ceC_86 (cA : Nat → ClassId) (u v : Nat → Nat) (q : Nat) : (wsA cA u v q)[39]? = some (adC u q 86, wcell wC cA (adC u q) mu0 86) := by rw [wcell_arr (show wC.2.1 86 = .inr (0, 6) from rfl) (by decide)]; rfl
theorem ceC_87 (cA : Nat → ClassId) (u v : Nat → Nat) (q : Nat) : (wsA cA u v q)[40]? = some (adC u q 87, wcell wC cA (adC u q) mu0 87) := by rw [wcell_arr (show wC.2.1 87 = .inr (0, 24) from rfl) (by decide)]; rfl
theorem ceC_88 (cA : Nat → ClassId) (u v : Nat → Nat) (q : Nat) : (wsA cA u v q)[41]? = some (adC u q 88, wcell wC cA (adC u q) mu0 88) := by rw [wcell_arr (show wC.2.1 88 = .inr (3, 4) from rfl) (by decide)]; rfl
theorem ceC_89 (cA : Nat → ClassId) (u v : Nat → Nat) (q : Nat) : (wsA cA u v q)[58]? = some (adC u q 89, wcell wC cA (adC u q) mu0 89) := by rw [wcell_arr (show wC.2.1 89 = .inr (0, 6) from rfl) (by decide)]; rfl
theorem ceC_90 (cA : Nat → ClassId) (u v : Nat → Nat) (q : Nat) : (wsA cA u v q)[120]? = some (adC u q 90, wcell wC cA (adC u q) mu0 90) := by rw [wcell_arrL (show wC.2.1 90 = .inr (1, 1) from rfl)]; rfl
theorem ceM_0 (cA : Nat → ClassId) (u v : Nat → Nat) (q : Nat) : (wsA cA u v q)[90]? = some (v 0, wcell wM cA v nu0 0) := by rw [wcell_obj (show wM.2.1 0 = .inl 11 from rfl), tf_X11]; simp only [List.mapIdx_cons, List.mapIdx_nil]; rfl
theorem ceM_1 (cA : Nat → ClassId) (u v : Nat → Nat) (q : Nat) : (wsA cA u v q)[91]? = some (v 1, wcell wM cA v nu0 1) := by rw [wcell_arr (show wM.2.1 1 = .inr (0, 355) from rfl) (by decide)]; rfl
theorem ceM_2 (cA : Nat → ClassId) (u v : Nat → Nat) (q : Nat) : (wsA cA u v q)[92]? = some (v 2, wcell wM cA v nu0 2) := by rw [wcell_arr (show wM.2.1 2 = .inr (0, 355) from rfl) (by decide)]; rfl
theorem ceM_3 (cA : Nat → ClassId) (u v : Nat → Nat) (q : Nat) : (wsA cA u v q)[93]? = some (v 3, wcell wM cA v nu0 3) := by rw [wcell_arr (show wM.2.1 3 = .inr (0, 5680) from rfl) (by decide)]; rfl
theorem ceM_4 (cA : Nat → ClassId) (u v : Nat → Nat) (q : Nat) : (wsA cA u v q)[94]? = some (v 4, wcell wM cA v nu0 4) := by rw [wcell_arr (show wM.2.1 4 = .inr (0, 6) from rfl) (by decide)]; rfl
theorem ceM_5 (cA : Nat → ClassId) (u v : Nat → Nat) (q : Nat) : (wsA cA u v q)[95]? = some (v 5, wcell wM cA v nu0 5) := by rw [wcell_arr (show wM.2.1 5 = .inr (0, 4) from rfl) (by decide)]; rfl
theorem ceM_6 (cA : Nat → ClassId) (u v : Nat → Nat) (q : Nat) : (wsA cA u v q)[96]? = some (v 6, wcell wM cA v nu0 6) := by rw [wcell_arr (show wM.2.1 6 = .inr (0, 18) from rfl) (by decide)]; rfl
theorem ceM_7 (cA : Nat → ClassId) (u v : Nat → Nat) (q : Nat) : (wsA cA u v q)[97]? = some (v 7, wcell wM cA v nu0 7) := by rw [wcell_arr (show wM.2.1 7 = .inr (0, 1200) from rfl) (by decide)]; rfl
theorem ceM_8 (cA : Nat → ClassId) (u v : Nat → Nat) (q : Nat) : (wsA cA u v q)[98]? = some (v 8, wcell wM cA v nu0 8) := by rw [wcell_arr (show wM.2.1 8 = .inr (0, 1200) from rfl) (by decide)]; rfl
theorem ceM_9 (cA : Nat → ClassId) (u v : Nat → Nat) (q : Nat) : (wsA cA u v q)[99]? = some (v 9, wcell wM cA v nu0 9) := by rw [wcell_arr (show wM.2.1 9 = .inr (0, 3) from rfl) (by decide)]; rfl
theorem ceM_10 (cA : Nat → ClassId) (u v : Nat → Nat) (q : Nat) : (wsA cA u v q)[100]? = some (v 10, wcell wM cA v nu0 10) := by rw [wcell_arr (show wM.2.1 10 = .inr (2, 400) from rfl) (by decide)]; rfl
theorem ceM_11 (cA : Nat → ClassId) (u v : Nat → Nat) (q : Nat) : (wsA cA u v q)[101]? = some (v 11, wcell wM cA v nu0 11) := by rw [wcell_arr (show wM.2.1 11 = .inr (0, 6) from rfl) (by decide)]; rfl
theorem ceM_12 (cA : Nat → ClassId) (u v : Nat → Nat) (q : Nat) : (wsA cA u v q)[102]? = some (v 12, wcell wM cA v nu0 12) := by rw [wcell_arr (show wM.2.1 12 = .inr (0, 4) from rfl) (by decide)]; rfl
theorem ceM_13 (cA : Nat → ClassId) (u v : Nat → Nat) (q : Nat) : (wsA cA u v q)[103]? = some (v 13, wcell wM cA v nu0 13) := by rw [wcell_arr (show wM.2.1 13 = .inr (0, 18) from rfl) (by decide)]; rfl
theorem ceM_14 (cA : Nat → ClassId) (u v : Nat → Nat) (q : Nat) : (wsA cA u v q)[104]? = some (v 14, wcell wM cA v nu0 14) := by rw [wcell_arr (show wM.2.1 14 = .inr (0, 1200) from rfl) (by decide)]; rfl
theorem ceM_15 (cA : Nat → ClassId) (u v : Nat → Nat) (q : Nat) : (wsA cA u v q)[105]? = some (v 15, wcell wM cA v nu0 15) := by rw [wcell_arr (show wM.2.1 15 = .inr (0, 1200) from rfl) (by decide)]; rfl
theorem ceM_16 (cA : Nat → ClassId) (u v : Nat → Nat) (q : Nat) : (wsA cA u v q)[106]? = some (v 16, wcell wM cA v nu0 16) := by rw [wcell_arr (show wM.2.1 16 = .inr (0, 3) from rfl) (by decide)]; rfl
theorem ceM_17 (cA : Nat → ClassId) (u v : Nat → Nat) (q : Nat) : (wsA cA u v q)[107]? = some (v 17, wcell wM cA v nu0 17) := by rw [wcell_arr (show wM.2.1 17 = .inr (0, 410) from rfl) (by decide)]; rfl
theorem ceM_18 (cA : Nat → ClassId) (u v : Nat → Nat) (q : Nat) : (wsA cA u v q)[108]? = some (v 18, wcell wM cA v nu0 18) := by rw [wcell_arr (show wM.2.1 18 = .inr (0, 40) from rfl) (by decide)]; rfl
theorem ceM_19 (cA : Nat → ClassId) (u v : Nat → Nat) (q : Nat) : (wsA cA u v q)[109]? = some (v 19, wcell wM cA v nu0 19) := by rw [wcell_arr (show wM.2.1 19 = .inr (0, 40) from rfl) (by decide)]; rfl
theorem ceM_20 (cA : Nat → ClassId) (u v : Nat → Nat) (q : Nat) : (wsA cA u v q)[110]? = some (v 20, wcell wM cA v nu0 20) := by rw [wcell_arr (show wM.2.1 20 = .inr (3, 40) from rfl) (by decide)]; rfl
theorem ceM_21 (cA : Nat → ClassId) (u v : Nat → Nat) (q : Nat) : (wsA cA u v q)[111]? = some (v 21, wcell wM cA v nu0 21) := by rw [wcell_arr (show wM.2.1 21 = .inr (3, 40) from rfl) (by decide)]; rfl
theorem ceM_22 (cA : Nat → ClassId) (u v : Nat → Nat) (q : Nat) : (wsA cA u v q)[112]? = some (v 22, wcell wM cA v nu0 22) := by rw [wcell_arr (show wM.2.1 22 = .inr (0, 4) from rfl) (by decide)]; rfl
theorem ceM_23 (cA : Nat → ClassId) (u v : Nat → Nat) (q : Nat) : (wsA cA u v q)[113]? = some (v 23, wcell wM cA v nu0 23) := by rw [wcell_arrL (show wM.2.1 23 = .inr (1, 400) from rfl)]; rfl
theorem ceM_24 (cA : Nat → ClassId) (u v : Nat → Nat) (q : Nat) : (wsA cA u v q)[114]? = some (v 24, wcell wM cA v nu0 24) := by rw [wcell_arrL (show wM.2.1 24 = .inr (1, 40) from rfl)]; rfl
theorem ceM_25 (cA : Nat → ClassId) (u v : Nat → Nat) (q : Nat) : (wsA cA u v q)[115]? = some (v 25, wcell wM cA v nu0 25) := by rw [wcell_arr (show wM.2.1 25 = .inr (0, 40) from rfl) (by decide)]; rfl
theorem ceM_26 (cA : Nat → ClassId) (u v : Nat → Nat) (q : Nat) : (wsA cA u v q)[116]? = some (v 26, wcell wM cA v nu0 26) := by rw [wcell_arr (show wM.2.1 26 = .inr (0, 40) from rfl) (by decide)]; rfl
theorem ceM_27 (cA : Nat → ClassId) (u v : Nat → Nat) (q : Nat) : (wsA cA u v q)[117]? = some (v 27, wcell wM cA v nu0 27) := by rw [wcell_arrL (show wM.2.1 27 = .inr (1, 40) from rfl)]; rfl
theorem ceM_28 (cA : Nat → ClassId) (u v : Nat → Nat) (q : Nat) : (wsA cA u v q)[118]? = some (v 28, wcell wM cA v nu0 28) := by rw [wcell_arrL (show wM.2.1 28 = .inr (1, 40) from rfl)]; rfl
theorem ceM_29 (cA : Nat → ClassId) (u v : Nat → Nat) (q : Nat) : (wsA cA u v q)[119]? = some (v 29, wcell wM cA v nu0 29) := by rw [wcell_arr (show wM.2.1 29 = .inr (0, 60) from rfl) (by decide)]; rfl
theorem ceC (cA : Nat → ClassId) (u v : Nat → Nat) (q : Nat) : ∀ k, k < 91 → (wsA cA u v q)[pmA.getD k 0]? = some (adC u q k, wcell wC cA (adC u q) mu0 k) := by
  intro k hk
  match k, hk with
  | 0, _ => exact ceC_0 cA u v q
  | 1, _ => exact ceC_1 cA u v q
  | 2, _ => exact ceC_2 cA u v q
  | 3, _ => exact ceC_3 cA u v q
  | 4, _ => exact ceC_4 cA u v q
  | 5, _ => exact ceC_5 cA u v q
  | 6, _ => exact ceC_6 cA u v q
  | 7, _ => exact ceC_7 cA u v q
  | 8, _ => exact ceC_8 cA u v q
  | 9, _ => exact ceC_9 cA u v q
  | 10, _ => exact ceC_10 cA u v q
  | 11, _ => exact ceC_11 cA u v q
  | 12, _ => exact ceC_12 cA u v q
  | 13, _ => exact ceC_13 cA u v q
  | 14, _ => exact ceC_14 cA u v q
  | 15, _ => exact ceC_15 cA u v q
  | 16, _ => exact ceC_16 cA u v q
  | 17, _ => exact ceC_17 cA u v q
  | 18, _ => exact ceC_18 cA u v q
  | 19, _ => exact ceC_19 cA u v q
  | 20, _ => exact ceC_20 cA u v q
  | 21, _ => exact ceC_21 cA u v q
  | 22, _ => exact ceC_22 cA u v q
  | 23, _ => exact ceC_23 cA u v q
  | 24, _ => exact ceC_24 cA u v q
  | 25, _ => exact ceC_25 cA u v q
  | 26, _ => exact ceC_26 cA u v q
  | 27, _ => exact ceC_27 cA u v q
  | 28, _ => exact ceC_28 cA u v q
  | 29, _ => exact ceC_29 cA u v q
  | 30, _ => exact ceC_30 cA u v q
  | 31, _ => exact ceC_31 cA u v q
  | 32, _ => exact ceC_32 cA u v q
  | 33, _ => exact ceC_33 cA u v q
  | 34, _ => exact ceC_34 cA u v q
  | 35, _ => exact ceC_35 cA u v q
  | 36, _ => exact ceC_36 cA u v q
  | 37, _ => exact ceC_37 cA u v q
  | 38, _ => exact ceC_38 cA u v q
  | 39, _ => exact ceC_39 cA u v q
  | 40, _ => exact ceC_40 cA u v q
  | 41, _ => exact ceC_41 cA u v q
  | 42, _ => exact ceC_42 cA u v q
  | 43, _ => exact ceC_43 cA u v q
  | 44, _ => exact ceC_44 cA u v q
  | 45, _ => exact ceC_45 cA u v q
  | 46, _ => exact ceC_46 cA u v q
  | 47, _ => exact ceC_47 cA u v q
  | 48, _ => exact ceC_48 cA u v q
  | 49, _ => exact ceC_49 cA u v q
  | 50, _ => exact ceC_50 cA u v q
  | 51, _ => exact ceC_51 cA u v q
  | 52, _ => exact ceC_52 cA u v q
  | 53, _ => exact ceC_53 cA u v q
  | 54, _ => exact ceC_54 cA u v q
  | 55, _ => exact ceC_55 cA u v q
  | 56, _ => exact ceC_56 cA u v q
  | 57, _ => exact ceC_57 cA u v q
  | 58, _ => exact ceC_58 cA u v q
  | 59, _ => exact ceC_59 cA u v q
  | 60, _ => exact ceC_60 cA u v q
  | 61, _ => exact ceC_61 cA u v q
  | 62, _ => exact ceC_62 cA u v q
  | 63, _ => exact ceC_63 cA u v q
  | 64, _ => exact ceC_64 cA u v q
  | 65, _ => exact ceC_65 cA u v q
  | 66, _ => exact ceC_66 cA u v q
  | 67, _ => exact ceC_67 cA u v q
  | 68, _ => exact ceC_68 cA u v q
  | 69, _ => exact ceC_69 cA u v q
  | 70, _ => exact ceC_70 cA u v q
  | 71, _ => exact ceC_71 cA u v q
  | 72, _ => exact ceC_72 cA u v q
  | 73, _ => exact ceC_73 cA u v q
  | 74, _ => exact ceC_74 cA u v q
  | 75, _ => exact ceC_75 cA u v q
  | 76, _ => exact ceC_76 cA u v q
  | 77, _ => exact ceC_77 cA u v q
  | 78, _ => exact ceC_78 cA u v q
  | 79, _ => exact ceC_79 cA u v q
  | 80, _ => exact ceC_80 cA u v q
  | 81, _ => exact ceC_81 cA u v q
  | 82, _ => exact ceC_82 cA u v q
  | 83, _ => exact ceC_83 cA u v q
  | 84, _ => exact ceC_84 cA u v q
  | 85, _ => exact ceC_85 cA u v q
  | 86, _ => exact ceC_86 cA u v q
  | 87, _ => exact ceC_87 cA u v q
  | 88, _ => exact ceC_88 cA u v q
  | 89, _ => exact ceC_89 cA u v q
  | 90, _ => exact ceC_90 cA u v q
  | k + 91, h => omega
theorem ceM (cA : Nat → ClassId) (u v : Nat → Nat) (q : Nat) : ∀ k, k < 30 → (wsA cA u v q)[pmA.getD (91 + k) 0]? = some (v k, wcell wM cA v nu0 k) := by
  intro k hk
  match k, hk with
  | 0, _ => exact ceM_0 cA u v q
  | 1, _ => exact ceM_1 cA u v q
  | 2, _ => exact ceM_2 cA u v q
  | 3, _ => exact ceM_3 cA u v q
  | 4, _ => exact ceM_4 cA u v q
  | 5, _ => exact ceM_5 cA u v q
  | 6, _ => exact ceM_6 cA u v q
  | 7, _ => exact ceM_7 cA u v q
  | 8, _ => exact ceM_8 cA u v q
  | 9, _ => exact ceM_9 cA u v q
  | 10, _ => exact ceM_10 cA u v q
  | 11, _ => exact ceM_11 cA u v q
  | 12, _ => exact ceM_12 cA u v q
  | 13, _ => exact ceM_13 cA u v q
  | 14, _ => exact ceM_14 cA u v q
  | 15, _ => exact ceM_15 cA u v q
  | 16, _ => exact ceM_16 cA u v q
  | 17, _ => exact ceM_17 cA u v q
  | 18, _ => exact ceM_18 cA u v q
  | 19, _ => exact ceM_19 cA u v q
  | 20, _ => exact ceM_20 cA u v q
  | 21, _ => exact ceM_21 cA u v q
  | 22, _ => exact ceM_22 cA u v q
  | 23, _ => exact ceM_23 cA u v q
  | 24, _ => exact ceM_24 cA u v q
  | 25, _ => exact ceM_25 cA u v q
  | 26, _ => exact ceM_26 cA u v q
  | 27, _ => exact ceM_27 cA u v q
  | 28, _ => exact ceM_28 cA u v q
  | 29, _ => exact ceM_29 cA u v q
  | k + 30, h => omega
theorem pmA_at : ∀ k, k < 121 → pmA[k]? = some (pmA.getD k 0) := by decide +kernel
theorem wld_len (w : Wld) (cA : Nat → ClassId) (ad : Nat → Nat) (μ : Mem) : (wld w cA ad μ).length = w.1 := by simp [wld]
theorem wsA_map (cA : Nat → ClassId) (u v : Nat → Nat) (q : Nat) : pmA.map (fun i => (wsA cA u v q)[i]?) = (wld wC cA (adC u q) mu0 ++ wld wM cA v nu0).map some := by
  have e1 : (wld wC cA (adC u q) mu0).length = 91 := wld_len _ _ _ _
  have e2 : (wld wM cA v nu0).length = 30 := wld_len _ _ _ _
  have e3 : pmA.length = 121 := by decide +kernel
  apply List.ext_getElem?
  intro k
  rw [List.getElem?_map, List.getElem?_map]
  by_cases h1 : k < 91
  · rw [List.getElem?_append_left (by omega), wld_at (show k < wC.1 from h1), pmA_at k (by omega)]
    exact congrArg some (ceC cA u v q k h1)
  · by_cases h2 : k < 121
    · obtain ⟨j, rfl⟩ : ∃ j, k = 91 + j := ⟨k - 91, by omega⟩
      rw [List.getElem?_append_right (by omega), e1, Nat.add_sub_cancel_left, wld_at (show j < wM.1 from (by have : wM.1 = 30 := rfl; omega)), pmA_at _ h2]
      exact congrArg some (ceM cA u v q j (by omega))
    · rw [List.getElem?_eq_none (by omega), List.getElem?_eq_none (by rw [List.length_append]; omega)]
      rfl
theorem filterMap_of_map {α β : Type} {f : α → Option β} {l : List α} {r : List β} (h : l.map f = r.map some) : l.filterMap f = r := by
  have h2 : l.filterMap f = (l.map f).filterMap id := by rw [List.filterMap_map]; rfl
  rw [h2, h, List.filterMap_map]
  simp
theorem P_left {D : va_G} {cl : List vw_C} {a b : va_W} {H : Heap} (h : va_P D cl (a ++ b) H) : va_P D cl a H := by
  intro k q hq
  have hk := (List.getElem?_eq_some_iff.mp hq).1
  exact h k q (by rw [List.getElem?_append_left hk]; exact hq)
theorem P_right {D : va_G} {cl : List vw_C} {a b : va_W} {H : Heap} (h : va_P D cl (a ++ b) H) : va_P D cl b H := by
  intro k q hq
  exact h (a.length + k) q (by rw [List.getElem?_append_right (by omega)]; simpa using hq)
theorem injs {A : Nat → Prop} {cA : Nat → ClassId} {ad aM : Nat → Nat} {μ ν : Mem} (h : va_D A (wld wC cA ad μ ++ wld wM cA aM ν)) : injA wC ad ∧ injA wM aM ∧ (∀ i j, i < wC.1 → j < wM.1 → ad i ≠ aM j) ∧ (∀ i, i < wC.1 → A (ad i)) ∧ ∀ j, j < wM.1 → A (aM j) := by
  have e1 : ∀ i, i < wC.1 → (wld wC cA ad μ ++ wld wM cA aM ν)[i]? = some (ad i, wcell wC cA ad μ i) := fun i hi => by
    rw [List.getElem?_append_left (by rw [wld_len]; exact hi)]; exact wld_at hi
  have e2 : ∀ j, j < wM.1 → (wld wC cA ad μ ++ wld wM cA aM ν)[wC.1 + j]? = some (aM j, wcell wM cA aM ν j) := fun j hj => by
    rw [List.getElem?_append_right (by rw [wld_len]; omega), wld_len, Nat.add_sub_cancel_left]; exact wld_at hj
  refine ⟨fun i j hi hj e => h.1 i j _ _ (e1 i hi) (e1 j hj) e, fun i j hi hj e => ?_, fun i j hi hj e => ?_, fun i hi => h.2 i _ (e1 i hi), fun j hj => h.2 _ _ (e2 j hj)⟩
  · have := h.1 _ _ _ _ (e2 i hi) (e2 j hj) e
    omega
  · have := h.1 _ _ _ _ (e1 i hi) (e2 j hj) e
    omega
theorem pmA_nd : va_nd pmA = true := by decide +kernel
theorem tl_tb {w : Cond} (h : w ∈ tb) : w ∈ lw_tbl := (tb_good h).1
set_option maxHeartbeats 4000000 in
set_option maxRecDepth 100000 in
theorem start_GC {X : Ctx} {b : Nat} (hXd : FdL X cL_law 8 RL room_1) (K : ∀ (u v : Nat → Nat) (q : Nat), GC X 23 [(4, .int 0), (3, .ref q), (2, .ref (v 0)), (1, .ref (u 0)), (0, .ref b)] [] (wsA (cx_cA X) u v q) 121 15835) : GC X 0 [(0, .ref b)] [] [] 0 0 := by
  refine GD_new hXd 10 [.null, .null, .null, .null, .null, .null, .null, .null] rfl in_X10 tyX10 tyX10_ok wk_L_8 wi_X10 wn_X10 (fun j hj => by have h9 : j < 8 := hj; exact df_X10 j h9) ⟨Nat.le_of_ble_eq_true rfl, Nat.le_of_ble_eq_true rfl⟩ dL_law_0 (fun q0 => ?_)
  refine GD_dup hXd rfl dL_law_3 ?_
  refine GD_ctor (np := 0) hXd [.ref q0] (cX10_init_mk (cx_l X)) rfl wm_X10 wn_X10 wc_X10 ⟨by decide +kernel, by decide +kernel, by decide +kernel⟩ (Or.inl wl_L_131) rfl rfl (Nat.le_of_ble_eq_true rfl) ⟨rfl, rfl, Nat.le_of_ble_eq_true rfl, Nat.le_of_ble_eq_true rfl⟩ ⟨Nat.le_of_ble_eq_true rfl, Nat.le_of_ble_eq_true rfl⟩ dL_law_4 (fun u hu => ?_)
  subst hu
  refine GC_eq (ws' := bk_X10 (cx_cA X) u) (List.nil_append _) ?_
  refine GD_astore_n hXd [(1, .ref (u 0)), (0, .ref b)] rfl (by decide) rfl dL_law_7 ?_
  refine GD_new hXd 11 [.int 0, .null, .null, .null, .int 0, .int 0, .int 0, .null, .null, .null, .null, .null, .null, .null, .int 0, .int 0, .int 0, .int 0, .int 0, .int 0, .null, .null, .null, .null, .null, .null, .int 0, .int 0, .null, .int 0, .int 0, .null, .null, .null, .null, .null, .null, .int 0, .int 0, .int 0, .null, .null, .null, .null, .null, .int 0, .null, .int 0] rfl in_X11 tyX11 tyX11_ok wk_L_132 wi_X11 wn_X11 (fun j hj => by have h9 : j < 48 := hj; exact df_X11 j h9) ⟨Nat.le_of_ble_eq_true rfl, Nat.le_of_ble_eq_true rfl⟩ dL_law_8 (fun q1 => ?_)
  refine GD_dup hXd rfl dL_law_11 ?_
  refine GD_ctor (np := 0) hXd [.ref q1] (cX11_init_mk (cx_l X)) rfl wm_X11 wn_X11 wc_X11 ⟨by decide +kernel, by decide +kernel, by decide +kernel⟩ (Or.inl wl_L_134) rfl rfl (Nat.le_of_ble_eq_true rfl) ⟨rfl, rfl, Nat.le_of_ble_eq_true rfl, Nat.le_of_ble_eq_true rfl⟩ ⟨Nat.le_of_ble_eq_true rfl, Nat.le_of_ble_eq_true rfl⟩ dL_law_12 (fun v hv => ?_)
  subst hv
  refine GD_astore_n hXd [(2, .ref (v 0)), (1, .ref (u 0)), (0, .ref b)] rfl (by decide) rfl dL_law_15 ?_
  refine GD_iconst hXd (1 : Int32) rfl dL_law_16 ?_
  refine GD_newLong hXd 1 (by decide) (by decide) (Nat.le_of_ble_eq_true rfl) ⟨Nat.le_of_ble_eq_true rfl, Nat.le_of_ble_eq_true rfl⟩ dL_law_17 (fun q => ?_)
  refine GD_astore_n hXd [(3, .ref q), (2, .ref (v 0)), (1, .ref (u 0)), (0, .ref b)] rfl (by decide) rfl dL_law_19 ?_
  refine GD_iconst hXd (0 : Int32) rfl dL_law_20 ?_
  refine GD_istore hXd [(4, .int 0), (3, .ref q), (2, .ref (v 0)), (1, .ref (u 0)), (0, .ref b)] (by decide) rfl dL_law_21 ?_
  exact K u v q
theorem flags_no {l : Launch} (h : l.flags = flags0) : l.stackTraces = false := by
  unfold Launch.stackTraces
  rw [h]
  have : flags0.contains noTraceFlag = true := List.elem_eq_true_of_mem (List.mem_append_right _ List.mem_cons_self)
  rw [this]; rfl
theorem FL_start {p : Program} {e : Env} {s : State} {m : MethodId} {below : List Frame} {meth : Method} {c : Code} {l : Launch} (hflags : l.flags = flags0) {b L : Nat} {xs : Nat → Int32} (hL : L ≤ 4096) (C0 : lw_At p s m meth c b L xs) {D : va_G} {cA : Nat → ClassId} {adK adV : Nat → Nat} (hK : va_K D vwCl (tysA cA) s) (hSW : SW adK adV (fun q : Nat => s.heap.size ≤ q) s s.heap) (Q : State → Prop) {u v : Nat → Nat} {q : Nat} (hD2 : va_D (fun q => s.heap.size ≤ q) (wld wC cA (adC u q) mu0 ++ wld wM cA v nu0)) :
    FL (p, l, e, room_1, s, m, #[Value.ref b], below, meth, c, 0, 0, Q, D, cA, adC u q, fun q => s.heap.size ≤ q, 8, adK, adV) v b L xs := by
  obtain ⟨hx, hb, hr, hml, hown, hts, hX0, hbl, hlocks, hgv⟩ := C0
  exact ⟨hx, hb, hml, hown, fun w hw => hts w (tl_tb hw), hK, rfl, injs hD2, rfl, rfl, hSW, ⟨hX0, hbl, hL⟩, flags_no hflags⟩
theorem law_end {p : Program} {l : Launch} {e : Env} {s : State} {m : MethodId} {below : List Frame} {meth : Method} {c : Code} {b L : Nat} {xs : Nat → Int32} (C0 : lw_At p s m meth c b L xs) {H : Heap} {locs : List Loc} {ls : Array Slot} {k n : Nat} (hk : k ≤ 601024) (hn : n ≤ 7293034) (hS : va_S (fun q => s.heap.size ≤ q) s.heap H locs) : W p l e room_1 s m #[Value.ref b] below meth c H locs k n (lw_Z below #[Value.ref b] s) (F0 m 2721 ls []) := by
  obtain ⟨hx, hb, hr, hml, hown, hts, hX0, hbl, hlocks, hgv⟩ := C0
  refine lv_iconst (v := 1) hx hb dL_law_2721 (by decide) ?_
  refine va_forget (fun q hq => hS.2.2 q hq) ?_
  refine W.widen hk hn ?_
  exact lw_ret hx hb hr hlocks dL_law_2722
theorem key_GC {Rl : Mem → Mem → Prop} {N : Nat} (h0 : Rl mu0 nu0) (hstep : ∀ (v : Nat → Int32) (μ ν : Mem), Rl μ ν → ∃ z, lawStep N v μ ν = some z ∧ Rl z.1 z.2)
    {p : Program} {e : Env} {s : State} {m : MethodId} {below : List Frame} {meth : Method} {c : Code} {l : Launch} (hflags : l.flags = flags0) {b L : Nat} {xs : Nat → Int32} (hL : L ≤ 4096) (C0 : lw_At p s m meth c b L xs) {D : va_G} {cA : Nat → ClassId} {adK adV : Nat → Nat} (hK : va_K D vwCl (tysA cA) s) (hSW : SW adK adV (fun q : Nat => s.heap.size ≤ q) s s.heap) (u v : Nat → Nat) (q : Nat) {H : Heap} {locs : List Loc} {ls : Array Slot} (hl : lv_has ls 8 [(4, .int 0), (3, .ref q), (2, .ref (v 0)), (1, .ref (u 0)), (0, .ref b)]) (hP : va_P D vwCl (wsA cA u v q) H) (hD : va_D (fun q => s.heap.size ≤ q) (wsA cA u v q)) (hS : va_S (fun q => s.heap.size ≤ q) s.heap H locs) :
    W p l e room_1 s m #[Value.ref b] below meth c H locs 121 15835 (lw_Z below #[Value.ref b] s) (F0 m 23 ls []) := by
  have hP2 := hP.sub pmA (filterMap_of_map (wsA_map cA u v q))
  have hD2 := hD.sub pmA pmA_nd (wsA_map cA u v q)
  have hY := FL_start (e := e) (below := below) hflags hL C0 hK hSW (lw_Z below #[Value.ref b] s) hD2
  have hl2 : lv_has ls 8 [(0, .ref b), (1, .ref (adC u q 0)), (2, .ref (v 0)), (3, .ref (adC u q 90)), (4, .int (nI (8 * 0)))] := lv_sub hl [4, 3, 2, 1, 0] rfl
  exact law_loop hY (fun H locs ls k n hk hn hS => law_end C0 hk hn hS) hstep 514 0 mu0 nu0 121 15835 H locs ls (by omega) (by omega) h0 (by omega) (by omega) hl2 (P_left hP2) (P_right hP2) hS
set_option maxHeartbeats 4000000 in
set_option maxRecDepth 100000 in
/-- THE LAW, from its entry: over a relation of phase 2 that holds at first and that every call keeps -/
theorem whole_of {Rl : Mem → Mem → Prop} {N : Nat} (h0 : Rl mu0 nu0) (hstep : ∀ (v : Nat → Int32) (μ ν : Mem), Rl μ ν → ∃ z, lawStep N v μ ν = some z ∧ Rl z.1 z.2)
    {p : Program} {e : Env} {s : State} {m : MethodId} {below : List Frame} {meth : Method} {c : Code} (l : Launch) (hflags : l.flags = flags0) {b L : Nat} {xs : Nat → Int32} (hL : L ≤ 4096) (C0 : lw_At p s m meth c b L xs) : W p l e room_1 s m #[Value.ref b] below meth c s.heap [] 0 0 (lw_Z below #[Value.ref b] s) (entryFrame m ([Value.ref b] : List Value).toArray 8) := by
  obtain ⟨hx, hb, hr, hml, hown, hts, hX0, hbl, hlocks, hgv⟩ := id C0
  have htb : ∀ w ∈ tb, w.before #[Value.ref b] s = true := fun w hw => hts w (tl_tb hw)
  have hA : ∀ q : Nat, s.heap.size ≤ q → (fun q : Nat => s.heap.size ≤ q) q := fun _ h => h
  have hnA : ∀ a : Nat, a < s.heap.size → ¬ (fun q : Nat => s.heap.size ≤ q) a := fun a h => Nat.not_le.mpr h
  obtain ⟨D, cA, hK⟩ := K_start htb
  obtain ⟨adK, adV, hSW⟩ := SW_start (A := fun q : Nat => s.heap.size ≤ q) hts hgv hnA
  have hN := NW_start hts
  have hl := lv_entry ([.ref b]) (n := 8) (Nat.le_of_ble_eq_true rfl)
  rw [lg_entry_eq]
  generalize (lg_sl ([.ref b]) ++ List.replicate (8 - (lg_sl ([.ref b])).length) Slot.unset).toArray = ls at hl ⊢
  have hl : lv_has ls 8 [(0, .ref b)] := hl
  have hXd : FdL (p, l, e, room_1, s, m, #[Value.ref b], below, meth, c, 0, 0, lw_Z below #[Value.ref b] s, D, cA, fun _ => 0, fun q => s.heap.size ≤ q, 8, adK, adV) cL_law 8 RL room_1 := ⟨hx, hb, hml, hown, htb, hK, hA, hlocks, trivial, rfl, rfl, hN, trivial⟩
  exact start_GC hXd (fun u v q H locs ls hl hP hD hS => key_GC h0 hstep hflags hL C0 hK hSW u v q hl hP hD hS) s.heap [] ls hl (fun k q h => by simp at h) ⟨fun i j p q h => by simp at h, fun k q h => by simp at h⟩ va_S.rf
