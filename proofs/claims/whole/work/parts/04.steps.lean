/-! The fixed things of a walk, in one: p l e R s m args below meth c cells slots Q D cA ad A nL adK adV -/
abbrev Ctx : Type := Program × Launch × Env × Room × State × MethodId × Array Value × List Frame × Method × Code × Nat × Nat × (State → Prop) × va_G × (Nat → ClassId) × (Nat → Nat) × (Nat → Prop) × Nat × (Nat → Nat) × (Nat → Nat)
def cx_p (X : Ctx) : Program := X.1
def cx_l (X : Ctx) : Launch := X.2.1
def cx_e (X : Ctx) : Env := X.2.2.1
def cx_R (X : Ctx) : Room := X.2.2.2.1
def cx_s (X : Ctx) : State := X.2.2.2.2.1
def cx_m (X : Ctx) : MethodId := X.2.2.2.2.2.1
def cx_args (X : Ctx) : Array Value := X.2.2.2.2.2.2.1
def cx_below (X : Ctx) : List Frame := X.2.2.2.2.2.2.2.1
def cx_meth (X : Ctx) : Method := X.2.2.2.2.2.2.2.2.1
def cx_c (X : Ctx) : Code := X.2.2.2.2.2.2.2.2.2.1
def cx_cells (X : Ctx) : Nat := X.2.2.2.2.2.2.2.2.2.2.1
def cx_slots (X : Ctx) : Nat := X.2.2.2.2.2.2.2.2.2.2.2.1
def cx_Q (X : Ctx) : State → Prop := X.2.2.2.2.2.2.2.2.2.2.2.2.1
def cx_D (X : Ctx) : va_G := X.2.2.2.2.2.2.2.2.2.2.2.2.2.1
def cx_cA (X : Ctx) : Nat → ClassId := X.2.2.2.2.2.2.2.2.2.2.2.2.2.2.1
def cx_ad (X : Ctx) : Nat → Nat := X.2.2.2.2.2.2.2.2.2.2.2.2.2.2.2.1
def cx_A (X : Ctx) : Nat → Prop := X.2.2.2.2.2.2.2.2.2.2.2.2.2.2.2.2.1
def cx_nL (X : Ctx) : Nat := X.2.2.2.2.2.2.2.2.2.2.2.2.2.2.2.2.2.1
def cx_adK (X : Ctx) : Nat → Nat := X.2.2.2.2.2.2.2.2.2.2.2.2.2.2.2.2.2.2.1
def cx_adV (X : Ctx) : Nat → Nat := X.2.2.2.2.2.2.2.2.2.2.2.2.2.2.2.2.2.2.2
/-- the machine, from a frame on, over a heap that holds the memory μ, comes to its end; o is what is still to be worked out, z what must come of it -/
def G {α : Type} (w : Wld) (X : Ctx) (z : α × Mem) (pc : Nat) (lv : List (Nat × Value)) (st : List Value) (μ : Mem) (o : Option (α × Mem)) : Prop :=
  o = some z → ∀ (H : Heap) (locs : List Loc) (ls : Array Slot), lv_has ls (cx_nL X) lv → va_P (cx_D X) vwCl (wld w (cx_cA X) (cx_ad X) μ) H → va_S (cx_A X) (cx_s X).heap H locs →
    W (cx_p X) (cx_l X) (cx_e X) (cx_R X) (cx_s X) (cx_m X) (cx_args X) (cx_below X) (cx_meth X) (cx_c X) H locs (cx_cells X) (cx_slots X) (cx_Q X) (F0 (cx_m X) pc ls st)
/-- what holds of the fixed things -/
def Fx (w : Wld) (X : Ctx) (cc : ByteArray) (nL : Nat) (own : String) (ret : Option FieldType) (R : Room) : Prop :=
  (cx_p X).tables.exec = Jvm.exec ∧ (cx_c X).code = cc ∧ (cx_c X).maxLocals = nL ∧ (cx_s X).vm.findClass own = some (cx_m X).cls ∧ (∀ w ∈ tb, w.before (cx_args X) (cx_s X) = true) ∧
  va_K (cx_D X) vwCl (tysA (cx_cA X)) (cx_s X) ∧ (∀ q, (cx_s X).heap.size ≤ q → cx_A X q) ∧ injA w (cx_ad X) ∧ (∀ k, k < w.1 → cx_A X (cx_ad X k)) ∧ (cx_meth X).locks = false ∧ (cx_meth X).sig.returnType = ret ∧ cx_R X = R ∧ cx_nL X = nL ∧ cx_A X = AA w (cx_ad X) (cx_s X).heap.size ∧ SW (cx_adK X) (cx_adV X) (cx_A X) (cx_s X) (cx_s X).heap
section
variable {α : Type} {w : Wld} {X : Ctx} {z : α × Mem} {cc : ByteArray} {nL : Nat} {own : String} {ret : Option FieldType} {R : Room} {pc : Nat} {lv : List (Nat × Value)} {st : List Value} {μ : Mem} {o : Option (α × Mem)}
theorem G_iconst (hX : Fx w X cc nL own ret R) {n : Int} (v : Int32) (hv : Int32.ofInt n = v) (d : decode cc pc = .ok (.iconst n, 1)) (k : G w X z (pc + 1) lv (.int v :: st) μ o) : G w X z pc lv (st) μ o := by
  intro h H locs ls hl hP hS
  exact lv_iconst hX.1 hX.2.1 d hv (k h H locs ls hl hP hS)
theorem G_bipush (hX : Fx w X cc nL own ret R) {n : Int} (v : Int32) (hv : (Int8.ofInt n).toInt32 = v) (d : decode cc pc = .ok (.bipush n, 2)) (k : G w X z (pc + 2) lv (.int v :: st) μ o) : G w X z pc lv (st) μ o := by
  intro h H locs ls hl hP hS
  exact lv_bipush hX.1 hX.2.1 d hv (k h H locs ls hl hP hS)
theorem G_sipush (hX : Fx w X cc nL own ret R) {n : Int} (v : Int32) (hv : (Int16.ofInt n).toInt32 = v) (d : decode cc pc = .ok (.sipush n, 3)) (k : G w X z (pc + 3) lv (.int v :: st) μ o) : G w X z pc lv (st) μ o := by
  intro h H locs ls hl hP hS
  exact lv_sipush hX.1 hX.2.1 d hv (k h H locs ls hl hP hS)
theorem G_lconst (hX : Fx w X cc nL own ret R) {n : Fin 2} (v : Int64) (hv : Int64.ofNat (n : Nat) = v) (d : decode cc pc = .ok (.lconst n, 1)) (k : G w X z (pc + 1) lv (.long v :: st) μ o) : G w X z pc lv (st) μ o := by
  intro h H locs ls hl hP hS
  exact lv_lconst hX.1 hX.2.1 d hv (k h H locs ls hl hP hS)
theorem G_iload_n (hX : Fx w X cc nL own ret R) {i : Fin 4} {n : Nat} {x : Int32} (q : Nat) (hi : (i : Nat) = n) (hq : lv[q]? = some (n, .int x)) (d : decode cc pc = .ok (.iload_n i, 1)) (k : G w X z (pc + 1) lv (.int x :: st) μ o) : G w X z pc lv (st) μ o := by
  intro h H locs ls hl hP hS
  exact lv_iload_n hX.1 hX.2.1 d hi (lv_at hl q hq) (k h H locs ls hl hP hS)
theorem G_iload (hX : Fx w X cc nL own ret R) {n : Nat} {x : Int32} (q : Nat) (hq : lv[q]? = some (n, .int x)) (d : decode cc pc = .ok (.iload n, 2)) (k : G w X z (pc + 2) lv (.int x :: st) μ o) : G w X z pc lv (st) μ o := by
  intro h H locs ls hl hP hS
  exact lv_iload hX.1 hX.2.1 d (lv_at hl q hq) (k h H locs ls hl hP hS)
theorem G_lload_n (hX : Fx w X cc nL own ret R) {i : Fin 4} {n : Nat} {x : Int64} (q : Nat) (hi : (i : Nat) = n) (hq : lv[q]? = some (n, .long x)) (d : decode cc pc = .ok (.lload_n i, 1)) (k : G w X z (pc + 1) lv (.long x :: st) μ o) : G w X z pc lv (st) μ o := by
  intro h H locs ls hl hP hS
  exact lv_lload_n hX.1 hX.2.1 d hi (lv_at hl q hq) (k h H locs ls hl hP hS)
theorem G_lload (hX : Fx w X cc nL own ret R) {n : Nat} {x : Int64} (q : Nat) (hq : lv[q]? = some (n, .long x)) (d : decode cc pc = .ok (.lload n, 2)) (k : G w X z (pc + 2) lv (.long x :: st) μ o) : G w X z pc lv (st) μ o := by
  intro h H locs ls hl hP hS
  exact lv_lload hX.1 hX.2.1 d (lv_at hl q hq) (k h H locs ls hl hP hS)
theorem G_aload_n (hX : Fx w X cc nL own ret R) {i : Fin 4} {n : Nat} {x : Nat} (q : Nat) (hi : (i : Nat) = n) (hq : lv[q]? = some (n, .ref x)) (d : decode cc pc = .ok (.aload_n i, 1)) (k : G w X z (pc + 1) lv (.ref x :: st) μ o) : G w X z pc lv (st) μ o := by
  intro h H locs ls hl hP hS
  exact lv_aload_n hX.1 hX.2.1 d hi (lv_at hl q hq) (k h H locs ls hl hP hS)
theorem G_aload (hX : Fx w X cc nL own ret R) {n : Nat} {x : Nat} (q : Nat) (hq : lv[q]? = some (n, .ref x)) (d : decode cc pc = .ok (.aload n, 2)) (k : G w X z (pc + 2) lv (.ref x :: st) μ o) : G w X z pc lv (st) μ o := by
  intro h H locs ls hl hP hS
  exact lv_aload hX.1 hX.2.1 d (lv_at hl q hq) (k h H locs ls hl hP hS)
theorem G_istore_n (hX : Fx w X cc nL own ret R) {i : Fin 4} {n : Nat} {x : Int32} (lv' : List (Nat × Value)) (hi : (i : Nat) = n) (hn : n < nL) (hl9 : (n, Value.int x) :: lv.filter (fun q => !(q.1 == n) && !(q.1 + 1 == n && q.2.category == 2)) = lv') (d : decode cc pc = .ok (.istore_n i, 1)) (k : G w X z (pc + 1) lv' st μ o) : G w X z pc lv (.int x :: st) μ o := by
  intro h H locs ls hl hP hS
  exact lv_istore_n hX.1 hX.2.1 d hi hl (by rw [hX.2.2.2.2.2.2.2.2.2.2.2.2.1]; exact hn) hl9 (fun ls' hl' => k h H locs ls' hl' hP hS)
theorem G_istore (hX : Fx w X cc nL own ret R) {n : Nat} {x : Int32} (lv' : List (Nat × Value)) (hn : n < nL) (hl9 : (n, Value.int x) :: lv.filter (fun q => !(q.1 == n) && !(q.1 + 1 == n && q.2.category == 2)) = lv') (d : decode cc pc = .ok (.istore n, 2)) (k : G w X z (pc + 2) lv' st μ o) : G w X z pc lv (.int x :: st) μ o := by
  intro h H locs ls hl hP hS
  exact lv_istore hX.1 hX.2.1 d hl (by rw [hX.2.2.2.2.2.2.2.2.2.2.2.2.1]; exact hn) hl9 (fun ls' hl' => k h H locs ls' hl' hP hS)
theorem G_lstore_n (hX : Fx w X cc nL own ret R) {i : Fin 4} {n : Nat} {x : Int64} (lv' : List (Nat × Value)) (hi : (i : Nat) = n) (hn : n + 1 < nL) (hl9 : (n, Value.long x) :: lv.filter (fun q => !(q.1 == n) && (!(q.1 == n + 1) && !(q.1 + 1 == n && q.2.category == 2))) = lv') (d : decode cc pc = .ok (.lstore_n i, 1)) (k : G w X z (pc + 1) lv' st μ o) : G w X z pc lv (.long x :: st) μ o := by
  intro h H locs ls hl hP hS
  exact lv_lstore_n hX.1 hX.2.1 d hi hl (by rw [hX.2.2.2.2.2.2.2.2.2.2.2.2.1]; exact hn) hl9 (fun ls' hl' => k h H locs ls' hl' hP hS)
theorem G_lstore (hX : Fx w X cc nL own ret R) {n : Nat} {x : Int64} (lv' : List (Nat × Value)) (hn : n + 1 < nL) (hl9 : (n, Value.long x) :: lv.filter (fun q => !(q.1 == n) && (!(q.1 == n + 1) && !(q.1 + 1 == n && q.2.category == 2))) = lv') (d : decode cc pc = .ok (.lstore n, 2)) (k : G w X z (pc + 2) lv' st μ o) : G w X z pc lv (.long x :: st) μ o := by
  intro h H locs ls hl hP hS
  exact lv_lstore hX.1 hX.2.1 d hl (by rw [hX.2.2.2.2.2.2.2.2.2.2.2.2.1]; exact hn) hl9 (fun ls' hl' => k h H locs ls' hl' hP hS)
theorem G_astore_n (hX : Fx w X cc nL own ret R) {i : Fin 4} {n : Nat} {x : Nat} (lv' : List (Nat × Value)) (hi : (i : Nat) = n) (hn : n < nL) (hl9 : (n, Value.ref x) :: lv.filter (fun q => !(q.1 == n) && !(q.1 + 1 == n && q.2.category == 2)) = lv') (d : decode cc pc = .ok (.astore_n i, 1)) (k : G w X z (pc + 1) lv' st μ o) : G w X z pc lv (.ref x :: st) μ o := by
  intro h H locs ls hl hP hS
  exact lv_astore_n hX.1 hX.2.1 d hi hl (by rw [hX.2.2.2.2.2.2.2.2.2.2.2.2.1]; exact hn) hl9 (fun ls' hl' => k h H locs ls' hl' hP hS)
theorem G_astore (hX : Fx w X cc nL own ret R) {n : Nat} {x : Nat} (lv' : List (Nat × Value)) (hn : n < nL) (hl9 : (n, Value.ref x) :: lv.filter (fun q => !(q.1 == n) && !(q.1 + 1 == n && q.2.category == 2)) = lv') (d : decode cc pc = .ok (.astore n, 2)) (k : G w X z (pc + 2) lv' st μ o) : G w X z pc lv (.ref x :: st) μ o := by
  intro h H locs ls hl hP hS
  exact lv_astore hX.1 hX.2.1 d hl (by rw [hX.2.2.2.2.2.2.2.2.2.2.2.2.1]; exact hn) hl9 (fun ls' hl' => k h H locs ls' hl' hP hS)
theorem G_iinc (hX : Fx w X cc nL own ret R) {n : Nat} {i : Int} {y x : Int32} (q : Nat) (lv' : List (Nat × Value)) (hq : lv[q]? = some (n, .int y)) (hv : y + Int32.ofInt i = x) (hn : n < nL) (hl9 : (n, Value.int x) :: lv.filter (fun q => !(q.1 == n) && !(q.1 + 1 == n && q.2.category == 2)) = lv') (d : decode cc pc = .ok (.iinc n i, 3)) (k : G w X z (pc + 3) lv' st μ o) : G w X z pc lv st μ o := by
  intro h H locs ls hl hP hS
  exact lv_iinc hX.1 hX.2.1 d hl hq hv (by rw [hX.2.2.2.2.2.2.2.2.2.2.2.2.1]; exact hn) hl9 (fun ls' hl' => k h H locs ls' hl' hP hS)
theorem G_iadd (hX : Fx w X cc nL own ret R) {x y : Int32} (d : decode cc pc = .ok (.iadd, 1)) (k : G w X z (pc + 1) lv (.int (x + y) :: st) μ o) : G w X z pc lv (.int y :: .int x :: st) μ o := by
  intro h H locs ls hl hP hS
  exact lv_iadd hX.1 hX.2.1 d (k h H locs ls hl hP hS)
theorem G_isub (hX : Fx w X cc nL own ret R) {x y : Int32} (d : decode cc pc = .ok (.isub, 1)) (k : G w X z (pc + 1) lv (.int (x - y) :: st) μ o) : G w X z pc lv (.int y :: .int x :: st) μ o := by
  intro h H locs ls hl hP hS
  exact lv_isub hX.1 hX.2.1 d (k h H locs ls hl hP hS)
theorem G_imul (hX : Fx w X cc nL own ret R) {x y : Int32} (d : decode cc pc = .ok (.imul, 1)) (k : G w X z (pc + 1) lv (.int (x * y) :: st) μ o) : G w X z pc lv (.int y :: .int x :: st) μ o := by
  intro h H locs ls hl hP hS
  exact lv_imul hX.1 hX.2.1 d (k h H locs ls hl hP hS)
theorem G_iand (hX : Fx w X cc nL own ret R) {x y : Int32} (d : decode cc pc = .ok (.iand, 1)) (k : G w X z (pc + 1) lv (.int (x &&& y) :: st) μ o) : G w X z pc lv (.int y :: .int x :: st) μ o := by
  intro h H locs ls hl hP hS
  exact lv_iand hX.1 hX.2.1 d (k h H locs ls hl hP hS)
theorem G_ior (hX : Fx w X cc nL own ret R) {x y : Int32} (d : decode cc pc = .ok (.ior, 1)) (k : G w X z (pc + 1) lv (.int (x ||| y) :: st) μ o) : G w X z pc lv (.int y :: .int x :: st) μ o := by
  intro h H locs ls hl hP hS
  exact lv_ior hX.1 hX.2.1 d (k h H locs ls hl hP hS)
theorem G_ladd (hX : Fx w X cc nL own ret R) {x y : Int64} (d : decode cc pc = .ok (.ladd, 1)) (k : G w X z (pc + 1) lv (.long (x + y) :: st) μ o) : G w X z pc lv (.long y :: .long x :: st) μ o := by
  intro h H locs ls hl hP hS
  exact lv_ladd hX.1 hX.2.1 d (k h H locs ls hl hP hS)
theorem G_lsub (hX : Fx w X cc nL own ret R) {x y : Int64} (d : decode cc pc = .ok (.lsub, 1)) (k : G w X z (pc + 1) lv (.long (x - y) :: st) μ o) : G w X z pc lv (.long y :: .long x :: st) μ o := by
  intro h H locs ls hl hP hS
  exact lv_lsub hX.1 hX.2.1 d (k h H locs ls hl hP hS)
theorem G_lmul (hX : Fx w X cc nL own ret R) {x y : Int64} (d : decode cc pc = .ok (.lmul, 1)) (k : G w X z (pc + 1) lv (.long (x * y) :: st) μ o) : G w X z pc lv (.long y :: .long x :: st) μ o := by
  intro h H locs ls hl hP hS
  exact lv_lmul hX.1 hX.2.1 d (k h H locs ls hl hP hS)
theorem G_i2l (hX : Fx w X cc nL own ret R) {x : Int32} (d : decode cc pc = .ok (.i2l, 1)) (k : G w X z (pc + 1) lv (.long x.toInt64 :: st) μ o) : G w X z pc lv (.int x :: st) μ o := by
  intro h H locs ls hl hP hS
  exact lv_i2l hX.1 hX.2.1 d rfl (k h H locs ls hl hP hS)
theorem G_l2i (hX : Fx w X cc nL own ret R) {x : Int64} (d : decode cc pc = .ok (.l2i, 1)) (k : G w X z (pc + 1) lv (.int x.toInt32 :: st) μ o) : G w X z pc lv (.long x :: st) μ o := by
  intro h H locs ls hl hP hS
  exact lv_l2i hX.1 hX.2.1 d rfl (k h H locs ls hl hP hS)
theorem G_i2b (hX : Fx w X cc nL own ret R) {x : Int32} (d : decode cc pc = .ok (.i2b, 1)) (k : G w X z (pc + 1) lv (.int x.toInt8.toInt32 :: st) μ o) : G w X z pc lv (.int x :: st) μ o := by
  intro h H locs ls hl hP hS
  exact lv_i2b hX.1 hX.2.1 d rfl (k h H locs ls hl hP hS)
theorem G_lcmp (hX : Fx w X cc nL own ret R) {x y : Int64} (d : decode cc pc = .ok (.lcmp, 1)) (k : G w X z (pc + 1) lv (.int (lg_cmp x y) :: st) μ o) : G w X z pc lv (.long y :: .long x :: st) μ o := by
  intro h H locs ls hl hP hS
  exact W.lcmp hX.1 hX.2.1 d (k h H locs ls hl hP hS)
theorem G_dup (hX : Fx w X cc nL own ret R) {v : Value} (hv : v.category = 1) (d : decode cc pc = .ok (.dup, 1)) (k : G w X z (pc + 1) lv (v :: v :: st) μ o) : G w X z pc lv (v :: st) μ o := by
  intro h H locs ls hl hP hS
  exact lv_dup hX.1 hX.2.1 d hv (k h H locs ls hl hP hS)
theorem G_pop (hX : Fx w X cc nL own ret R) {v : Value} (hv : v.category = 1) (d : decode cc pc = .ok (.pop, 1)) (k : G w X z (pc + 1) lv (st) μ o) : G w X z pc lv (v :: st) μ o := by
  intro h H locs ls hl hP hS
  exact lv_pop hX.1 hX.2.1 d hv (k h H locs ls hl hP hS)
theorem G_dup2 (hX : Fx w X cc nL own ret R) {v u : Value} (hv : v.category = 1) (hu : u.category = 1) (d : decode cc pc = .ok (.dup2, 1)) (k : G w X z (pc + 1) lv (v :: u :: v :: u :: st) μ o) : G w X z pc lv (v :: u :: st) μ o := by
  intro h H locs ls hl hP hS
  exact lv_dup2_11 hX.1 hX.2.1 d hv hu (k h H locs ls hl hP hS)
theorem G_idiv (hX : Fx w X cc nL own ret R) {x y : Int32} (d : decode cc pc = .ok (.idiv, 1)) (k : G w X z (pc + 1) lv (.int (x / y) :: st) μ o) : G w X z pc lv (.int y :: .int x :: st) μ (if y = 0 then none else o) := by
  intro h H locs ls hl hP hS
  by_cases hy : y = 0
  · rw [if_pos hy] at h; cases h
  · rw [if_neg hy] at h
    exact lv_idiv hX.1 hX.2.1 d hy (k h H locs ls hl hP hS)
theorem G_idiv0 (hX : Fx w X cc nL own ret R) {x y : Int32} (hy : ¬ y = 0) (d : decode cc pc = .ok (.idiv, 1)) (k : G w X z (pc + 1) lv (.int (x / y) :: st) μ o) : G w X z pc lv (.int y :: .int x :: st) μ o := by
  intro h H locs ls hl hP hS
  exact lv_idiv hX.1 hX.2.1 d hy (k h H locs ls hl hP hS)
theorem G_irem (hX : Fx w X cc nL own ret R) {x y : Int32} (d : decode cc pc = .ok (.irem, 1)) (k : G w X z (pc + 1) lv (.int (x - x / y * y) :: st) μ o) : G w X z pc lv (.int y :: .int x :: st) μ (if y = 0 then none else o) := by
  intro h H locs ls hl hP hS
  by_cases hy : y = 0
  · rw [if_pos hy] at h; cases h
  · rw [if_neg hy] at h
    exact lv_irem hX.1 hX.2.1 d hy (k h H locs ls hl hP hS)
theorem G_irem0 (hX : Fx w X cc nL own ret R) {x y : Int32} (hy : ¬ y = 0) (d : decode cc pc = .ok (.irem, 1)) (k : G w X z (pc + 1) lv (.int (x - x / y * y) :: st) μ o) : G w X z pc lv (.int y :: .int x :: st) μ o := by
  intro h H locs ls hl hP hS
  exact lv_irem hX.1 hX.2.1 d hy (k h H locs ls hl hP hS)
theorem G_ldiv (hX : Fx w X cc nL own ret R) {x y : Int64} (d : decode cc pc = .ok (.ldiv, 1)) (k : G w X z (pc + 1) lv (.long (x / y) :: st) μ o) : G w X z pc lv (.long y :: .long x :: st) μ (if y = 0 then none else o) := by
  intro h H locs ls hl hP hS
  by_cases hy : y = 0
  · rw [if_pos hy] at h; cases h
  · rw [if_neg hy] at h
    exact lv_ldiv hX.1 hX.2.1 d hy (k h H locs ls hl hP hS)
theorem G_ldiv0 (hX : Fx w X cc nL own ret R) {x y : Int64} (hy : ¬ y = 0) (d : decode cc pc = .ok (.ldiv, 1)) (k : G w X z (pc + 1) lv (.long (x / y) :: st) μ o) : G w X z pc lv (.long y :: .long x :: st) μ o := by
  intro h H locs ls hl hP hS
  exact lv_ldiv hX.1 hX.2.1 d hy (k h H locs ls hl hP hS)
theorem G_lrem (hX : Fx w X cc nL own ret R) {x y : Int64} (d : decode cc pc = .ok (.lrem, 1)) (k : G w X z (pc + 1) lv (.long (x - x / y * y) :: st) μ o) : G w X z pc lv (.long y :: .long x :: st) μ (if y = 0 then none else o) := by
  intro h H locs ls hl hP hS
  by_cases hy : y = 0
  · rw [if_pos hy] at h; cases h
  · rw [if_neg hy] at h
    exact lv_lrem hX.1 hX.2.1 d hy (k h H locs ls hl hP hS)
theorem G_lrem0 (hX : Fx w X cc nL own ret R) {x y : Int64} (hy : ¬ y = 0) (d : decode cc pc = .ok (.lrem, 1)) (k : G w X z (pc + 1) lv (.long (x - x / y * y) :: st) μ o) : G w X z pc lv (.long y :: .long x :: st) μ o := by
  intro h H locs ls hl hP hS
  exact lv_lrem hX.1 hX.2.1 d hy (k h H locs ls hl hP hS)
theorem G_if_eq (hX : Fx w X cc nL own ret R) {x : Int32} {off : Int} {o1 o2 : Option (α × Mem)} (tgt : Nat) (ht : (pc : Int) + off = (tgt : Int)) (d : decode cc pc = .ok (.ifCond .eq off, 3)) (kt : G w X z tgt lv st μ o1) (kf : G w X z (pc + 3) lv st μ o2) : G w X z pc lv (.int x :: st) μ (if x = 0 then o1 else o2) := by
  intro h H locs ls hl hP hS
  exact lv_if_eq hX.1 hX.2.1 d ht (fun q => kt (by rw [if_pos q] at h; exact h) H locs ls hl hP hS) (fun q => kf (by rw [if_neg q] at h; exact h) H locs ls hl hP hS)
theorem G_icmp_eq (hX : Fx w X cc nL own ret R) {x y : Int32} {off : Int} {o1 o2 : Option (α × Mem)} (tgt : Nat) (ht : (pc : Int) + off = (tgt : Int)) (d : decode cc pc = .ok (.if_icmp .eq off, 3)) (kt : G w X z tgt lv st μ o1) (kf : G w X z (pc + 3) lv st μ o2) : G w X z pc lv (.int y :: .int x :: st) μ (if x = y then o1 else o2) := by
  intro h H locs ls hl hP hS
  exact lv_icmp_eq hX.1 hX.2.1 d ht (fun q => kt (by rw [if_pos q] at h; exact h) H locs ls hl hP hS) (fun q => kf (by rw [if_neg q] at h; exact h) H locs ls hl hP hS)
theorem G_if_ne (hX : Fx w X cc nL own ret R) {x : Int32} {off : Int} {o1 o2 : Option (α × Mem)} (tgt : Nat) (ht : (pc : Int) + off = (tgt : Int)) (d : decode cc pc = .ok (.ifCond .ne off, 3)) (kt : G w X z tgt lv st μ o1) (kf : G w X z (pc + 3) lv st μ o2) : G w X z pc lv (.int x :: st) μ (if x = 0 then o2 else o1) := by
  intro h H locs ls hl hP hS
  exact lv_if_ne hX.1 hX.2.1 d ht (fun q => kt (by rw [if_neg q] at h; exact h) H locs ls hl hP hS) (fun q => kf (by rw [if_pos q] at h; exact h) H locs ls hl hP hS)
theorem G_icmp_ne (hX : Fx w X cc nL own ret R) {x y : Int32} {off : Int} {o1 o2 : Option (α × Mem)} (tgt : Nat) (ht : (pc : Int) + off = (tgt : Int)) (d : decode cc pc = .ok (.if_icmp .ne off, 3)) (kt : G w X z tgt lv st μ o1) (kf : G w X z (pc + 3) lv st μ o2) : G w X z pc lv (.int y :: .int x :: st) μ (if x = y then o2 else o1) := by
  intro h H locs ls hl hP hS
  exact lv_icmp_ne hX.1 hX.2.1 d ht (fun q => kt (by rw [if_neg q] at h; exact h) H locs ls hl hP hS) (fun q => kf (by rw [if_pos q] at h; exact h) H locs ls hl hP hS)
theorem G_if_lt (hX : Fx w X cc nL own ret R) {x : Int32} {off : Int} {o1 o2 : Option (α × Mem)} (tgt : Nat) (ht : (pc : Int) + off = (tgt : Int)) (d : decode cc pc = .ok (.ifCond .lt off, 3)) (kt : G w X z tgt lv st μ o1) (kf : G w X z (pc + 3) lv st μ o2) : G w X z pc lv (.int x :: st) μ (if x < 0 then o1 else o2) := by
  intro h H locs ls hl hP hS
  exact lv_if_lt hX.1 hX.2.1 d ht (fun q => kt (by rw [if_pos q] at h; exact h) H locs ls hl hP hS) (fun q => kf (by rw [if_neg q] at h; exact h) H locs ls hl hP hS)
theorem G_icmp_lt (hX : Fx w X cc nL own ret R) {x y : Int32} {off : Int} {o1 o2 : Option (α × Mem)} (tgt : Nat) (ht : (pc : Int) + off = (tgt : Int)) (d : decode cc pc = .ok (.if_icmp .lt off, 3)) (kt : G w X z tgt lv st μ o1) (kf : G w X z (pc + 3) lv st μ o2) : G w X z pc lv (.int y :: .int x :: st) μ (if x < y then o1 else o2) := by
  intro h H locs ls hl hP hS
  exact lv_icmp_lt hX.1 hX.2.1 d ht (fun q => kt (by rw [if_pos q] at h; exact h) H locs ls hl hP hS) (fun q => kf (by rw [if_neg q] at h; exact h) H locs ls hl hP hS)
theorem G_if_ge (hX : Fx w X cc nL own ret R) {x : Int32} {off : Int} {o1 o2 : Option (α × Mem)} (tgt : Nat) (ht : (pc : Int) + off = (tgt : Int)) (d : decode cc pc = .ok (.ifCond .ge off, 3)) (kt : G w X z tgt lv st μ o1) (kf : G w X z (pc + 3) lv st μ o2) : G w X z pc lv (.int x :: st) μ (if 0 ≤ x then o1 else o2) := by
  intro h H locs ls hl hP hS
  exact lv_if_ge hX.1 hX.2.1 d ht (fun q => kt (by rw [if_pos q] at h; exact h) H locs ls hl hP hS) (fun q => kf (by rw [if_neg q] at h; exact h) H locs ls hl hP hS)
theorem G_icmp_ge (hX : Fx w X cc nL own ret R) {x y : Int32} {off : Int} {o1 o2 : Option (α × Mem)} (tgt : Nat) (ht : (pc : Int) + off = (tgt : Int)) (d : decode cc pc = .ok (.if_icmp .ge off, 3)) (kt : G w X z tgt lv st μ o1) (kf : G w X z (pc + 3) lv st μ o2) : G w X z pc lv (.int y :: .int x :: st) μ (if y ≤ x then o1 else o2) := by
  intro h H locs ls hl hP hS
  exact lv_icmp_ge hX.1 hX.2.1 d ht (fun q => kt (by rw [if_pos q] at h; exact h) H locs ls hl hP hS) (fun q => kf (by rw [if_neg q] at h; exact h) H locs ls hl hP hS)
theorem G_if_gt (hX : Fx w X cc nL own ret R) {x : Int32} {off : Int} {o1 o2 : Option (α × Mem)} (tgt : Nat) (ht : (pc : Int) + off = (tgt : Int)) (d : decode cc pc = .ok (.ifCond .gt off, 3)) (kt : G w X z tgt lv st μ o1) (kf : G w X z (pc + 3) lv st μ o2) : G w X z pc lv (.int x :: st) μ (if 0 < x then o1 else o2) := by
  intro h H locs ls hl hP hS
  exact lv_if_gt hX.1 hX.2.1 d ht (fun q => kt (by rw [if_pos q] at h; exact h) H locs ls hl hP hS) (fun q => kf (by rw [if_neg q] at h; exact h) H locs ls hl hP hS)
theorem G_icmp_gt (hX : Fx w X cc nL own ret R) {x y : Int32} {off : Int} {o1 o2 : Option (α × Mem)} (tgt : Nat) (ht : (pc : Int) + off = (tgt : Int)) (d : decode cc pc = .ok (.if_icmp .gt off, 3)) (kt : G w X z tgt lv st μ o1) (kf : G w X z (pc + 3) lv st μ o2) : G w X z pc lv (.int y :: .int x :: st) μ (if y < x then o1 else o2) := by
  intro h H locs ls hl hP hS
  exact lv_icmp_gt hX.1 hX.2.1 d ht (fun q => kt (by rw [if_pos q] at h; exact h) H locs ls hl hP hS) (fun q => kf (by rw [if_neg q] at h; exact h) H locs ls hl hP hS)
theorem G_if_le (hX : Fx w X cc nL own ret R) {x : Int32} {off : Int} {o1 o2 : Option (α × Mem)} (tgt : Nat) (ht : (pc : Int) + off = (tgt : Int)) (d : decode cc pc = .ok (.ifCond .le off, 3)) (kt : G w X z tgt lv st μ o1) (kf : G w X z (pc + 3) lv st μ o2) : G w X z pc lv (.int x :: st) μ (if x ≤ 0 then o1 else o2) := by
  intro h H locs ls hl hP hS
  exact lv_if_le hX.1 hX.2.1 d ht (fun q => kt (by rw [if_pos q] at h; exact h) H locs ls hl hP hS) (fun q => kf (by rw [if_neg q] at h; exact h) H locs ls hl hP hS)
theorem G_icmp_le (hX : Fx w X cc nL own ret R) {x y : Int32} {off : Int} {o1 o2 : Option (α × Mem)} (tgt : Nat) (ht : (pc : Int) + off = (tgt : Int)) (d : decode cc pc = .ok (.if_icmp .le off, 3)) (kt : G w X z tgt lv st μ o1) (kf : G w X z (pc + 3) lv st μ o2) : G w X z pc lv (.int y :: .int x :: st) μ (if x ≤ y then o1 else o2) := by
  intro h H locs ls hl hP hS
  exact lv_icmp_le hX.1 hX.2.1 d ht (fun q => kt (by rw [if_pos q] at h; exact h) H locs ls hl hP hS) (fun q => kf (by rw [if_neg q] at h; exact h) H locs ls hl hP hS)
theorem G_goto (hX : Fx w X cc nL own ret R) {off : Int} (tgt : Nat) (ht : (pc : Int) + off = (tgt : Int)) (d : decode cc pc = .ok (.goto off, 3)) (k : G w X z tgt lv st μ o) : G w X z pc lv st μ o := by
  intro h H locs ls hl hP hS
  exact lv_goto hX.1 hX.2.1 d ht (k h H locs ls hl hP hS)
theorem G_swOut (hX : Fx w X cc nL own ret R) {x : Int32} {dflt lo hi : Int} {offs : Array Int} {len : Nat} (tgt : Nat) (ht : (pc : Int) + dflt = (tgt : Int)) (d : decode cc pc = .ok (.tableswitch dflt lo hi offs, len)) (hx : x.toInt < lo ∨ hi < x.toInt) (k : G w X z tgt lv st μ o) : G w X z pc lv (.int x :: st) μ o := by
  intro h H locs ls hl hP hS
  exact lv_tableOut hX.1 hX.2.1 d hx ht (k h H locs ls hl hP hS)
theorem G_swIn (hX : Fx w X cc nL own ret R) {x : Int32} {dflt lo hi off : Int} {offs : Array Int} {len : Nat} (tgt n : Nat) (v : Int) (hv : x.toInt = v) (h1 : ¬ v < lo) (h2 : ¬ hi < v) (hn : (v - lo).toNat = n) (ho : offs[n]? = some off) (ht : (pc : Int) + off = (tgt : Int)) (d : decode cc pc = .ok (.tableswitch dflt lo hi offs, len)) (k : G w X z tgt lv st μ o) : G w X z pc lv (.int x :: st) μ o := by
  intro h H locs ls hl hP hS
  subst hv
  exact lv_tableIn hX.1 hX.2.1 d h1 h2 (by rw [hn]; exact ho) ht (k h H locs ls hl hP hS)
theorem G_sw {c : Prop} [Decidable c] {o1 o2 : Option (α × Mem)} (k1 : c → G w X z pc lv st μ o1) (k2 : ¬ c → G w X z pc lv st μ o2) : G w X z pc lv st μ (if c then o1 else o2) := by
  by_cases hc : c
  · rw [if_pos hc]; exact k1 hc
  · rw [if_neg hc]; exact k2 hc
theorem G_guard {c : Prop} [Decidable c] (k : c → G w X z pc lv st μ o) : G w X z pc lv st μ (if c then o else none) := by
  by_cases hc : c
  · rw [if_pos hc]; exact k hc
  · rw [if_neg hc]; intro h; cases h
theorem G_nmi {x : Int32} {k : Int32 → Option (α × Mem)} (kk : ∀ y : Int32, G w X z pc lv (.int y :: st) μ (k y)) : G w X z pc lv (.int x :: st) μ (nm x k) := kk x
theorem G_nml {x : Int64} {k : Int64 → Option (α × Mem)} (kk : ∀ y : Int64, G w X z pc lv (.long y :: st) μ (k y)) : G w X z pc lv (.long x :: st) μ (nm x k) := kk x
theorem G_sub {lv' : List (Nat × Value)} (ks : List Nat) (hk : lv_pick lv ks = lv') (k : G w X z pc lv' st μ o) : G w X z pc lv st μ o := by
  intro h H locs ls hl hP hS
  exact k h H locs ls (lv_sub hl ks hk) hP hS
theorem G_none : G w X z pc lv st μ none := by
  intro h; cases h
theorem G_ldc (hX : Fx w X cc nL own ret R) {index : Nat} {v : Int32} (hc : Cond.constant own index v ∈ tb) (d : decode cc pc = .ok (.ldc index, 2)) (k : G w X z (pc + 2) lv (.int v :: st) μ o) : G w X z pc lv st μ o := by
  intro h H locs ls hl hP hS
  exact lv_ldc hX.1 hX.2.1 hX.2.2.2.1 (hX.2.2.2.2.1 _ hc) d (k h H locs ls hl hP hS)
theorem G_ldc2 (hX : Fx w X cc nL own ret R) {index : Nat} {v : Int64} (hc : Cond.constantLong own index v ∈ tb) (d : decode cc pc = .ok (.ldc2_w index, 3)) (k : G w X z (pc + 3) lv (.long v :: st) μ o) : G w X z pc lv st μ o := by
  intro h H locs ls hl hP hS
  exact lv_ldc2 hX.1 hX.2.1 hX.2.2.2.1 (hX.2.2.2.2.1 _ hc) d (k h H locs ls hl hP hS)
theorem G_getI (hX : Fx w X cc nL own ret R) {C ref n dd : String} {T : u_T} {N index : Nat} {a j : Nat} (ci : Nat) (hcl : vwCl[ci]? = some (C, T, N)) (hin : ∀ w ∈ u_ws C T N, w ∈ tb) (ha : a < w.1) (hk : w.2.1 a = .inl ci) (hj : (tyf ci)[j]? = some 0) (hT : (T j).1 = ref ∧ (T j).2.1 = n ∧ (T j).2.2.1 = dd) (hjN : j < N) (hlk : Cond.fieldLink own index ref n dd ∈ tb) (d : decode cc pc = .ok (.getfield index, 3)) (k : G w X z (pc + 3) lv (.int (μ.1 a j) :: st) μ o) : G w X z pc lv (.ref (cx_ad X a) :: st) μ o := by
  intro h H locs ls hl hP hS
  obtain ⟨h1, h2, h3⟩ := hT
  subst h1; subst h2; subst h3
  exact va_get (q0 := a) (ci := ci) (fs := (tyf ci).mapIdx (fun j t => fval w.2.2 (cx_ad X) μ a j t)) hX.1 hX.2.1 hX.2.2.2.2.1 hin hX.2.2.2.1 hX.2.2.2.2.2.1 hP (by rw [wld_at ha, wcell_obj hk]) hcl j hjN (hX.2.2.2.2.1 _ hlk) (fun _ h9 => h9) (by rw [List.getElem?_mapIdx, hj]; rfl) d (k h H locs ls hl hP hS)
theorem G_getL (hX : Fx w X cc nL own ret R) {C ref n dd : String} {T : u_T} {N index : Nat} {a j : Nat} (ci : Nat) (hcl : vwCl[ci]? = some (C, T, N)) (hin : ∀ w ∈ u_ws C T N, w ∈ tb) (ha : a < w.1) (hk : w.2.1 a = .inl ci) (hj : (tyf ci)[j]? = some 1) (hT : (T j).1 = ref ∧ (T j).2.1 = n ∧ (T j).2.2.1 = dd) (hjN : j < N) (hlk : Cond.fieldLink own index ref n dd ∈ tb) (d : decode cc pc = .ok (.getfield index, 3)) (k : G w X z (pc + 3) lv (.long (μ.2.1 a j) :: st) μ o) : G w X z pc lv (.ref (cx_ad X a) :: st) μ o := by
  intro h H locs ls hl hP hS
  obtain ⟨h1, h2, h3⟩ := hT
  subst h1; subst h2; subst h3
  exact va_get (q0 := a) (ci := ci) (fs := (tyf ci).mapIdx (fun j t => fval w.2.2 (cx_ad X) μ a j t)) hX.1 hX.2.1 hX.2.2.2.2.1 hin hX.2.2.2.1 hX.2.2.2.2.2.1 hP (by rw [wld_at ha, wcell_obj hk]) hcl j hjN (hX.2.2.2.2.1 _ hlk) (fun _ h9 => h9) (by rw [List.getElem?_mapIdx, hj]; rfl) d (k h H locs ls hl hP hS)
theorem G_getF (hX : Fx w X cc nL own ret R) {C ref n dd : String} {T : u_T} {N index : Nat} {a j : Nat} (ci : Nat) (hcl : vwCl[ci]? = some (C, T, N)) (hin : ∀ w ∈ u_ws C T N, w ∈ tb) (ha : a < w.1) (hk : w.2.1 a = .inl ci) (hj : (tyf ci)[j]? = some 2) (hT : (T j).1 = ref ∧ (T j).2.1 = n ∧ (T j).2.2.1 = dd) (hjN : j < N) (hlk : Cond.fieldLink own index ref n dd ∈ tb) (d : decode cc pc = .ok (.getfield index, 3)) (k : G w X z (pc + 3) lv (.ref (cx_ad X (w.2.2 a j)) :: st) μ o) : G w X z pc lv (.ref (cx_ad X a) :: st) μ o := by
  intro h H locs ls hl hP hS
  obtain ⟨h1, h2, h3⟩ := hT
  subst h1; subst h2; subst h3
  exact va_get (q0 := a) (ci := ci) (fs := (tyf ci).mapIdx (fun j t => fval w.2.2 (cx_ad X) μ a j t)) hX.1 hX.2.1 hX.2.2.2.2.1 hin hX.2.2.2.1 hX.2.2.2.2.2.1 hP (by rw [wld_at ha, wcell_obj hk]) hcl j hjN (hX.2.2.2.2.1 _ hlk) (fun _ h9 => h9) (by rw [List.getElem?_mapIdx, hj]; rfl) d (k h H locs ls hl hP hS)
theorem G_getR (hX : Fx w X cc nL own ret R) {C ref n dd : String} {T : u_T} {N index : Nat} {a j : Nat} (ci : Nat) (hcl : vwCl[ci]? = some (C, T, N)) (hin : ∀ w ∈ u_ws C T N, w ∈ tb) (ha : a < w.1) (hk : w.2.1 a = .inl ci) (hj : (tyf ci)[j]? = some 3) (hT : (T j).1 = ref ∧ (T j).2.1 = n ∧ (T j).2.2.1 = dd) (hjN : j < N) (hlk : Cond.fieldLink own index ref n dd ∈ tb) (d : decode cc pc = .ok (.getfield index, 3)) (k : G w X z (pc + 3) lv (.ref (cx_ad X (μ.2.2 a j)) :: st) μ o) : G w X z pc lv (.ref (cx_ad X a) :: st) μ o := by
  intro h H locs ls hl hP hS
  obtain ⟨h1, h2, h3⟩ := hT
  subst h1; subst h2; subst h3
  exact va_get (q0 := a) (ci := ci) (fs := (tyf ci).mapIdx (fun j t => fval w.2.2 (cx_ad X) μ a j t)) hX.1 hX.2.1 hX.2.2.2.2.1 hin hX.2.2.2.1 hX.2.2.2.2.2.1 hP (by rw [wld_at ha, wcell_obj hk]) hcl j hjN (hX.2.2.2.2.1 _ hlk) (fun _ h9 => h9) (by rw [List.getElem?_mapIdx, hj]; rfl) d (k h H locs ls hl hP hS)
theorem G_putI (hX : Fx w X cc nL own ret R) {C ref n dd : String} {T : u_T} {N index : Nat} {a j : Nat} {v : Int32} (ci : Nat) (hcl : vwCl[ci]? = some (C, T, N)) (hin : ∀ w ∈ u_ws C T N, w ∈ tb) (ty : Nat → FieldType) (hty : ∀ k, k < N → parseFieldDescriptor (T k).2.2.1 = some (ty k)) (hnm : ∀ a, a < N → ∀ b, b < N → a ≠ b → (T a).2.1 ≠ (T b).2.1) (ha : a < w.1) (hk : w.2.1 a = .inl ci) (hj : (tyf ci)[j]? = some 0) (hT : (T j).1 = ref ∧ (T j).2.1 = n ∧ (T j).2.2.1 = dd ∧ (T j).2.2.2 = false ∧ ty j = .int) (hjN : j < N) (hlk : Cond.fieldLink own index ref n dd ∈ tb) (d : decode cc pc = .ok (.putfield index, 3)) (k : G w X z (pc + 3) lv st (stI μ a j v) o) : G w X z pc lv (.int v :: .ref (cx_ad X a) :: st) μ o := by
  intro h H locs ls hl hP hS
  obtain ⟨h1, h2, h3, h4, h5⟩ := hT
  subst h1; subst h2; subst h3
  have hlen : j < ((tyf ci).mapIdx (fun j t => fval w.2.2 (cx_ad X) μ a j t)).length := by rw [List.length_mapIdx]; exact (List.getElem?_eq_some_iff.mp hj).1
  refine va_put (q0 := a) (ci := ci) (ty := .int) (fs := (tyf ci).mapIdx (fun j t => fval w.2.2 (cx_ad X) μ a j t)) hX.1 hX.2.1 hX.2.2.2.2.1 hin ty hty hnm hX.2.2.2.1 hX.2.2.2.2.2.1 hP (wld_D hX.2.2.2.2.2.2.2.1 hX.2.2.2.2.2.2.2.2.1) hS (by rw [wld_at ha, wcell_obj hk]) hcl j hjN (hX.2.2.2.2.1 _ hlk) (fun _ h9 => h9) h4 (by rw [hty j hjN, h5]) (by rfl) (by rfl) hlen d (fun H1 locs1 hP1 _ hS1 => k h H1 locs1 ls hl ?_ hS1)
  have e : (wld w (cx_cA X) (cx_ad X) μ).set a (cx_ad X a, .inr (ci, ((tyf ci).mapIdx (fun j t => fval w.2.2 (cx_ad X) μ a j t)).set j (.int v))) = wld w (cx_cA X) (cx_ad X) (stI μ a j v) := by
    refine wld_set (fun q hq => wcell_oth ?_ ?_ ?_) ?_
    · first | rfl | exact stI_ne hq
    · first | rfl | exact stI_ne hq
    · first | rfl | exact stI_ne hq
    · rw [wcell_obj hk]
      congr 2
      refine (mapIdx_set (fun i t hi => ?_) (fun t ht => ?_)).symm
      · simp [fval, stI, hi]
      · rw [hj] at ht; cases ht; simp [fval, stI]
  rw [← e]; exact hP1
theorem G_putL (hX : Fx w X cc nL own ret R) {C ref n dd : String} {T : u_T} {N index : Nat} {a j : Nat} {v : Int64} (ci : Nat) (hcl : vwCl[ci]? = some (C, T, N)) (hin : ∀ w ∈ u_ws C T N, w ∈ tb) (ty : Nat → FieldType) (hty : ∀ k, k < N → parseFieldDescriptor (T k).2.2.1 = some (ty k)) (hnm : ∀ a, a < N → ∀ b, b < N → a ≠ b → (T a).2.1 ≠ (T b).2.1) (ha : a < w.1) (hk : w.2.1 a = .inl ci) (hj : (tyf ci)[j]? = some 1) (hT : (T j).1 = ref ∧ (T j).2.1 = n ∧ (T j).2.2.1 = dd ∧ (T j).2.2.2 = false ∧ ty j = .long) (hjN : j < N) (hlk : Cond.fieldLink own index ref n dd ∈ tb) (d : decode cc pc = .ok (.putfield index, 3)) (k : G w X z (pc + 3) lv st (stL μ a j v) o) : G w X z pc lv (.long v :: .ref (cx_ad X a) :: st) μ o := by
  intro h H locs ls hl hP hS
  obtain ⟨h1, h2, h3, h4, h5⟩ := hT
  subst h1; subst h2; subst h3
  have hlen : j < ((tyf ci).mapIdx (fun j t => fval w.2.2 (cx_ad X) μ a j t)).length := by rw [List.length_mapIdx]; exact (List.getElem?_eq_some_iff.mp hj).1
  refine va_put (q0 := a) (ci := ci) (ty := .long) (fs := (tyf ci).mapIdx (fun j t => fval w.2.2 (cx_ad X) μ a j t)) hX.1 hX.2.1 hX.2.2.2.2.1 hin ty hty hnm hX.2.2.2.1 hX.2.2.2.2.2.1 hP (wld_D hX.2.2.2.2.2.2.2.1 hX.2.2.2.2.2.2.2.2.1) hS (by rw [wld_at ha, wcell_obj hk]) hcl j hjN (hX.2.2.2.2.1 _ hlk) (fun _ h9 => h9) h4 (by rw [hty j hjN, h5]) (by rfl) (by rfl) hlen d (fun H1 locs1 hP1 _ hS1 => k h H1 locs1 ls hl ?_ hS1)
  have e : (wld w (cx_cA X) (cx_ad X) μ).set a (cx_ad X a, .inr (ci, ((tyf ci).mapIdx (fun j t => fval w.2.2 (cx_ad X) μ a j t)).set j (.long v))) = wld w (cx_cA X) (cx_ad X) (stL μ a j v) := by
    refine wld_set (fun q hq => wcell_oth ?_ ?_ ?_) ?_
    · first | rfl | exact stL_ne hq
    · first | rfl | exact stL_ne hq
    · first | rfl | exact stL_ne hq
    · rw [wcell_obj hk]
      congr 2
      refine (mapIdx_set (fun i t hi => ?_) (fun t ht => ?_)).symm
      · simp [fval, stL, hi]
      · rw [hj] at ht; cases ht; simp [fval, stL]
  rw [← e]; exact hP1
theorem G_putR (hX : Fx w X cc nL own ret R) {C ref n dd : String} {CC : String} {T : u_T} {N index : Nat} {a j : Nat} {v : Nat} (ci : Nat) (hcl : vwCl[ci]? = some (C, T, N)) (hin : ∀ w ∈ u_ws C T N, w ∈ tb) (ty : Nat → FieldType) (hty : ∀ k, k < N → parseFieldDescriptor (T k).2.2.1 = some (ty k)) (hnm : ∀ a, a < N → ∀ b, b < N → a ≠ b → (T a).2.1 ≠ (T b).2.1) (ha : a < w.1) (hk : w.2.1 a = .inl ci) (hj : (tyf ci)[j]? = some 3) (hT : (T j).1 = ref ∧ (T j).2.1 = n ∧ (T j).2.2.1 = dd ∧ (T j).2.2.2 = false ∧ ty j = .object CC) (hjN : j < N) (hlk : Cond.fieldLink own index ref n dd ∈ tb) (d : decode cc pc = .ok (.putfield index, 3)) (k : G w X z (pc + 3) lv st (stR μ a j v) o) : G w X z pc lv (.ref (cx_ad X v) :: .ref (cx_ad X a) :: st) μ o := by
  intro h H locs ls hl hP hS
  obtain ⟨h1, h2, h3, h4, h5⟩ := hT
  subst h1; subst h2; subst h3
  have hlen : j < ((tyf ci).mapIdx (fun j t => fval w.2.2 (cx_ad X) μ a j t)).length := by rw [List.length_mapIdx]; exact (List.getElem?_eq_some_iff.mp hj).1
  refine va_put (q0 := a) (ci := ci) (ty := .object CC) (fs := (tyf ci).mapIdx (fun j t => fval w.2.2 (cx_ad X) μ a j t)) hX.1 hX.2.1 hX.2.2.2.2.1 hin ty hty hnm hX.2.2.2.1 hX.2.2.2.2.2.1 hP (wld_D hX.2.2.2.2.2.2.2.1 hX.2.2.2.2.2.2.2.2.1) hS (by rw [wld_at ha, wcell_obj hk]) hcl j hjN (hX.2.2.2.2.1 _ hlk) (fun _ h9 => h9) h4 (by rw [hty j hjN, h5]) (by rfl) (by rfl) hlen d (fun H1 locs1 hP1 _ hS1 => k h H1 locs1 ls hl ?_ hS1)
  have e : (wld w (cx_cA X) (cx_ad X) μ).set a (cx_ad X a, .inr (ci, ((tyf ci).mapIdx (fun j t => fval w.2.2 (cx_ad X) μ a j t)).set j (.ref (cx_ad X v)))) = wld w (cx_cA X) (cx_ad X) (stR μ a j v) := by
    refine wld_set (fun q hq => wcell_oth ?_ ?_ ?_) ?_
    · first | rfl | exact stR_ne hq
    · first | rfl | exact stR_ne hq
    · first | rfl | exact stR_ne hq
    · rw [wcell_obj hk]
      congr 2
      refine (mapIdx_set (fun i t hi => ?_) (fun t ht => ?_)).symm
      · simp [fval, stR, hi]
      · rw [hj] at ht; cases ht; simp [fval, stR]
  rw [← e]; exact hP1
theorem G_iald (hX : Fx w X cc nL own ret R) {a n : Nat} {i : Int32} {k : Int32 → Option (α × Mem)} (ha : a < w.1) (hk : w.2.1 a = .inr (0, n)) (d : decode cc pc = .ok (.iaload, 1)) (kk : ∀ x, G w X z (pc + 1) lv (.int x :: st) μ (k x)) : G w X z pc lv (.int i :: .ref (cx_ad X a) :: st) μ (if i < 0 ∨ n ≤ i.toNatClampNeg then none else k (μ.1 a i.toNatClampNeg)) := by
  intro h H locs ls hl hP hS
  by_cases hi : i < 0 ∨ n ≤ i.toNatClampNeg
  · rw [if_pos hi] at h; cases h
  · rw [if_neg hi] at h
    exact va_iald hX.1 hX.2.1 hX.2.2.2.2.2.1 hP a 0 (by rw [wld_at ha, wcell_arr hk (by decide)]) rfl hi d (kk _ h H locs ls hl hP hS)
theorem G_lald (hX : Fx w X cc nL own ret R) {a n : Nat} {i : Int32} {k : Int64 → Option (α × Mem)} (ha : a < w.1) (hk : w.2.1 a = .inr (1, n)) (d : decode cc pc = .ok (.laload, 1)) (kk : ∀ x, G w X z (pc + 1) lv (.long x :: st) μ (k x)) : G w X z pc lv (.int i :: .ref (cx_ad X a) :: st) μ (if i < 0 ∨ n ≤ i.toNatClampNeg then none else k (μ.2.1 a i.toNatClampNeg)) := by
  intro h H locs ls hl hP hS
  by_cases hi : i < 0 ∨ n ≤ i.toNatClampNeg
  · rw [if_pos hi] at h; cases h
  · rw [if_neg hi] at h
    exact va_lald hX.1 hX.2.1 hX.2.2.2.2.2.1 hP a 1 (by rw [wld_at ha, wcell_arrL hk]) rfl hi d (kk _ h H locs ls hl hP hS)
theorem G_bald (hX : Fx w X cc nL own ret R) {a n : Nat} {i : Int32} {k : Int32 → Option (α × Mem)} (ha : a < w.1) (hk : w.2.1 a = .inr (2, n)) (d : decode cc pc = .ok (.baload, 1)) (kk : ∀ x, G w X z (pc + 1) lv (.int x :: st) μ (k x)) : G w X z pc lv (.int i :: .ref (cx_ad X a) :: st) μ (if i < 0 ∨ n ≤ i.toNatClampNeg then none else k (μ.1 a i.toNatClampNeg)) := by
  intro h H locs ls hl hP hS
  by_cases hi : i < 0 ∨ n ≤ i.toNatClampNeg
  · rw [if_pos hi] at h; cases h
  · rw [if_neg hi] at h
    exact va_bald hX.1 hX.2.1 hX.2.2.2.2.2.1 hP a 2 (by rw [wld_at ha, wcell_arr hk (by decide)]) rfl hi d (kk _ h H locs ls hl hP hS)
theorem G_zald (hX : Fx w X cc nL own ret R) {a n : Nat} {i : Int32} {k : Int32 → Option (α × Mem)} (ha : a < w.1) (hk : w.2.1 a = .inr (3, n)) (d : decode cc pc = .ok (.baload, 1)) (kk : ∀ x, G w X z (pc + 1) lv (.int x :: st) μ (k x)) : G w X z pc lv (.int i :: .ref (cx_ad X a) :: st) μ (if i < 0 ∨ n ≤ i.toNatClampNeg then none else k (μ.1 a i.toNatClampNeg)) := by
  intro h H locs ls hl hP hS
  by_cases hi : i < 0 ∨ n ≤ i.toNatClampNeg
  · rw [if_pos hi] at h; cases h
  · rw [if_neg hi] at h
    exact va_zald hX.1 hX.2.1 hX.2.2.2.2.2.1 hP a 3 (by rw [wld_at ha, wcell_arr hk (by decide)]) rfl hi d (kk _ h H locs ls hl hP hS)
theorem G_iast (hX : Fx w X cc nL own ret R) {a n : Nat} {i : Int32} {v : Int32} (ha : a < w.1) (hk : w.2.1 a = .inr (0, n)) (d : decode cc pc = .ok (.iastore, 1)) (kk : G w X z (pc + 1) lv st (stI μ a i.toNatClampNeg (v)) o) : G w X z pc lv (.int v :: .int i :: .ref (cx_ad X a) :: st) μ (if i < 0 ∨ n ≤ i.toNatClampNeg then none else o) := by
  intro h H locs ls hl hP hS
  by_cases hi : i < 0 ∨ n ≤ i.toNatClampNeg
  · rw [if_pos hi] at h; cases h
  · rw [if_neg hi] at h
    refine va_iast hX.1 hX.2.1 hX.2.2.2.2.2.1 hP (wld_D hX.2.2.2.2.2.2.2.1 hX.2.2.2.2.2.2.2.2.1) hS a 0 (by rw [wld_at ha, wcell_arr hk (by decide)]) rfl hi d (fun H1 locs1 hP1 _ hS1 => kk h H1 locs1 ls hl ?_ hS1)
    have e : (wld w (cx_cA X) (cx_ad X) μ).set a (cx_ad X a, .inl (cx_cA X 0, n, .inl (upd (μ.1 a) i.toNatClampNeg (v)))) = wld w (cx_cA X) (cx_ad X) (stI μ a i.toNatClampNeg (v)) := by
      refine wld_set (fun q hq => wcell_oth ?_ ?_ ?_) ?_
      · first | rfl | exact stI_ne hq
      · first | rfl | exact stI_ne hq
      · first | rfl | exact stI_ne hq
      · rw [wcell_arr hk (by decide), stI_row]
    rw [← e]; exact hP1
theorem G_last (hX : Fx w X cc nL own ret R) {a n : Nat} {i : Int32} {v : Int64} (ha : a < w.1) (hk : w.2.1 a = .inr (1, n)) (d : decode cc pc = .ok (.lastore, 1)) (kk : G w X z (pc + 1) lv st (stL μ a i.toNatClampNeg (v)) o) : G w X z pc lv (.long v :: .int i :: .ref (cx_ad X a) :: st) μ (if i < 0 ∨ n ≤ i.toNatClampNeg then none else o) := by
  intro h H locs ls hl hP hS
  by_cases hi : i < 0 ∨ n ≤ i.toNatClampNeg
  · rw [if_pos hi] at h; cases h
  · rw [if_neg hi] at h
    refine va_last hX.1 hX.2.1 hX.2.2.2.2.2.1 hP (wld_D hX.2.2.2.2.2.2.2.1 hX.2.2.2.2.2.2.2.2.1) hS a 1 (by rw [wld_at ha, wcell_arrL hk]) rfl hi d (fun H1 locs1 hP1 _ hS1 => kk h H1 locs1 ls hl ?_ hS1)
    have e : (wld w (cx_cA X) (cx_ad X) μ).set a (cx_ad X a, .inl (cx_cA X 1, n, .inr (.inl (vp_updL (μ.2.1 a) i.toNatClampNeg v)))) = wld w (cx_cA X) (cx_ad X) (stL μ a i.toNatClampNeg (v)) := by
      refine wld_set (fun q hq => wcell_oth ?_ ?_ ?_) ?_
      · first | rfl | exact stL_ne hq
      · first | rfl | exact stL_ne hq
      · first | rfl | exact stL_ne hq
      · rw [wcell_arrL hk, stL_row]
    rw [← e]; exact hP1
theorem G_bast (hX : Fx w X cc nL own ret R) {a n : Nat} {i : Int32} {v : Int32} (ha : a < w.1) (hk : w.2.1 a = .inr (2, n)) (d : decode cc pc = .ok (.bastore, 1)) (kk : G w X z (pc + 1) lv st (stI μ a i.toNatClampNeg (vp_nar .byte v)) o) : G w X z pc lv (.int v :: .int i :: .ref (cx_ad X a) :: st) μ (if i < 0 ∨ n ≤ i.toNatClampNeg then none else o) := by
  intro h H locs ls hl hP hS
  by_cases hi : i < 0 ∨ n ≤ i.toNatClampNeg
  · rw [if_pos hi] at h; cases h
  · rw [if_neg hi] at h
    refine va_bast hX.1 hX.2.1 hX.2.2.2.2.2.1 hP (wld_D hX.2.2.2.2.2.2.2.1 hX.2.2.2.2.2.2.2.2.1) hS a 2 (by rw [wld_at ha, wcell_arr hk (by decide)]) rfl hi d (fun H1 locs1 hP1 _ hS1 => kk h H1 locs1 ls hl ?_ hS1)
    have e : (wld w (cx_cA X) (cx_ad X) μ).set a (cx_ad X a, .inl (cx_cA X 2, n, .inl (upd (μ.1 a) i.toNatClampNeg (vp_nar .byte v)))) = wld w (cx_cA X) (cx_ad X) (stI μ a i.toNatClampNeg (vp_nar .byte v)) := by
      refine wld_set (fun q hq => wcell_oth ?_ ?_ ?_) ?_
      · first | rfl | exact stI_ne hq
      · first | rfl | exact stI_ne hq
      · first | rfl | exact stI_ne hq
      · rw [wcell_arr hk (by decide), stI_row]
    rw [← e]; exact hP1
theorem G_zast (hX : Fx w X cc nL own ret R) {a n : Nat} {i : Int32} {v : Int32} (ha : a < w.1) (hk : w.2.1 a = .inr (3, n)) (d : decode cc pc = .ok (.bastore, 1)) (kk : G w X z (pc + 1) lv st (stI μ a i.toNatClampNeg (vp_nar .boolean v)) o) : G w X z pc lv (.int v :: .int i :: .ref (cx_ad X a) :: st) μ (if i < 0 ∨ n ≤ i.toNatClampNeg then none else o) := by
  intro h H locs ls hl hP hS
  by_cases hi : i < 0 ∨ n ≤ i.toNatClampNeg
  · rw [if_pos hi] at h; cases h
  · rw [if_neg hi] at h
    refine va_zast hX.1 hX.2.1 hX.2.2.2.2.2.1 hP (wld_D hX.2.2.2.2.2.2.2.1 hX.2.2.2.2.2.2.2.2.1) hS a 3 (by rw [wld_at ha, wcell_arr hk (by decide)]) rfl hi d (fun H1 locs1 hP1 _ hS1 => kk h H1 locs1 ls hl ?_ hS1)
    have e : (wld w (cx_cA X) (cx_ad X) μ).set a (cx_ad X a, .inl (cx_cA X 3, n, .inl (upd (μ.1 a) i.toNatClampNeg (vp_nar .boolean v)))) = wld w (cx_cA X) (cx_ad X) (stI μ a i.toNatClampNeg (vp_nar .boolean v)) := by
      refine wld_set (fun q hq => wcell_oth ?_ ?_ ?_) ?_
      · first | rfl | exact stI_ne hq
      · first | rfl | exact stI_ne hq
      · first | rfl | exact stI_ne hq
      · rw [wcell_arr hk (by decide), stI_row]
    rw [← e]; exact hP1
end
