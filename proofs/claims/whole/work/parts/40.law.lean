/-! The law's own body: both worlds side by side. -/
def FL (X : Ctx) (aM : Nat → Nat) (b L : Nat) (xs : Nat → Int32) : Prop :=
  (cx_p X).tables.exec = Jvm.exec ∧ (cx_c X).code = cL_law ∧ (cx_c X).maxLocals = 8 ∧ (cx_s X).vm.findClass RL = some (cx_m X).cls ∧ (∀ w ∈ tb, w.before (cx_args X) (cx_s X) = true) ∧
  va_K (cx_D X) vwCl (tysA (cx_cA X)) (cx_s X) ∧ cx_A X = (fun q => (cx_s X).heap.size ≤ q) ∧ (injA wC (cx_ad X) ∧ injA wM aM ∧ (∀ i j, i < wC.1 → j < wM.1 → cx_ad X i ≠ aM j) ∧ (∀ i, i < wC.1 → (cx_s X).heap.size ≤ cx_ad X i) ∧ ∀ j, j < wM.1 → (cx_s X).heap.size ≤ aM j) ∧
  cx_R X = room_1 ∧ cx_nL X = 8 ∧ SW (cx_adK X) (cx_adV X) (cx_A X) (cx_s X) (cx_s X).heap ∧ (va_X b L xs (cx_s X) (cx_s X).heap ∧ b < (cx_s X).heap.size ∧ L ≤ 4096) ∧ (cx_l X).stackTraces = false
def GL (X : Ctx) (aM : Nat → Nat) (z : Mem × Mem) (pc : Nat) (lv : List (Nat × Value)) (st : List Value) (μ ν : Mem) (k n : Nat) (o : Option (Mem × Mem)) : Prop :=
  o = some z → ∀ (H : Heap) (locs : List Loc) (ls : Array Slot), lv_has ls 8 lv → va_P (cx_D X) vwCl (wld wC (cx_cA X) (cx_ad X) μ) H → va_P (cx_D X) vwCl (wld wM (cx_cA X) aM ν) H → va_S (cx_A X) (cx_s X).heap H locs →
    W (cx_p X) (cx_l X) (cx_e X) (cx_R X) (cx_s X) (cx_m X) (cx_args X) (cx_below X) (cx_meth X) (cx_c X) H locs k n (cx_Q X) (F0 (cx_m X) pc ls st)
section
variable {X : Ctx} {aM : Nat → Nat} {b L : Nat} {xs : Nat → Int32} {z : Mem × Mem} {pc : Nat} {lv : List (Nat × Value)} {st : List Value} {μ ν : Mem} {k n : Nat} {o : Option (Mem × Mem)}
theorem L_iconst (hX : FL X aM b L xs) {i : Int} (v : Int32) (hv : Int32.ofInt i = v) (d : decode cL_law pc = .ok (.iconst i, 1)) (kk : GL X aM z (pc + 1) lv (.int v :: st) μ ν k n o) : GL X aM z pc lv (st) μ ν k n o := by
  intro h H locs ls hl hP hM hS
  exact lv_iconst hX.1 hX.2.1 d hv (kk h H locs ls hl hP hM hS)
theorem L_bipush (hX : FL X aM b L xs) {i : Int} (v : Int32) (hv : (Int8.ofInt i).toInt32 = v) (d : decode cL_law pc = .ok (.bipush i, 2)) (kk : GL X aM z (pc + 2) lv (.int v :: st) μ ν k n o) : GL X aM z pc lv (st) μ ν k n o := by
  intro h H locs ls hl hP hM hS
  exact lv_bipush hX.1 hX.2.1 d hv (kk h H locs ls hl hP hM hS)
theorem L_lconst (hX : FL X aM b L xs) {i : Fin 2} (v : Int64) (hv : Int64.ofNat (i : Nat) = v) (d : decode cL_law pc = .ok (.lconst i, 1)) (kk : GL X aM z (pc + 1) lv (.long v :: st) μ ν k n o) : GL X aM z pc lv (st) μ ν k n o := by
  intro h H locs ls hl hP hM hS
  exact lv_lconst hX.1 hX.2.1 d hv (kk h H locs ls hl hP hM hS)
theorem L_iload_n (hX : FL X aM b L xs) {i : Fin 4} {j : Nat} {x : Int32} (q : Nat) (hi : (i : Nat) = j) (hq : lv[q]? = some (j, .int x)) (d : decode cL_law pc = .ok (.iload_n i, 1)) (kk : GL X aM z (pc + 1) lv (.int x :: st) μ ν k n o) : GL X aM z pc lv (st) μ ν k n o := by
  intro h H locs ls hl hP hM hS
  exact lv_iload_n hX.1 hX.2.1 d hi (lv_at hl q hq) (kk h H locs ls hl hP hM hS)
theorem L_iload (hX : FL X aM b L xs) {j : Nat} {x : Int32} (q : Nat) (hq : lv[q]? = some (j, .int x)) (d : decode cL_law pc = .ok (.iload j, 2)) (kk : GL X aM z (pc + 2) lv (.int x :: st) μ ν k n o) : GL X aM z pc lv (st) μ ν k n o := by
  intro h H locs ls hl hP hM hS
  exact lv_iload hX.1 hX.2.1 d (lv_at hl q hq) (kk h H locs ls hl hP hM hS)
theorem L_lload_n (hX : FL X aM b L xs) {i : Fin 4} {j : Nat} {x : Int64} (q : Nat) (hi : (i : Nat) = j) (hq : lv[q]? = some (j, .long x)) (d : decode cL_law pc = .ok (.lload_n i, 1)) (kk : GL X aM z (pc + 1) lv (.long x :: st) μ ν k n o) : GL X aM z pc lv (st) μ ν k n o := by
  intro h H locs ls hl hP hM hS
  exact lv_lload_n hX.1 hX.2.1 d hi (lv_at hl q hq) (kk h H locs ls hl hP hM hS)
theorem L_lload (hX : FL X aM b L xs) {j : Nat} {x : Int64} (q : Nat) (hq : lv[q]? = some (j, .long x)) (d : decode cL_law pc = .ok (.lload j, 2)) (kk : GL X aM z (pc + 2) lv (.long x :: st) μ ν k n o) : GL X aM z pc lv (st) μ ν k n o := by
  intro h H locs ls hl hP hM hS
  exact lv_lload hX.1 hX.2.1 d (lv_at hl q hq) (kk h H locs ls hl hP hM hS)
theorem L_aload_n (hX : FL X aM b L xs) {i : Fin 4} {j : Nat} {x : Nat} (q : Nat) (hi : (i : Nat) = j) (hq : lv[q]? = some (j, .ref x)) (d : decode cL_law pc = .ok (.aload_n i, 1)) (kk : GL X aM z (pc + 1) lv (.ref x :: st) μ ν k n o) : GL X aM z pc lv (st) μ ν k n o := by
  intro h H locs ls hl hP hM hS
  exact lv_aload_n hX.1 hX.2.1 d hi (lv_at hl q hq) (kk h H locs ls hl hP hM hS)
theorem L_aload (hX : FL X aM b L xs) {j : Nat} {x : Nat} (q : Nat) (hq : lv[q]? = some (j, .ref x)) (d : decode cL_law pc = .ok (.aload j, 2)) (kk : GL X aM z (pc + 2) lv (.ref x :: st) μ ν k n o) : GL X aM z pc lv (st) μ ν k n o := by
  intro h H locs ls hl hP hM hS
  exact lv_aload hX.1 hX.2.1 d (lv_at hl q hq) (kk h H locs ls hl hP hM hS)
theorem L_istore (hX : FL X aM b L xs) {j : Nat} {x : Int32} (lv' : List (Nat × Value)) (hn : j < 8) (hl9 : (j, Value.int x) :: lv.filter (fun q => !(q.1 == j) && !(q.1 + 1 == j && q.2.category == 2)) = lv') (d : decode cL_law pc = .ok (.istore j, 2)) (kk : GL X aM z (pc + 2) lv' st μ ν k n o) : GL X aM z pc lv (.int x :: st) μ ν k n o := by
  intro h H locs ls hl hP hM hS
  exact lv_istore hX.1 hX.2.1 d hl hn hl9 (fun ls' hl' => kk h H locs ls' hl' hP hM hS)
theorem L_lstore (hX : FL X aM b L xs) {j : Nat} {x : Int64} (lv' : List (Nat × Value)) (hn : j + 1 < 8) (hl9 : (j, Value.long x) :: lv.filter (fun q => !(q.1 == j) && (!(q.1 == j + 1) && !(q.1 + 1 == j && q.2.category == 2))) = lv') (d : decode cL_law pc = .ok (.lstore j, 2)) (kk : GL X aM z (pc + 2) lv' st μ ν k n o) : GL X aM z pc lv (.long x :: st) μ ν k n o := by
  intro h H locs ls hl hP hM hS
  exact lv_lstore hX.1 hX.2.1 d hl hn hl9 (fun ls' hl' => kk h H locs ls' hl' hP hM hS)
theorem L_iadd (hX : FL X aM b L xs) {x y : Int32} (d : decode cL_law pc = .ok (.iadd, 1)) (kk : GL X aM z (pc + 1) lv (.int (x + y) :: st) μ ν k n o) : GL X aM z pc lv (.int y :: .int x :: st) μ ν k n o := by
  intro h H locs ls hl hP hM hS
  exact lv_iadd hX.1 hX.2.1 d (kk h H locs ls hl hP hM hS)
theorem L_isub (hX : FL X aM b L xs) {x y : Int32} (d : decode cL_law pc = .ok (.isub, 1)) (kk : GL X aM z (pc + 1) lv (.int (x - y) :: st) μ ν k n o) : GL X aM z pc lv (.int y :: .int x :: st) μ ν k n o := by
  intro h H locs ls hl hP hM hS
  exact lv_isub hX.1 hX.2.1 d (kk h H locs ls hl hP hM hS)
theorem L_iand (hX : FL X aM b L xs) {x y : Int32} (d : decode cL_law pc = .ok (.iand, 1)) (kk : GL X aM z (pc + 1) lv (.int (x &&& y) :: st) μ ν k n o) : GL X aM z pc lv (.int y :: .int x :: st) μ ν k n o := by
  intro h H locs ls hl hP hM hS
  exact lv_iand hX.1 hX.2.1 d (kk h H locs ls hl hP hM hS)
theorem L_i2l (hX : FL X aM b L xs) {x : Int32} (d : decode cL_law pc = .ok (.i2l, 1)) (kk : GL X aM z (pc + 1) lv (.long x.toInt64 :: st) μ ν k n o) : GL X aM z pc lv (.int x :: st) μ ν k n o := by
  intro h H locs ls hl hP hM hS
  exact lv_i2l hX.1 hX.2.1 d rfl (kk h H locs ls hl hP hM hS)
theorem L_lcmp (hX : FL X aM b L xs) {x y : Int64} (d : decode cL_law pc = .ok (.lcmp, 1)) (kk : GL X aM z (pc + 1) lv (.int (lg_cmp x y) :: st) μ ν k n o) : GL X aM z pc lv (.long y :: .long x :: st) μ ν k n o := by
  intro h H locs ls hl hP hM hS
  exact W.lcmp hX.1 hX.2.1 d (kk h H locs ls hl hP hM hS)
theorem L_if_eq (hX : FL X aM b L xs) {x : Int32} {off : Int} {o1 o2 : Option (Mem × Mem)} (tgt : Nat) (ht : (pc : Int) + off = (tgt : Int)) (d : decode cL_law pc = .ok (.ifCond .eq off, 3)) (kt : GL X aM z tgt lv st μ ν k n o1) (kf : GL X aM z (pc + 3) lv st μ ν k n o2) : GL X aM z pc lv (.int x :: st) μ ν k n (if x = 0 then o1 else o2) := by
  intro h H locs ls hl hP hM hS
  exact lv_if_eq hX.1 hX.2.1 d ht (fun q => kt (by rw [if_pos q] at h; exact h) H locs ls hl hP hM hS) (fun q => kf (by rw [if_neg q] at h; exact h) H locs ls hl hP hM hS)
theorem L_icmp_eq (hX : FL X aM b L xs) {x y : Int32} {off : Int} {o1 o2 : Option (Mem × Mem)} (tgt : Nat) (ht : (pc : Int) + off = (tgt : Int)) (d : decode cL_law pc = .ok (.if_icmp .eq off, 3)) (kt : GL X aM z tgt lv st μ ν k n o1) (kf : GL X aM z (pc + 3) lv st μ ν k n o2) : GL X aM z pc lv (.int y :: .int x :: st) μ ν k n (if x = y then o1 else o2) := by
  intro h H locs ls hl hP hM hS
  exact lv_icmp_eq hX.1 hX.2.1 d ht (fun q => kt (by rw [if_pos q] at h; exact h) H locs ls hl hP hM hS) (fun q => kf (by rw [if_neg q] at h; exact h) H locs ls hl hP hM hS)
theorem L_if_ne (hX : FL X aM b L xs) {x : Int32} {off : Int} {o1 o2 : Option (Mem × Mem)} (tgt : Nat) (ht : (pc : Int) + off = (tgt : Int)) (d : decode cL_law pc = .ok (.ifCond .ne off, 3)) (kt : GL X aM z tgt lv st μ ν k n o1) (kf : GL X aM z (pc + 3) lv st μ ν k n o2) : GL X aM z pc lv (.int x :: st) μ ν k n (if x = 0 then o2 else o1) := by
  intro h H locs ls hl hP hM hS
  exact lv_if_ne hX.1 hX.2.1 d ht (fun q => kt (by rw [if_neg q] at h; exact h) H locs ls hl hP hM hS) (fun q => kf (by rw [if_pos q] at h; exact h) H locs ls hl hP hM hS)
theorem L_icmp_ne (hX : FL X aM b L xs) {x y : Int32} {off : Int} {o1 o2 : Option (Mem × Mem)} (tgt : Nat) (ht : (pc : Int) + off = (tgt : Int)) (d : decode cL_law pc = .ok (.if_icmp .ne off, 3)) (kt : GL X aM z tgt lv st μ ν k n o1) (kf : GL X aM z (pc + 3) lv st μ ν k n o2) : GL X aM z pc lv (.int y :: .int x :: st) μ ν k n (if x = y then o2 else o1) := by
  intro h H locs ls hl hP hM hS
  exact lv_icmp_ne hX.1 hX.2.1 d ht (fun q => kt (by rw [if_neg q] at h; exact h) H locs ls hl hP hM hS) (fun q => kf (by rw [if_pos q] at h; exact h) H locs ls hl hP hM hS)
theorem L_if_gt (hX : FL X aM b L xs) {x : Int32} {off : Int} {o1 o2 : Option (Mem × Mem)} (tgt : Nat) (ht : (pc : Int) + off = (tgt : Int)) (d : decode cL_law pc = .ok (.ifCond .gt off, 3)) (kt : GL X aM z tgt lv st μ ν k n o1) (kf : GL X aM z (pc + 3) lv st μ ν k n o2) : GL X aM z pc lv (.int x :: st) μ ν k n (if 0 < x then o1 else o2) := by
  intro h H locs ls hl hP hM hS
  exact lv_if_gt hX.1 hX.2.1 d ht (fun q => kt (by rw [if_pos q] at h; exact h) H locs ls hl hP hM hS) (fun q => kf (by rw [if_neg q] at h; exact h) H locs ls hl hP hM hS)
theorem L_icmp_gt (hX : FL X aM b L xs) {x y : Int32} {off : Int} {o1 o2 : Option (Mem × Mem)} (tgt : Nat) (ht : (pc : Int) + off = (tgt : Int)) (d : decode cL_law pc = .ok (.if_icmp .gt off, 3)) (kt : GL X aM z tgt lv st μ ν k n o1) (kf : GL X aM z (pc + 3) lv st μ ν k n o2) : GL X aM z pc lv (.int y :: .int x :: st) μ ν k n (if y < x then o1 else o2) := by
  intro h H locs ls hl hP hM hS
  exact lv_icmp_gt hX.1 hX.2.1 d ht (fun q => kt (by rw [if_pos q] at h; exact h) H locs ls hl hP hM hS) (fun q => kf (by rw [if_neg q] at h; exact h) H locs ls hl hP hM hS)
theorem L_goto (hX : FL X aM b L xs) {off : Int} (tgt : Nat) (ht : (pc : Int) + off = (tgt : Int)) (d : decode cL_law pc = .ok (.goto off, 3)) (kk : GL X aM z tgt lv st μ ν k n o) : GL X aM z pc lv st μ ν k n o := by
  intro h H locs ls hl hP hM hS
  exact lv_goto hX.1 hX.2.1 d ht (kk h H locs ls hl hP hM hS)
theorem L_none : GL X aM z pc lv st μ ν k n none := by
  intro h; cases h
theorem L_sw {c : Prop} [Decidable c] {o1 o2 : Option (Mem × Mem)} (k1 : c → GL X aM z pc lv st μ ν k n o1) (k2 : ¬ c → GL X aM z pc lv st μ ν k n o2) : GL X aM z pc lv st μ ν k n (if c then o1 else o2) := by
  by_cases hc : c
  · rw [if_pos hc]; exact k1 hc
  · rw [if_neg hc]; exact k2 hc
theorem L_swOut (hX : FL X aM b L xs) {x : Int32} {dflt lo hi : Int} {offs : Array Int} {len : Nat} (tgt : Nat) (ht : (pc : Int) + dflt = (tgt : Int)) (d : decode cL_law pc = .ok (.tableswitch dflt lo hi offs, len)) (hx : x.toInt < lo ∨ hi < x.toInt) (kk : GL X aM z tgt lv st μ ν k n o) : GL X aM z pc lv (.int x :: st) μ ν k n o := by
  intro h H locs ls hl hP hM hS
  exact lv_tableOut hX.1 hX.2.1 d hx ht (kk h H locs ls hl hP hM hS)
theorem L_swIn (hX : FL X aM b L xs) {x : Int32} {dflt lo hi off : Int} {offs : Array Int} {len : Nat} (tgt j : Nat) (v : Int) (hv : x.toInt = v) (h1 : ¬ v < lo) (h2 : ¬ hi < v) (hn : (v - lo).toNat = j) (ho : offs[j]? = some off) (ht : (pc : Int) + off = (tgt : Int)) (d : decode cL_law pc = .ok (.tableswitch dflt lo hi offs, len)) (kk : GL X aM z tgt lv st μ ν k n o) : GL X aM z pc lv (.int x :: st) μ ν k n o := by
  intro h H locs ls hl hP hM hS
  subst hv
  exact lv_tableIn hX.1 hX.2.1 d h1 h2 (by rw [hn]; exact ho) ht (kk h H locs ls hl hP hM hS)
theorem L_sub {lv' : List (Nat × Value)} (ks : List Nat) (hk : lv_pick lv ks = lv') (kk : GL X aM z pc lv' st μ ν k n o) : GL X aM z pc lv st μ ν k n o := by
  intro h H locs ls hl hP hM hS
  exact kk h H locs ls (lv_sub hl ks hk) hP hM hS
theorem L_slen (hX : FL X aM b L xs) (d : decode cL_law pc = .ok (.arraylength, 1)) (kk : GL X aM z (pc + 1) lv (.int (nI L) :: st) μ ν k n o) : GL X aM z pc lv (.ref b :: st) μ ν k n o := by
  intro h H locs ls hl hP hM hS
  have hbA : ¬ cx_A X b := by rw [hX.2.2.2.2.2.2.1]; exact Nat.not_le.mpr hX.2.2.2.2.2.2.2.2.2.2.2.1.2.1
  exact va_slen hX.1 hX.2.1 hX.2.2.2.2.2.2.2.2.2.2.2.1.1 hX.2.2.2.2.2.2.2.2.2.2.2.1.2.1 hbA hS d (kk h H locs ls hl hP hM hS)
/-- an int of the script, looked at before -/
def sG {α : Type} (L : Nat) (xs : Nat → Int32) (i : Int32) (k : Int32 → Option α) : Option α := if i < 0 ∨ L ≤ i.toNatClampNeg then none else k (xs i.toNatClampNeg)
theorem L_sld (hX : FL X aM b L xs) {i : Int32} {kf : Int32 → Option (Mem × Mem)} (d : decode cL_law pc = .ok (.iaload, 1)) (kk : ∀ x, GL X aM z (pc + 1) lv (.int x :: st) μ ν k n (kf x)) : GL X aM z pc lv (.int i :: .ref b :: st) μ ν k n (sG L xs i kf) := by
  intro h H locs ls hl hP hM hS
  unfold sG at h
  by_cases hi : i < 0 ∨ L ≤ i.toNatClampNeg
  · rw [if_pos hi] at h; cases h
  · rw [if_neg hi] at h
    have hbA : ¬ cx_A X b := by rw [hX.2.2.2.2.2.2.1]; exact Nat.not_le.mpr hX.2.2.2.2.2.2.2.2.2.2.2.1.2.1
    exact va_sld hX.1 hX.2.1 hX.2.2.2.2.2.2.2.2.2.2.2.1.1 hX.2.2.2.2.2.2.2.2.2.2.2.1.2.1 hbA hS hi d (kk _ h H locs ls hl hP hM hS)
theorem L_out (hX : FL X aM b L xs) {kf : Int64 → Option (Mem × Mem)} (d : decode cL_law pc = .ok (.laload, 1)) (kk : ∀ x, GL X aM z (pc + 1) lv (.long x :: st) μ ν k n (kf x)) : GL X aM z pc lv (.int 0 :: .ref (cx_ad X 90) :: st) μ ν k n (kf (μ.2.1 90 0)) := by
  intro h H locs ls hl hP hM hS
  exact va_lald hX.1 hX.2.1 hX.2.2.2.2.2.1 hP 90 1 (by rw [wld_at atC90.1, wcell_arrL atC90.2]) rfl (by unfold vp_in; decide) d (kk _ h H locs ls hl hP hM hS)
end
