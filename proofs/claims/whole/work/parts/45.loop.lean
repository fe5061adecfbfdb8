def R_law : String := "DutyCaseLaw"
def lw_P (b : Addr) (xs : List Int32) (args : Array Value) (s : State) : Prop := args = #[.ref b] ∧ s.IntsAt b xs ∧ xs.length ≤ 4096 ∧ (Jvm.Cond.and given_1 narrow_1).before args s = true
def lw_Q (_ : Array Value) (s : State) (o : Outcome) (t : State) : Prop := o = .returned (some (.int 1)) ∧ Framed s o t [] 601024 7293034
def lw_Z (below : List Frame) (a : Array Value) (s : State) : State → Prop := fun t => ∃ o, t.status = .running ∧ Ended t below o ∧ lw_Q a s o t
/-- the law's own end, with 1 on the stack, nothing written that was there before, its room as the claim has it -/
theorem lw_ret {p : Program} {l : Launch} {e : Env} {s : State} {m : MethodId} {below : List Frame} {meth : Method} {c : Code} {b : Nat} (hx : p.tables.exec = Jvm.exec) (hb : c.code = code) (hr : meth.sig.returnType = ret) (hlocks : meth.locks = false) {pc : Nat} {H : Heap} {ls : Array Slot} (hdg : decode code pc = .ok (.ireturn, 1)) : W p l e room_1 s m #[Value.ref b] below meth c H [] 601024 7293034 (lw_Z below #[Value.ref b] s) (F0 m pc ls [.int 1]) := by
  intro T hT X
  obtain ⟨fs, hret, hrun, hended, hW, hframe⟩ := X.leave (v := some (.int 1)) (hlocks := hlocks) (fun h => by rw [hr] at h; cases h)
  have hmeth' : T.vm.method? m = some meth := X.method'
  refine ⟨T.setFrames fs, ?_, .returned (some (.int 1)), hrun, hended, rfl, ⟨_, rfl⟩, hW, hframe⟩
  jvm_step X.here [X.here.top, hx, hb, hdg, hmeth', hr, ret, narrow_b1]
  (try refine ⟨rfl, ?_⟩); (try refine ⟨rfl, ?_⟩)
  first | (intro acts; rw [hret _ acts rfl rfl rfl]) | rw [hret _ _ rfl rfl rfl]
  exact Steps.refl _
/-- what holds at the law's entry: the machine, the code, the tables' words (any of lw_tbl by 'hts w (by decide +kernel)'), the script of L ints xs at the cell b, what the Statement gives of the start (any of its parts by flat_of_before) -/
def lw_At (p : Program) (s : State) (m : MethodId) (meth : Method) (c : Code) (b L : Nat) (xs : Nat → Int32) : Prop :=
  p.tables.exec = Jvm.exec ∧ c.code = code ∧ meth.sig.returnType = ret ∧ c.maxLocals = 8 ∧ s.vm.findClass R_law = some m.cls ∧ (∀ w ∈ lw_tbl, w.before #[Value.ref b] s = true) ∧ va_X b L xs s s.heap ∧ b < s.heap.size ∧ meth.locks = false ∧ (Jvm.Cond.and given_1 narrow_1).before #[Value.ref b] s = true
set_option maxHeartbeats 4000000 in
set_option maxRecDepth 100000 in
theorem walkStep {X : Ctx} {aM : Nat → Nat} {b L : Nat} {xs : Nat → Int32} {z : Mem × Mem} (hX : FL X aM b L xs) {i : Int32} {v : Nat → Int32} (hv : VI L xs i v) (N : Nat) (μ ν : Mem) {k n : Nat} (hk : k + 8 ≤ room_1.cells) (hn : n + 48 ≤ room_1.slots) (hC : CL X aM z [(0, .ref b), (1, .ref (cx_ad X 0)), (2, .ref (aM 0)), (3, .ref (cx_ad X 90)), (4, .int i)] (k + 8) (n + 48)) : GL X aM z 40 [(0, .ref b), (1, .ref (cx_ad X 0)), (2, .ref (aM 0)), (3, .ref (cx_ad X 90)), (4, .int i)] [.int (v 0 &&& 63)] μ ν k n (lawStep N v μ ν) := by
  unfold lawStep
  refine L_sw (fun h0 => ?_) (fun h0 => ?_)
  · refine L_swIn hX 216 0 0 (by rw [h0]; rfl) (by decide) (by decide) rfl rfl (by decide) dL_law_40 ?_
    exact walkC0 hX hv N μ ν hk hn hC
  refine L_sw (fun h1 => ?_) (fun h1 => ?_)
  · refine L_swIn hX 289 1 1 (by rw [h1]; rfl) (by decide) (by decide) rfl rfl (by decide) dL_law_40 ?_
    exact walkC1 hX hv N μ ν hk hn hC
  refine L_sw (fun h2 => ?_) (fun h2 => ?_)
  · refine L_swIn hX 314 2 2 (by rw [h2]; rfl) (by decide) (by decide) rfl rfl (by decide) dL_law_40 ?_
    exact walkC2 hX hv N μ ν hk hn hC
  refine L_sw (fun h3 => ?_) (fun h3 => ?_)
  · refine L_swIn hX 358 3 3 (by rw [h3]; rfl) (by decide) (by decide) rfl rfl (by decide) dL_law_40 ?_
    exact walkC3 hX hv N μ ν hk hn hC
  refine L_sw (fun h4 => ?_) (fun h4 => ?_)
  · refine L_swIn hX 371 4 4 (by rw [h4]; rfl) (by decide) (by decide) rfl rfl (by decide) dL_law_40 ?_
    exact walkC4 hX hv N μ ν hk hn hC
  refine L_sw (fun h5 => ?_) (fun h5 => ?_)
  · refine L_swIn hX 467 5 5 (by rw [h5]; rfl) (by decide) (by decide) rfl rfl (by decide) dL_law_40 ?_
    exact walkC5 hX hv N μ ν hk hn hC
  refine L_sw (fun h6 => ?_) (fun h6 => ?_)
  · refine L_swIn hX 535 6 6 (by rw [h6]; rfl) (by decide) (by decide) rfl rfl (by decide) dL_law_40 ?_
    exact walkC6 hX hv N μ ν hk hn hC
  refine L_sw (fun h7 => ?_) (fun h7 => ?_)
  · refine L_swIn hX 603 7 7 (by rw [h7]; rfl) (by decide) (by decide) rfl rfl (by decide) dL_law_40 ?_
    exact walkC7 hX hv N μ ν hk hn hC
  refine L_sw (fun h8 => ?_) (fun h8 => ?_)
  · refine L_swIn hX 671 8 8 (by rw [h8]; rfl) (by decide) (by decide) rfl rfl (by decide) dL_law_40 ?_
    exact walkC8 hX hv N μ ν hk hn hC
  refine L_sw (fun h9 => ?_) (fun h9 => ?_)
  · refine L_swIn hX 803 9 9 (by rw [h9]; rfl) (by decide) (by decide) rfl rfl (by decide) dL_law_40 ?_
    exact walkC9 hX hv N μ ν hk hn hC
  refine L_sw (fun h10 => ?_) (fun h10 => ?_)
  · refine L_swIn hX 839 10 10 (by rw [h10]; rfl) (by decide) (by decide) rfl rfl (by decide) dL_law_40 ?_
    exact walkC10 hX hv N μ ν hk hn hC
  refine L_sw (fun h11 => ?_) (fun h11 => ?_)
  · refine L_swIn hX 907 11 11 (by rw [h11]; rfl) (by decide) (by decide) rfl rfl (by decide) dL_law_40 ?_
    exact walkC11 hX hv N μ ν hk hn hC
  refine L_sw (fun h12 => ?_) (fun h12 => ?_)
  · refine L_swIn hX 987 12 12 (by rw [h12]; rfl) (by decide) (by decide) rfl rfl (by decide) dL_law_40 ?_
    exact walkC12 hX hv N μ ν hk hn hC
  refine L_sw (fun h13 => ?_) (fun h13 => ?_)
  · refine L_swIn hX 1055 13 13 (by rw [h13]; rfl) (by decide) (by decide) rfl rfl (by decide) dL_law_40 ?_
    exact walkC13 hX hv N μ ν hk hn hC
  refine L_sw (fun h14 => ?_) (fun h14 => ?_)
  · refine L_swIn hX 1146 14 14 (by rw [h14]; rfl) (by decide) (by decide) rfl rfl (by decide) dL_law_40 ?_
    exact walkC14 hX hv N μ ν hk hn hC
  refine L_sw (fun h15 => ?_) (fun h15 => ?_)
  · refine L_swIn hX 1159 15 15 (by rw [h15]; rfl) (by decide) (by decide) rfl rfl (by decide) dL_law_40 ?_
    exact walkC15 hX hv N μ ν hk hn hC
  refine L_sw (fun h16 => ?_) (fun h16 => ?_)
  · refine L_swIn hX 1215 16 16 (by rw [h16]; rfl) (by decide) (by decide) rfl rfl (by decide) dL_law_40 ?_
    exact walkC16 hX hv N μ ν hk hn hC
  refine L_sw (fun h17 => ?_) (fun h17 => ?_)
  · refine L_swIn hX 1295 17 17 (by rw [h17]; rfl) (by decide) (by decide) rfl rfl (by decide) dL_law_40 ?_
    exact walkC17 hX hv N μ ν hk hn hC
  refine L_sw (fun h18 => ?_) (fun h18 => ?_)
  · refine L_swIn hX 1386 18 18 (by rw [h18]; rfl) (by decide) (by decide) rfl rfl (by decide) dL_law_40 ?_
    exact walkC18 hX hv N μ ν hk hn hC
  refine L_sw (fun h19 => ?_) (fun h19 => ?_)
  · refine L_swIn hX 1478 19 19 (by rw [h19]; rfl) (by decide) (by decide) rfl rfl (by decide) dL_law_40 ?_
    exact walkC19 hX hv N μ ν hk hn hC
  refine L_sw (fun h20 => ?_) (fun h20 => ?_)
  · refine L_swIn hX 1534 20 20 (by rw [h20]; rfl) (by decide) (by decide) rfl rfl (by decide) dL_law_40 ?_
    exact walkC20 hX hv N μ ν hk hn hC
  refine L_sw (fun h21 => ?_) (fun h21 => ?_)
  · refine L_swIn hX 1601 21 21 (by rw [h21]; rfl) (by decide) (by decide) rfl rfl (by decide) dL_law_40 ?_
    exact walkC21 hX hv N μ ν hk hn hC
  refine L_sw (fun h22 => ?_) (fun h22 => ?_)
  · refine L_swIn hX 1657 22 22 (by rw [h22]; rfl) (by decide) (by decide) rfl rfl (by decide) dL_law_40 ?_
    exact walkC22 hX hv N μ ν hk hn hC
  refine L_sw (fun h23 => ?_) (fun h23 => ?_)
  · refine L_swIn hX 1736 23 23 (by rw [h23]; rfl) (by decide) (by decide) rfl rfl (by decide) dL_law_40 ?_
    exact walkC23 hX hv N μ ν hk hn hC
  refine L_sw (fun h24 => ?_) (fun h24 => ?_)
  · refine L_swIn hX 1831 24 24 (by rw [h24]; rfl) (by decide) (by decide) rfl rfl (by decide) dL_law_40 ?_
    exact walkC24 hX hv N μ ν hk hn hC
  refine L_sw (fun h25 => ?_) (fun h25 => ?_)
  · refine L_swIn hX 1886 25 25 (by rw [h25]; rfl) (by decide) (by decide) rfl rfl (by decide) dL_law_40 ?_
    exact walkC25 hX hv N μ ν hk hn hC
  refine L_sw (fun h26 => ?_) (fun h26 => ?_)
  · refine L_swIn hX 1982 26 26 (by rw [h26]; rfl) (by decide) (by decide) rfl rfl (by decide) dL_law_40 ?_
    exact walkC26 hX hv N μ ν hk hn hC
  refine L_sw (fun h27 => ?_) (fun h27 => ?_)
  · refine L_swIn hX 2045 27 27 (by rw [h27]; rfl) (by decide) (by decide) rfl rfl (by decide) dL_law_40 ?_
    exact walkC27 hX hv N μ ν hk hn hC
  refine L_sw (fun h28 => ?_) (fun h28 => ?_)
  · refine L_swIn hX 2113 28 28 (by rw [h28]; rfl) (by decide) (by decide) rfl rfl (by decide) dL_law_40 ?_
    exact walkC28 hX hv N μ ν hk hn hC
  refine L_sw (fun h29 => ?_) (fun h29 => ?_)
  · refine L_swIn hX 2126 29 29 (by rw [h29]; rfl) (by decide) (by decide) rfl rfl (by decide) dL_law_40 ?_
    exact walkC29 hX hv N μ ν hk hn hC
  refine L_sw (fun h30 => ?_) (fun h30 => ?_)
  · refine L_swIn hX 2194 30 30 (by rw [h30]; rfl) (by decide) (by decide) rfl rfl (by decide) dL_law_40 ?_
    exact walkC30 hX hv N μ ν hk hn hC
  refine L_sw (fun h31 => ?_) (fun h31 => ?_)
  · refine L_swIn hX 2250 31 31 (by rw [h31]; rfl) (by decide) (by decide) rfl rfl (by decide) dL_law_40 ?_
    exact walkC31 hX hv N μ ν hk hn hC
  refine L_sw (fun h32 => ?_) (fun h32 => ?_)
  · refine L_swIn hX 2306 32 32 (by rw [h32]; rfl) (by decide) (by decide) rfl rfl (by decide) dL_law_40 ?_
    exact walkC32 hX hv N μ ν hk hn hC
  refine L_sw (fun h33 => ?_) (fun h33 => ?_)
  · refine L_swIn hX 2389 33 33 (by rw [h33]; rfl) (by decide) (by decide) rfl rfl (by decide) dL_law_40 ?_
    exact walkC33 hX hv N μ ν hk hn hC
  refine L_sw (fun h34 => ?_) (fun h34 => ?_)
  · refine L_swIn hX 2444 34 34 (by rw [h34]; rfl) (by decide) (by decide) rfl rfl (by decide) dL_law_40 ?_
    exact walkC34 hX hv N μ ν hk hn hC
  refine L_sw (fun h35 => ?_) (fun h35 => ?_)
  · refine L_swIn hX 2500 35 35 (by rw [h35]; rfl) (by decide) (by decide) rfl rfl (by decide) dL_law_40 ?_
    exact walkC35 hX hv N μ ν hk hn hC
  refine L_sw (fun h36 => ?_) (fun h36 => ?_)
  · refine L_swIn hX 2584 36 36 (by rw [h36]; rfl) (by decide) (by decide) rfl rfl (by decide) dL_law_40 ?_
    exact walkC36 hX hv N μ ν hk hn hC
  refine L_sw (fun h37 => ?_) (fun h37 => ?_)
  · refine L_swIn hX 2609 37 37 (by rw [h37]; rfl) (by decide) (by decide) rfl rfl (by decide) dL_law_40 ?_
    exact walkC37 hX hv N μ ν hk hn hC
  refine L_sw (fun h38 => ?_) (fun h38 => ?_)
  · refine L_swIn hX 2665 38 38 (by rw [h38]; rfl) (by decide) (by decide) rfl rfl (by decide) dL_law_40 ?_
    exact walkC38 hX hv N μ ν hk hn hC
  refine L_sw (fun h39 => ?_) (fun h39 => ?_)
  · refine L_swIn hX 2690 39 39 (by rw [h39]; rfl) (by decide) (by decide) rfl rfl (by decide) dL_law_40 ?_
    exact walkC39 hX hv N μ ν hk hn hC
  refine L_swOut hX 2715 (by decide) dL_law_40 (by have e0 := lv_neT (a := (0 : Int)) h0 rfl; have e1 := lv_neT (a := (1 : Int)) h1 rfl; have e2 := lv_neT (a := (2 : Int)) h2 rfl; have e3 := lv_neT (a := (3 : Int)) h3 rfl; have e4 := lv_neT (a := (4 : Int)) h4 rfl; have e5 := lv_neT (a := (5 : Int)) h5 rfl; have e6 := lv_neT (a := (6 : Int)) h6 rfl; have e7 := lv_neT (a := (7 : Int)) h7 rfl; have e8 := lv_neT (a := (8 : Int)) h8 rfl; have e9 := lv_neT (a := (9 : Int)) h9 rfl; have e10 := lv_neT (a := (10 : Int)) h10 rfl; have e11 := lv_neT (a := (11 : Int)) h11 rfl; have e12 := lv_neT (a := (12 : Int)) h12 rfl; have e13 := lv_neT (a := (13 : Int)) h13 rfl; have e14 := lv_neT (a := (14 : Int)) h14 rfl; have e15 := lv_neT (a := (15 : Int)) h15 rfl; have e16 := lv_neT (a := (16 : Int)) h16 rfl; have e17 := lv_neT (a := (17 : Int)) h17 rfl; have e18 := lv_neT (a := (18 : Int)) h18 rfl; have e19 := lv_neT (a := (19 : Int)) h19 rfl; have e20 := lv_neT (a := (20 : Int)) h20 rfl; have e21 := lv_neT (a := (21 : Int)) h21 rfl; have e22 := lv_neT (a := (22 : Int)) h22 rfl; have e23 := lv_neT (a := (23 : Int)) h23 rfl; have e24 := lv_neT (a := (24 : Int)) h24 rfl; have e25 := lv_neT (a := (25 : Int)) h25 rfl; have e26 := lv_neT (a := (26 : Int)) h26 rfl; have e27 := lv_neT (a := (27 : Int)) h27 rfl; have e28 := lv_neT (a := (28 : Int)) h28 rfl; have e29 := lv_neT (a := (29 : Int)) h29 rfl; have e30 := lv_neT (a := (30 : Int)) h30 rfl; have e31 := lv_neT (a := (31 : Int)) h31 rfl; have e32 := lv_neT (a := (32 : Int)) h32 rfl; have e33 := lv_neT (a := (33 : Int)) h33 rfl; have e34 := lv_neT (a := (34 : Int)) h34 rfl; have e35 := lv_neT (a := (35 : Int)) h35 rfl; have e36 := lv_neT (a := (36 : Int)) h36 rfl; have e37 := lv_neT (a := (37 : Int)) h37 rfl; have e38 := lv_neT (a := (38 : Int)) h38 rfl; have e39 := lv_neT (a := (39 : Int)) h39 rfl; omega) ?_
  exact L_end hC [0, 1, 2, 3, 4] rfl ⟨by omega, by omega⟩
theorem nI_sub8 {L n : Nat} (hL : L ≤ 4096) (hn : n ≤ 8192) : (nI L - 8 < nI n) ↔ L < n + 8 := by
  have e1 : (nI L).toInt = (L : Int) := nI_toInt (by omega)
  have e2 : (nI n).toInt = (n : Int) := nI_toInt (by omega)
  have e3 : (nI L - 8).toInt = (L : Int) - 8 := by
    rw [Int32.toInt_sub, e1]
    show ((L : Int) - 8).bmod (2 ^ 32) = _
    rw [Int.bmod_eq_of_le (by omega) (by omega)]
  rw [Int32.lt_iff_toInt_lt, e2, e3]
  omega
set_option maxHeartbeats 4000000 in
theorem law_loop {X : Ctx} {aM : Nat → Nat} {b L : Nat} {xs : Nat → Int32} (hX : FL X aM b L xs)
    (hend : ∀ (H : Heap) (locs : List Loc) (ls : Array Slot) (k n : Nat), k ≤ 601024 → n ≤ 7293034 → va_S (cx_A X) (cx_s X).heap H locs → W (cx_p X) (cx_l X) (cx_e X) (cx_R X) (cx_s X) (cx_m X) (cx_args X) (cx_below X) (cx_meth X) (cx_c X) H locs k n (cx_Q X) (F0 (cx_m X) 2721 ls []))
    {Rl : Mem → Mem → Prop} {N : Nat} (hstep : ∀ (v : Nat → Int32) (μ ν : Mem), Rl μ ν → ∃ z, lawStep N v μ ν = some z ∧ Rl z.1 z.2) :
    ∀ (d j : Nat) (μ ν : Mem) (k n : Nat) (H : Heap) (locs : List Loc) (ls : Array Slot), L + 8 ≤ 8 * j + 8 * d → j ≤ 513 → Rl μ ν → k ≤ 200 + 8 * j → n ≤ 20000 + 48 * j →
      lv_has ls 8 [(0, .ref b), (1, .ref (cx_ad X 0)), (2, .ref (aM 0)), (3, .ref (cx_ad X 90)), (4, .int (nI (8 * j)))] →
      va_P (cx_D X) vwCl (wld wC (cx_cA X) (cx_ad X) μ) H → va_P (cx_D X) vwCl (wld wM (cx_cA X) aM ν) H → va_S (cx_A X) (cx_s X).heap H locs →
      W (cx_p X) (cx_l X) (cx_e X) (cx_R X) (cx_s X) (cx_m X) (cx_args X) (cx_below X) (cx_meth X) (cx_c X) H locs k n (cx_Q X) (F0 (cx_m X) 23 ls []) := by
  have hbA : ¬ cx_A X b := by rw [hX.2.2.2.2.2.2.1]; exact Nat.not_le.mpr hX.2.2.2.2.2.2.2.2.2.2.2.1.2.1
  have hL := hX.2.2.2.2.2.2.2.2.2.2.2.1.2.2
  have hsX := hX.2.2.2.2.2.2.2.2.2.2.2.1.1
  have hbl := hX.2.2.2.2.2.2.2.2.2.2.2.1.2.1
  intro d
  induction d with
  | zero =>
    intro j μ ν k n H locs ls h1 h2 hr hk hn hl hP hM hS
    refine lv_iload hX.1 hX.2.1 dL_law_23 (lv_at hl 4 rfl) ?_
    refine lv_aload_n hX.1 hX.2.1 dL_law_25 rfl (lv_at hl 0 rfl) ?_
    refine va_slen hX.1 hX.2.1 hsX hbl hbA hS dL_law_26 ?_
    refine lv_bipush (v := 8) hX.1 hX.2.1 dL_law_27 (by decide) ?_
    refine lv_isub hX.1 hX.2.1 dL_law_29 ?_
    refine lv_icmp_gt (tgt := 2721) hX.1 hX.2.1 dL_law_30 (by decide) (fun q => ?_) (fun q => ?_)
    · exact hend H locs ls k n (by omega) (by omega) hS
    · exact absurd ((nI_sub8 hL (by omega)).mpr (by omega)) q
  | succ d ih =>
    intro j μ ν k n H locs ls h1 h2 hr hk hn hl hP hM hS
    refine lv_iload hX.1 hX.2.1 dL_law_23 (lv_at hl 4 rfl) ?_
    refine lv_aload_n hX.1 hX.2.1 dL_law_25 rfl (lv_at hl 0 rfl) ?_
    refine va_slen hX.1 hX.2.1 hsX hbl hbA hS dL_law_26 ?_
    refine lv_bipush (v := 8) hX.1 hX.2.1 dL_law_27 (by decide) ?_
    refine lv_isub hX.1 hX.2.1 dL_law_29 ?_
    refine lv_icmp_gt (tgt := 2721) hX.1 hX.2.1 dL_law_30 (by decide) (fun q => ?_) (fun q => ?_)
    · exact hend H locs ls k n (by omega) (by omega) hS
    · have hlt : 8 * j + 8 ≤ L := by
        rcases Nat.lt_or_ge L (8 * j + 8) with h | h
        · exact absurd ((nI_sub8 hL (by omega)).mpr h) q
        · exact h
      have hin : ∀ c, c < 8 → ¬ (nI (8 * j) + nI c < 0 ∨ L ≤ (nI (8 * j) + nI c).toNatClampNeg) ∧ xs (nI (8 * j) + nI c).toNatClampNeg = (fun c => xs (8 * j + c)) c := fun c hc => by
        rw [nI_add]
        exact ⟨nI_in (by omega) (by omega), by rw [nI_clamp (by omega)]⟩
      have hv : VI L xs (nI (8 * j)) (fun c => xs (8 * j + c)) := hin
      have h0 : nI (8 * j) + nI 0 = nI (8 * j) := nI_add _ _
      have hi0 := hin 0 (by omega)
      rw [h0] at hi0
      refine lv_aload_n hX.1 hX.2.1 dL_law_33 rfl (lv_at hl 0 rfl) ?_
      refine lv_iload hX.1 hX.2.1 dL_law_34 (lv_at hl 4 rfl) ?_
      refine va_sld hX.1 hX.2.1 hsX hbl hbA hS hi0.1 dL_law_36 ?_
      rw [hi0.2]
      refine lv_bipush (v := 63) hX.1 hX.2.1 dL_law_37 (by decide) ?_
      refine lv_iand hX.1 hX.2.1 dL_law_39 ?_
      obtain ⟨z, hz, hR2⟩ := hstep (fun c => xs (8 * j + c)) μ ν hr
      refine walkStep (z := z) hX hv N μ ν (k := k) (n := n) (by show k + 8 ≤ 601024; omega) (by show n + 48 ≤ 7293034; omega) ?_ hz H locs ls hl hP hM hS
      intro k' n' H locs ls hk' hn' hl hP hM hS
      refine lv_iinc (v := nI (8 * (j + 1))) (lv' := [(4, .int (nI (8 * (j + 1)))), (0, .ref b), (1, .ref (cx_ad X 0)), (2, .ref (aM 0)), (3, .ref (cx_ad X 90))]) hX.1 hX.2.1 dL_law_2715 hl (k := 4) rfl (by
        show nI (8 * j) + nI 8 = nI (8 * (j + 1))
        rw [nI_add]; rfl) (by decide) rfl (fun ls hl => ?_)
      refine lv_goto (tgt := 23) hX.1 hX.2.1 dL_law_2718 (by decide) ?_
      exact ih (j + 1) z.1 z.2 k' n' H locs ls (by omega) (by omega) hR2 (by omega) (by omega) (lv_sub hl [1, 2, 3, 4, 0] rfl) hP hM hS
