theorem tl_1 {w : Cond} (h : w ∈ tables_1_1) : w ∈ lw_tbl := List.mem_append_right _ (List.mem_append_left _ h)
theorem tl_2 {w : Cond} (h : w ∈ tables_1_2) : w ∈ lw_tbl := List.mem_append_right _ (List.mem_append_right _ (List.mem_append_left _ h))
theorem tl_3 {w : Cond} (h : w ∈ tables_1_3) : w ∈ lw_tbl := List.mem_append_right _ (List.mem_append_right _ (List.mem_append_right _ (List.mem_append_left _ h)))
theorem tl_4 {w : Cond} (h : w ∈ tables_1_4) : w ∈ lw_tbl := List.mem_append_right _ (List.mem_append_right _ (List.mem_append_right _ (List.mem_append_right _ (List.mem_append_left _ h))))
theorem tl_5 {w : Cond} (h : w ∈ tables_1_5) : w ∈ lw_tbl := List.mem_append_right _ (List.mem_append_right _ (List.mem_append_right _ (List.mem_append_right _ (List.mem_append_right _ (List.mem_append_left _ h)))))
theorem tl_6 {w : Cond} (h : w ∈ tables_1_6) : w ∈ lw_tbl := List.mem_append_right _ (List.mem_append_right _ (List.mem_append_right _ (List.mem_append_right _ (List.mem_append_right _ (List.mem_append_right _ (List.mem_append_left _ h))))))
theorem tl_7 {w : Cond} (h : w ∈ tables_1_7) : w ∈ lw_tbl := List.mem_append_right _ (List.mem_append_right _ (List.mem_append_right _ (List.mem_append_right _ (List.mem_append_right _ (List.mem_append_right _ (List.mem_append_right _ (List.mem_append_left _ h)))))))
theorem tl_8 {w : Cond} (h : w ∈ tables_1_8) : w ∈ lw_tbl := List.mem_append_right _ (List.mem_append_right _ (List.mem_append_right _ (List.mem_append_right _ (List.mem_append_right _ (List.mem_append_right _ (List.mem_append_right _ (List.mem_append_right _ (List.mem_append_left _ h))))))))
theorem tl_9 {w : Cond} (h : w ∈ tables_1_9) : w ∈ lw_tbl := List.mem_append_right _ (List.mem_append_right _ (List.mem_append_right _ (List.mem_append_right _ (List.mem_append_right _ (List.mem_append_right _ (List.mem_append_right _ (List.mem_append_right _ (List.mem_append_right _ h))))))))
def rfD (n : Nat) : String × Nat × String × Nat := refS.getD n ("", 0, "", 0)
def tmS (n : Nat) : Term := .string (rfD n).1 (rfD n).2.1
def fsS (i : Nat) : Nat := if i < 30 then i else i + 11
def strB (n : Nat) : List Cond :=
  [.exactly (tmS n) "java/lang/String", .eq (.field (tmS n) "java/lang/String" "coder" "B") (.int 0), .arrayOf (.field (tmS n) "java/lang/String" "value" "[B") .byte, .eq (.length (.field (tmS n) "java/lang/String" "value" "[B")) (.int (Int32.ofNat (lenS.getD (rfD n).2.2.2 0)))] ++
  (List.range (lenS.getD (rfD n).2.2.2 0)).map (fun j => .eq (.elem (.field (tmS n) "java/lang/String" "value" "[B") (.int (Int32.ofNat j))) (.int ((bytS.getD (rfD n).2.2.2 []).getD j 0)))
def strE (n : Nat) : List Cond := strB n ++ (if n ≠ fsS (rfD n).2.2.2 then [.eq (tmS (fsS (rfD n).2.2.2)) (tmS n)] else [])
def exL : List Cond := (List.range 48).flatMap strE
set_option maxRecDepth 100000 in
set_option maxHeartbeats 4000000 in
theorem flat_exL : (flatC (Jvm.Cond.and given_1 narrow_1)).drop 71 = exL := by decide +kernel
theorem exL_in {n : Nat} (hn : n < 48) {c : Cond} (h : c ∈ strE n) : c ∈ flatC (Jvm.Cond.and given_1 narrow_1) := by
  have h1 : c ∈ exL := List.mem_flatMap.mpr ⟨n, List.mem_range.mpr hn, h⟩
  rw [← flat_exL] at h1
  exact List.mem_of_mem_drop h1
theorem fsS_ok : ∀ i, i < 35 → (rfD (fsS i)).2.2.2 = i ∧ fsS i < 48 := by decide +kernel
theorem rfD_ok : ∀ n, n < 48 → (rfD n).2.2.2 < 35 := by decide +kernel
theorem lenS_ok : ∀ i, i < 35 → lenS.getD i 0 < 2 ^ 31 := by decide +kernel
theorem sk_Sof {args : Array Value} {s : State} {A : Nat → Prop} (hs : ∀ c ∈ flatC (Jvm.Cond.and given_1 narrow_1), c.before args s = true) (hA : ∀ a : Nat, a < s.heap.size → ¬ A a) :
    ∃ adK adV : Nat → Nat, sk_S adK adV A s s.heap ∧ ∀ n : Nat, n < 48 → (tmS n).eval args s none [] s = some (.ref (adK (rfD n).2.2.2)) := by
  have h0 : ∀ i : Nat, ∃ q : Nat × Nat, i < nS → (tmS (fsS i)).eval args s none [] s = some (.ref q.1) ∧ va_O "java/lang/String" q.1 A s s.heap ∧ va_OF "java/lang/String" "coder" "B" (.int 0) q.1 A s s.heap ∧ va_OF "java/lang/String" "value" "[B" (.ref q.2) q.1 A s s.heap ∧ va_T .byte q.2 (lenS.getD i 0) (fun j => .int ((bytS.getD i []).getD j 0)) A s s.heap := by
    intro i
    by_cases hi : i < nS
    · obtain ⟨e1, e2⟩ := fsS_ok i hi
      have hin : ∀ c, c ∈ strB (fsS i) → c.before args s = true := fun c hc => hs c (exL_in e2 (List.mem_append_left _ hc))
      have hex := hin (.exactly (tmS (fsS i)) "java/lang/String") (List.mem_append_left _ (by simp))
      have hco := hin (.eq (.field (tmS (fsS i)) "java/lang/String" "coder" "B") (.int 0)) (List.mem_append_left _ (by simp))
      have har := hin (.arrayOf (.field (tmS (fsS i)) "java/lang/String" "value" "[B") .byte) (List.mem_append_left _ (by simp))
      have hle := hin (.eq (.length (.field (tmS (fsS i)) "java/lang/String" "value" "[B")) (.int (Int32.ofNat (lenS.getD (rfD (fsS i)).2.2.2 0)))) (List.mem_append_left _ (by simp))
      have hel : ∀ j, j < lenS.getD i 0 → (Cond.eq (.elem (.field (tmS (fsS i)) "java/lang/String" "value" "[B") (.int (Int32.ofNat j))) (.int ((bytS.getD i []).getD j 0))).before args s = true := fun j hj =>
        hin _ (List.mem_append_right _ (by rw [e1]; exact List.mem_map.mpr ⟨j, List.mem_range.mpr hj, rfl⟩))
      rw [e1] at hle
      obtain ⟨a, c, cA, kA, q1, q2, q3, q4, q5, q6, -⟩ := Cond.exactly_spec (args := args) (first := s) (o := none) (s := s) (idx := []) (t := tmS (fsS i)) (cls := "java/lang/String") hex
      obtain ⟨t, ht, hT⟩ := va_Tof (f := fun j => .int ((bytS.getD i []).getD j 0)) (A := A) (lenS_ok i hi) har (va_eqt hle) (fun j hj => va_eqt (hel j hj)) hA
      exact ⟨(a, t), fun _ => ⟨q1, ⟨cA, q3, q5, by rw [q6]; exact q2, hA a (Array.getElem?_eq_some_iff.mp q3).1⟩, vk_OFof q1 (va_eqt hco) hA, vk_OFof q1 ht hA, hT⟩⟩
    · exact ⟨(0, 0), fun h => absurd h hi⟩
  obtain ⟨ad, had⟩ := Classical.axiomOfChoice h0
  refine ⟨fun i => (ad i).1, fun i => (ad i).2, fun i hi => (had i hi).2, fun n hn => ?_⟩
  have hi := rfD_ok n hn
  by_cases hq : n = fsS (rfD n).2.2.2
  · have := (had _ hi).1
    rw [← hq] at this
    exact this
  · exact va_eqR (hs _ (exL_in hn (List.mem_append_right _ (by rw [if_pos hq]; exact List.mem_singleton.mpr rfl)))) (had _ hi).1
set_option maxRecDepth 100000 in
theorem srS_0 : Cond.stringRef (rfD 0).1 (rfD 0).2.1 (rfD 0).2.2.1 ∈ lw_tbl := tl_4 (List.mem_of_getElem? (i := 25) rfl)
set_option maxRecDepth 100000 in
theorem srS_1 : Cond.stringRef (rfD 1).1 (rfD 1).2.1 (rfD 1).2.2.1 ∈ lw_tbl := tl_4 (List.mem_of_getElem? (i := 78) rfl)
set_option maxRecDepth 100000 in
theorem srS_2 : Cond.stringRef (rfD 2).1 (rfD 2).2.1 (rfD 2).2.2.1 ∈ lw_tbl := tl_4 (List.mem_of_getElem? (i := 79) rfl)
set_option maxRecDepth 100000 in
theorem srS_3 : Cond.stringRef (rfD 3).1 (rfD 3).2.1 (rfD 3).2.2.1 ∈ lw_tbl := tl_4 (List.mem_of_getElem? (i := 80) rfl)
set_option maxRecDepth 100000 in
theorem srS_4 : Cond.stringRef (rfD 4).1 (rfD 4).2.1 (rfD 4).2.2.1 ∈ lw_tbl := tl_4 (List.mem_of_getElem? (i := 81) rfl)
set_option maxRecDepth 100000 in
theorem srS_5 : Cond.stringRef (rfD 5).1 (rfD 5).2.1 (rfD 5).2.2.1 ∈ lw_tbl := tl_4 (List.mem_of_getElem? (i := 82) rfl)
set_option maxRecDepth 100000 in
theorem srS_6 : Cond.stringRef (rfD 6).1 (rfD 6).2.1 (rfD 6).2.2.1 ∈ lw_tbl := tl_4 (List.mem_of_getElem? (i := 83) rfl)
set_option maxRecDepth 100000 in
theorem srS_7 : Cond.stringRef (rfD 7).1 (rfD 7).2.1 (rfD 7).2.2.1 ∈ lw_tbl := tl_4 (List.mem_of_getElem? (i := 84) rfl)
set_option maxRecDepth 100000 in
theorem srS_8 : Cond.stringRef (rfD 8).1 (rfD 8).2.1 (rfD 8).2.2.1 ∈ lw_tbl := tl_4 (List.mem_of_getElem? (i := 85) rfl)
set_option maxRecDepth 100000 in
theorem srS_9 : Cond.stringRef (rfD 9).1 (rfD 9).2.1 (rfD 9).2.2.1 ∈ lw_tbl := tl_4 (List.mem_of_getElem? (i := 86) rfl)
set_option maxRecDepth 100000 in
theorem srS_10 : Cond.stringRef (rfD 10).1 (rfD 10).2.1 (rfD 10).2.2.1 ∈ lw_tbl := tl_4 (List.mem_of_getElem? (i := 87) rfl)
set_option maxRecDepth 100000 in
theorem srS_11 : Cond.stringRef (rfD 11).1 (rfD 11).2.1 (rfD 11).2.2.1 ∈ lw_tbl := tl_4 (List.mem_of_getElem? (i := 230) rfl)
set_option maxRecDepth 100000 in
theorem srS_12 : Cond.stringRef (rfD 12).1 (rfD 12).2.1 (rfD 12).2.2.1 ∈ lw_tbl := tl_5 (List.mem_of_getElem? (i := 37) rfl)
set_option maxRecDepth 100000 in
theorem srS_13 : Cond.stringRef (rfD 13).1 (rfD 13).2.1 (rfD 13).2.2.1 ∈ lw_tbl := tl_5 (List.mem_of_getElem? (i := 52) rfl)
set_option maxRecDepth 100000 in
theorem srS_14 : Cond.stringRef (rfD 14).1 (rfD 14).2.1 (rfD 14).2.2.1 ∈ lw_tbl := tl_5 (List.mem_of_getElem? (i := 70) rfl)
set_option maxRecDepth 100000 in
theorem srS_15 : Cond.stringRef (rfD 15).1 (rfD 15).2.1 (rfD 15).2.2.1 ∈ lw_tbl := tl_5 (List.mem_of_getElem? (i := 96) rfl)
set_option maxRecDepth 100000 in
theorem srS_16 : Cond.stringRef (rfD 16).1 (rfD 16).2.1 (rfD 16).2.2.1 ∈ lw_tbl := tl_5 (List.mem_of_getElem? (i := 98) rfl)
set_option maxRecDepth 100000 in
theorem srS_17 : Cond.stringRef (rfD 17).1 (rfD 17).2.1 (rfD 17).2.2.1 ∈ lw_tbl := tl_5 (List.mem_of_getElem? (i := 110) rfl)
set_option maxRecDepth 100000 in
theorem srS_18 : Cond.stringRef (rfD 18).1 (rfD 18).2.1 (rfD 18).2.2.1 ∈ lw_tbl := tl_5 (List.mem_of_getElem? (i := 120) rfl)
set_option maxRecDepth 100000 in
theorem srS_19 : Cond.stringRef (rfD 19).1 (rfD 19).2.1 (rfD 19).2.2.1 ∈ lw_tbl := tl_5 (List.mem_of_getElem? (i := 164) rfl)
set_option maxRecDepth 100000 in
theorem srS_20 : Cond.stringRef (rfD 20).1 (rfD 20).2.1 (rfD 20).2.2.1 ∈ lw_tbl := tl_5 (List.mem_of_getElem? (i := 190) rfl)
set_option maxRecDepth 100000 in
theorem srS_21 : Cond.stringRef (rfD 21).1 (rfD 21).2.1 (rfD 21).2.2.1 ∈ lw_tbl := tl_5 (List.mem_of_getElem? (i := 208) rfl)
set_option maxRecDepth 100000 in
theorem srS_22 : Cond.stringRef (rfD 22).1 (rfD 22).2.1 (rfD 22).2.2.1 ∈ lw_tbl := tl_5 (List.mem_of_getElem? (i := 220) rfl)
set_option maxRecDepth 100000 in
theorem srS_23 : Cond.stringRef (rfD 23).1 (rfD 23).2.1 (rfD 23).2.2.1 ∈ lw_tbl := tl_6 (List.mem_of_getElem? (i := 8) rfl)
set_option maxRecDepth 100000 in
theorem srS_24 : Cond.stringRef (rfD 24).1 (rfD 24).2.1 (rfD 24).2.2.1 ∈ lw_tbl := tl_6 (List.mem_of_getElem? (i := 11) rfl)
set_option maxRecDepth 100000 in
theorem srS_25 : Cond.stringRef (rfD 25).1 (rfD 25).2.1 (rfD 25).2.2.1 ∈ lw_tbl := tl_6 (List.mem_of_getElem? (i := 58) rfl)
set_option maxRecDepth 100000 in
theorem srS_26 : Cond.stringRef (rfD 26).1 (rfD 26).2.1 (rfD 26).2.2.1 ∈ lw_tbl := tl_6 (List.mem_of_getElem? (i := 66) rfl)
set_option maxRecDepth 100000 in
theorem srS_27 : Cond.stringRef (rfD 27).1 (rfD 27).2.1 (rfD 27).2.2.1 ∈ lw_tbl := tl_6 (List.mem_of_getElem? (i := 76) rfl)
set_option maxRecDepth 100000 in
theorem srS_28 : Cond.stringRef (rfD 28).1 (rfD 28).2.1 (rfD 28).2.2.1 ∈ lw_tbl := tl_6 (List.mem_of_getElem? (i := 159) rfl)
set_option maxRecDepth 100000 in
theorem srS_29 : Cond.stringRef (rfD 29).1 (rfD 29).2.1 (rfD 29).2.2.1 ∈ lw_tbl := tl_6 (List.mem_of_getElem? (i := 166) rfl)
set_option maxRecDepth 100000 in
theorem srS_30 : Cond.stringRef (rfD 30).1 (rfD 30).2.1 (rfD 30).2.2.1 ∈ lw_tbl := tl_7 (List.mem_of_getElem? (i := 106) rfl)
set_option maxRecDepth 100000 in
theorem srS_31 : Cond.stringRef (rfD 31).1 (rfD 31).2.1 (rfD 31).2.2.1 ∈ lw_tbl := tl_7 (List.mem_of_getElem? (i := 144) rfl)
set_option maxRecDepth 100000 in
theorem srS_32 : Cond.stringRef (rfD 32).1 (rfD 32).2.1 (rfD 32).2.2.1 ∈ lw_tbl := tl_7 (List.mem_of_getElem? (i := 145) rfl)
set_option maxRecDepth 100000 in
theorem srS_33 : Cond.stringRef (rfD 33).1 (rfD 33).2.1 (rfD 33).2.2.1 ∈ lw_tbl := tl_7 (List.mem_of_getElem? (i := 146) rfl)
set_option maxRecDepth 100000 in
theorem srS_34 : Cond.stringRef (rfD 34).1 (rfD 34).2.1 (rfD 34).2.2.1 ∈ lw_tbl := tl_7 (List.mem_of_getElem? (i := 147) rfl)
set_option maxRecDepth 100000 in
theorem srS_35 : Cond.stringRef (rfD 35).1 (rfD 35).2.1 (rfD 35).2.2.1 ∈ lw_tbl := tl_7 (List.mem_of_getElem? (i := 148) rfl)
set_option maxRecDepth 100000 in
theorem srS_36 : Cond.stringRef (rfD 36).1 (rfD 36).2.1 (rfD 36).2.2.1 ∈ lw_tbl := tl_7 (List.mem_of_getElem? (i := 149) rfl)
set_option maxRecDepth 100000 in
theorem srS_37 : Cond.stringRef (rfD 37).1 (rfD 37).2.1 (rfD 37).2.2.1 ∈ lw_tbl := tl_7 (List.mem_of_getElem? (i := 150) rfl)
set_option maxRecDepth 100000 in
theorem srS_38 : Cond.stringRef (rfD 38).1 (rfD 38).2.1 (rfD 38).2.2.1 ∈ lw_tbl := tl_7 (List.mem_of_getElem? (i := 155) rfl)
set_option maxRecDepth 100000 in
theorem srS_39 : Cond.stringRef (rfD 39).1 (rfD 39).2.1 (rfD 39).2.2.1 ∈ lw_tbl := tl_7 (List.mem_of_getElem? (i := 156) rfl)
set_option maxRecDepth 100000 in
theorem srS_40 : Cond.stringRef (rfD 40).1 (rfD 40).2.1 (rfD 40).2.2.1 ∈ lw_tbl := tl_7 (List.mem_of_getElem? (i := 157) rfl)
set_option maxRecDepth 100000 in
theorem srS_41 : Cond.stringRef (rfD 41).1 (rfD 41).2.1 (rfD 41).2.2.1 ∈ lw_tbl := tl_7 (List.mem_of_getElem? (i := 213) rfl)
set_option maxRecDepth 100000 in
theorem srS_42 : Cond.stringRef (rfD 42).1 (rfD 42).2.1 (rfD 42).2.2.1 ∈ lw_tbl := tl_7 (List.mem_of_getElem? (i := 214) rfl)
set_option maxRecDepth 100000 in
theorem srS_43 : Cond.stringRef (rfD 43).1 (rfD 43).2.1 (rfD 43).2.2.1 ∈ lw_tbl := tl_7 (List.mem_of_getElem? (i := 215) rfl)
set_option maxRecDepth 100000 in
theorem srS_44 : Cond.stringRef (rfD 44).1 (rfD 44).2.1 (rfD 44).2.2.1 ∈ lw_tbl := tl_7 (List.mem_of_getElem? (i := 216) rfl)
set_option maxRecDepth 100000 in
theorem srS_45 : Cond.stringRef (rfD 45).1 (rfD 45).2.1 (rfD 45).2.2.1 ∈ lw_tbl := tl_7 (List.mem_of_getElem? (i := 217) rfl)
set_option maxRecDepth 100000 in
theorem srS_46 : Cond.stringRef (rfD 46).1 (rfD 46).2.1 (rfD 46).2.2.1 ∈ lw_tbl := tl_9 (List.mem_of_getElem? (i := 146) rfl)
set_option maxRecDepth 100000 in
theorem srS_47 : Cond.stringRef (rfD 47).1 (rfD 47).2.1 (rfD 47).2.2.1 ∈ lw_tbl := tl_9 (List.mem_of_getElem? (i := 151) rfl)
theorem srS : ∀ n, n < 48 → Cond.stringRef (rfD n).1 (rfD n).2.1 (rfD n).2.2.1 ∈ lw_tbl := by
  intro n hn
  match n, hn with
  | 0, _ => exact srS_0
  | 1, _ => exact srS_1
  | 2, _ => exact srS_2
  | 3, _ => exact srS_3
  | 4, _ => exact srS_4
  | 5, _ => exact srS_5
  | 6, _ => exact srS_6
  | 7, _ => exact srS_7
  | 8, _ => exact srS_8
  | 9, _ => exact srS_9
  | 10, _ => exact srS_10
  | 11, _ => exact srS_11
  | 12, _ => exact srS_12
  | 13, _ => exact srS_13
  | 14, _ => exact srS_14
  | 15, _ => exact srS_15
  | 16, _ => exact srS_16
  | 17, _ => exact srS_17
  | 18, _ => exact srS_18
  | 19, _ => exact srS_19
  | 20, _ => exact srS_20
  | 21, _ => exact srS_21
  | 22, _ => exact srS_22
  | 23, _ => exact srS_23
  | 24, _ => exact srS_24
  | 25, _ => exact srS_25
  | 26, _ => exact srS_26
  | 27, _ => exact srS_27
  | 28, _ => exact srS_28
  | 29, _ => exact srS_29
  | 30, _ => exact srS_30
  | 31, _ => exact srS_31
  | 32, _ => exact srS_32
  | 33, _ => exact srS_33
  | 34, _ => exact srS_34
  | 35, _ => exact srS_35
  | 36, _ => exact srS_36
  | 37, _ => exact srS_37
  | 38, _ => exact srS_38
  | 39, _ => exact srS_39
  | 40, _ => exact srS_40
  | 41, _ => exact srS_41
  | 42, _ => exact srS_42
  | 43, _ => exact srS_43
  | 44, _ => exact srS_44
  | 45, _ => exact srS_45
  | 46, _ => exact srS_46
  | 47, _ => exact srS_47
  | n + 48, h => omega
set_option maxRecDepth 100000 in
theorem caS_0 : Cond.castable (exN 0) (exN 0) ∈ lw_tbl := tl_5 (List.mem_of_getElem? (i := 30) rfl)
set_option maxRecDepth 100000 in
theorem caS_1 : Cond.castable (exN 1) (exN 1) ∈ lw_tbl := tl_4 (List.mem_of_getElem? (i := 190) rfl)
set_option maxRecDepth 100000 in
theorem caS_2 : Cond.castable (exN 2) (exN 2) ∈ lw_tbl := tl_5 (List.mem_of_getElem? (i := 113) rfl)
set_option maxRecDepth 100000 in
theorem caS_3 : Cond.castable (exN 3) (exN 3) ∈ lw_tbl := tl_5 (List.mem_of_getElem? (i := 63) rfl)
set_option maxRecDepth 100000 in
theorem deS_0 : Cond.declares ⟨"java/lang/RuntimeException", "<init>", "(Ljava/lang/String;)V"⟩ ∈ lw_tbl := tl_4 (List.mem_of_getElem? (i := 192) rfl)
set_option maxRecDepth 100000 in
theorem deS_1 : Cond.declares ⟨"java/lang/Exception", "<init>", "(Ljava/lang/String;)V"⟩ ∈ lw_tbl := tl_4 (List.mem_of_getElem? (i := 194) rfl)
set_option maxRecDepth 100000 in
theorem deS_2 : Cond.declares ⟨"java/lang/Throwable", "<init>", "(Ljava/lang/String;)V"⟩ ∈ lw_tbl := tl_4 (List.mem_of_getElem? (i := 196) rfl)
set_option maxRecDepth 100000 in
theorem lsS_0 : Cond.laysStatic "java/lang/String" "COMPACT_STRINGS" "Z" ∈ lw_tbl := tl_4 (List.mem_of_getElem? (i := 39) rfl)
set_option maxRecDepth 100000 in
theorem inS_0 : Cond.initialized "java/lang/String" ∈ lw_tbl := tl_1 (List.mem_of_getElem? (i := 13) rfl)
set_option maxRecDepth 100000 in
theorem lsS_1 : Cond.laysStatic "jdk/internal/util/Preconditions" "SIOOBE_FORMATTER" "Ljava/util/function/BiFunction;" ∈ lw_tbl := tl_4 (List.mem_of_getElem? (i := 55) rfl)
set_option maxRecDepth 100000 in
theorem inS_1 : Cond.initialized "jdk/internal/util/Preconditions" ∈ lw_tbl := tl_1 (List.mem_of_getElem? (i := 15) rfl)
set_option maxRecDepth 100000 in
theorem lsS_2 : Cond.laysStatic "java/lang/Throwable" "UNASSIGNED_STACK" "[Ljava/lang/StackTraceElement;" ∈ lw_tbl := tl_4 (List.mem_of_getElem? (i := 215) rfl)
set_option maxRecDepth 100000 in
theorem inS_2 : Cond.initialized "java/lang/Throwable" ∈ lw_tbl := tl_1 (List.mem_of_getElem? (i := 18) rfl)
set_option maxRecDepth 100000 in
theorem lsS_3 : Cond.laysStatic "java/lang/Throwable" "SUPPRESSED_SENTINEL" "Ljava/util/List;" ∈ lw_tbl := tl_4 (List.mem_of_getElem? (i := 217) rfl)
set_option maxRecDepth 100000 in
theorem inS_3 : Cond.initialized "java/lang/Throwable" ∈ lw_tbl := tl_1 (List.mem_of_getElem? (i := 18) rfl)
set_option maxRecDepth 100000 in
theorem neS_0 : Cond.methodLinkNest "DutyCase$Book" 11 ⟨"DutyCase$Names", "<init>", "()V"⟩ "DutyCase" ∈ lw_tbl := tl_1 (List.mem_of_getElem? (i := 41) rfl)
set_option maxRecDepth 100000 in
theorem neS_1 : Cond.methodLinkNest "DutyCase$Book" 40 ⟨"DutyCase$Sums", "<init>", "()V"⟩ "DutyCase" ∈ lw_tbl := tl_1 (List.mem_of_getElem? (i := 65) rfl)
set_option maxRecDepth 100000 in
theorem neS_2 : Cond.methodLinkNest "DutyCase$Book" 47 ⟨"DutyCase$Sales", "<init>", "()V"⟩ "DutyCase" ∈ lw_tbl := tl_1 (List.mem_of_getElem? (i := 90) rfl)
set_option maxRecDepth 100000 in
theorem neS_3 : Cond.methodLinkNest "DutyCase" 30 ⟨"DutyCase$Acts", "<init>", "()V"⟩ "DutyCase" ∈ lw_tbl := tl_2 (List.mem_of_getElem? (i := 32) rfl)
set_option maxRecDepth 100000 in
theorem neS_4 : Cond.methodLinkNest "DutyCase" 62 ⟨"DutyCase$Report", "<init>", "()V"⟩ "DutyCase" ∈ lw_tbl := tl_2 (List.mem_of_getElem? (i := 178) rfl)
set_option maxRecDepth 100000 in
theorem ncS_0_1 : Cond.not (.castable (exN 0) (exN 1)) ∈ flatC (Jvm.Cond.and given_1 narrow_1) := by decide +kernel
set_option maxRecDepth 100000 in
theorem ncS_0_2 : Cond.not (.castable (exN 0) (exN 2)) ∈ flatC (Jvm.Cond.and given_1 narrow_1) := by decide +kernel
set_option maxRecDepth 100000 in
theorem ncS_0_3 : Cond.not (.castable (exN 0) (exN 3)) ∈ flatC (Jvm.Cond.and given_1 narrow_1) := by decide +kernel
set_option maxRecDepth 100000 in
theorem ncS_1_0 : Cond.not (.castable (exN 1) (exN 0)) ∈ flatC (Jvm.Cond.and given_1 narrow_1) := by decide +kernel
set_option maxRecDepth 100000 in
theorem ncS_1_2 : Cond.not (.castable (exN 1) (exN 2)) ∈ flatC (Jvm.Cond.and given_1 narrow_1) := by decide +kernel
set_option maxRecDepth 100000 in
theorem ncS_1_3 : Cond.not (.castable (exN 1) (exN 3)) ∈ flatC (Jvm.Cond.and given_1 narrow_1) := by decide +kernel
set_option maxRecDepth 100000 in
theorem ncS_2_0 : Cond.not (.castable (exN 2) (exN 0)) ∈ flatC (Jvm.Cond.and given_1 narrow_1) := by decide +kernel
set_option maxRecDepth 100000 in
theorem ncS_2_1 : Cond.not (.castable (exN 2) (exN 1)) ∈ flatC (Jvm.Cond.and given_1 narrow_1) := by decide +kernel
set_option maxRecDepth 100000 in
theorem ncS_2_3 : Cond.not (.castable (exN 2) (exN 3)) ∈ flatC (Jvm.Cond.and given_1 narrow_1) := by decide +kernel
set_option maxRecDepth 100000 in
theorem ncS_3_0 : Cond.not (.castable (exN 3) (exN 0)) ∈ flatC (Jvm.Cond.and given_1 narrow_1) := by decide +kernel
set_option maxRecDepth 100000 in
theorem ncS_3_1 : Cond.not (.castable (exN 3) (exN 1)) ∈ flatC (Jvm.Cond.and given_1 narrow_1) := by decide +kernel
set_option maxRecDepth 100000 in
theorem ncS_3_2 : Cond.not (.castable (exN 3) (exN 2)) ∈ flatC (Jvm.Cond.and given_1 narrow_1) := by decide +kernel
set_option maxRecDepth 100000 in
theorem ccS_0 : Cond.eq (.static "java/lang/String" "COMPACT_STRINGS" "Z") (.int 1) ∈ flatC (Jvm.Cond.and given_1 narrow_1) := by decide +kernel
set_option maxRecDepth 100000 in
theorem ccS_1 : Cond.isRef (.static "jdk/internal/util/Preconditions" "SIOOBE_FORMATTER" "Ljava/util/function/BiFunction;") ∈ flatC (Jvm.Cond.and given_1 narrow_1) := by decide +kernel
set_option maxRecDepth 100000 in
theorem ccS_2 : Cond.isRef (.static "java/lang/Throwable" "UNASSIGNED_STACK" "[Ljava/lang/StackTraceElement;") ∈ flatC (Jvm.Cond.and given_1 narrow_1) := by decide +kernel
set_option maxRecDepth 100000 in
theorem ccS_3 : Cond.isRef (.static "java/lang/Throwable" "SUPPRESSED_SENTINEL" "Ljava/util/List;") ∈ flatC (Jvm.Cond.and given_1 narrow_1) := by decide +kernel
theorem SW_start {args : Array Value} {s : State} {A : Nat → Prop} (hts : ∀ w ∈ lw_tbl, w.before args s = true) (hgv : (Jvm.Cond.and given_1 narrow_1).before args s = true) (hA : ∀ a : Nat, a < s.heap.size → ¬ A a) : ∃ adK adV : Nat → Nat, SW adK adV A s s.heap := by
  have hs := flat_of_before _ hgv
  obtain ⟨adK, adV, h1, h2⟩ := sk_Sof hs hA
  refine ⟨adK, adV, h1, ?_, va_Zof (hts _ lsS_0) (hts _ inS_0) (va_eqt (hs _ ccS_0)) hA, va_Zqof (hts _ lsS_1) (hts _ inS_1) (hs _ ccS_1) hA, vx_Zqof (hts _ lsS_2) (hts _ inS_2) (hs _ ccS_2) hA, vx_Zqof (hts _ lsS_3) (hts _ inS_3) (hs _ ccS_3) hA, ?_, ?_, ?_⟩
  · intro q hq
    obtain ⟨n, hn, e⟩ := List.getElem_of_mem hq
    have hn48 : n < 48 := hn
    have e2 : rfD n = q := by
      rw [← e]
      unfold rfD
      rw [List.getD_eq_getElem?_getD, List.getElem?_eq_getElem hn]
      rfl
    have h3 := hts _ (srS n hn48)
    have h4 := h2 n hn48
    unfold tmS at h4
    rw [e2] at h3 h4
    exact vk_R.of h3 h4
  · intro i hi
    match i, hi with
    | 0, _ => exact va_Nw.of rfl (hts _ caS_0)
    | 1, _ => exact va_Nw.of rfl (hts _ caS_1)
    | 2, _ => exact va_Nw.of rfl (hts _ caS_2)
    | 3, _ => exact va_Nw.of rfl (hts _ caS_3)
    | i + 4, h => omega
  · refine List.forall_mem_cons.mpr ⟨va_Nw.of rfl (hts _ deS_0), List.forall_mem_cons.mpr ⟨va_Nw.of rfl (hts _ deS_1), List.forall_mem_cons.mpr ⟨va_Nw.of rfl (hts _ deS_2), fun _ h => absurd h List.not_mem_nil⟩⟩⟩
  · intro i j hi hj hne
    match i, j, hi, hj, hne with
    | 0, 0, _, _, hne => exact absurd rfl hne
    | 0, 1, _, _, hne => exact va_Nc.of (hs _ ncS_0_1)
    | 0, 2, _, _, hne => exact va_Nc.of (hs _ ncS_0_2)
    | 0, 3, _, _, hne => exact va_Nc.of (hs _ ncS_0_3)
    | 1, 0, _, _, hne => exact va_Nc.of (hs _ ncS_1_0)
    | 1, 1, _, _, hne => exact absurd rfl hne
    | 1, 2, _, _, hne => exact va_Nc.of (hs _ ncS_1_2)
    | 1, 3, _, _, hne => exact va_Nc.of (hs _ ncS_1_3)
    | 2, 0, _, _, hne => exact va_Nc.of (hs _ ncS_2_0)
    | 2, 1, _, _, hne => exact va_Nc.of (hs _ ncS_2_1)
    | 2, 2, _, _, hne => exact absurd rfl hne
    | 2, 3, _, _, hne => exact va_Nc.of (hs _ ncS_2_3)
    | 3, 0, _, _, hne => exact va_Nc.of (hs _ ncS_3_0)
    | 3, 1, _, _, hne => exact va_Nc.of (hs _ ncS_3_1)
    | 3, 2, _, _, hne => exact va_Nc.of (hs _ ncS_3_2)
    | 3, 3, _, _, hne => exact absurd rfl hne
    | i + 4, _, h, _, _ => omega
    | _, j + 4, _, h, _ => omega
theorem NW_start {args : Array Value} {s : State} (hts : ∀ w ∈ lw_tbl, w.before args s = true) : NW s :=
  List.forall_mem_cons.mpr ⟨va_Nw.of rfl (hts _ neS_0), List.forall_mem_cons.mpr ⟨va_Nw.of rfl (hts _ neS_1), List.forall_mem_cons.mpr ⟨va_Nw.of rfl (hts _ neS_2), List.forall_mem_cons.mpr ⟨va_Nw.of rfl (hts _ neS_3), List.forall_mem_cons.mpr ⟨va_Nw.of rfl (hts _ neS_4), fun _ h => absurd h List.not_mem_nil⟩⟩⟩⟩⟩
theorem arrK {args : Array Value} {s : State} {ty : FieldType} (hty : ∀ C, ty ≠ .object C) (h : (Cond.arrayClass ty).before args s = true) : ∃ c : ClassId, ArrOfT s c ty ∧ va_RA s c ty := by
  obtain ⟨c, k, comp, h1, h2, h3⟩ := Cond.arrayClass_spec h
  refine ⟨c, fun N z => ⟨(fun k h => by cases h), k, h2, comp, h3⟩, ?_⟩
  unfold va_RA
  split
  · exact absurd rfl (hty _)
  · exact h1
set_option maxRecDepth 100000 in
theorem wi_X10 : Cond.instantiable RX10 8 ∈ tb := tb_1 (List.mem_of_getElem? (i := 26) rfl) rfl
set_option maxRecDepth 100000 in
theorem wi_X11 : Cond.instantiable RX11 48 ∈ tb := tb_6 (List.mem_of_getElem? (i := 168) rfl) rfl
set_option maxRecDepth 100000 in
theorem wn_X10 : Cond.initialized RX10 ∈ tb := tb_1 (List.mem_of_getElem? (i := 1) rfl) rfl
set_option maxRecDepth 100000 in
theorem wm_X10 : Cond.instanceMethod yX10_init ∈ tb := tb_1 (List.mem_of_getElem? (i := 28) rfl) rfl
set_option maxRecDepth 100000 in
theorem wc_X10 : Cond.code yX10_init cX10_init 1 none ∈ tb := tb_1 (List.mem_of_getElem? (i := 29) rfl) rfl
set_option maxRecDepth 100000 in
theorem wl_L_131 : Cond.methodLink RL 131 yX10_init ∈ tb := tb_1 (List.mem_of_getElem? (i := 27) rfl) rfl
set_option maxRecDepth 100000 in
theorem wk_L_8 : Cond.classLink RL 8 RX10 ∈ tb := tb_1 (List.mem_of_getElem? (i := 25) rfl) rfl
set_option maxRecDepth 100000 in
theorem wn_X11 : Cond.initialized RX11 ∈ tb := tb_1 (List.mem_of_getElem? (i := 12) rfl) rfl
set_option maxRecDepth 100000 in
theorem wm_X11 : Cond.instanceMethod yX11_init ∈ tb := tb_6 (List.mem_of_getElem? (i := 170) rfl) rfl
set_option maxRecDepth 100000 in
theorem wc_X11 : Cond.code yX11_init cX11_init 1 none ∈ tb := tb_6 (List.mem_of_getElem? (i := 171) rfl) rfl
set_option maxRecDepth 100000 in
theorem wl_L_134 : Cond.methodLink RL 134 yX11_init ∈ tb := tb_6 (List.mem_of_getElem? (i := 169) rfl) rfl
set_option maxRecDepth 100000 in
theorem wk_L_132 : Cond.classLink RL 132 RX11 ∈ tb := tb_6 (List.mem_of_getElem? (i := 167) rfl) rfl
theorem K_start {args : Array Value} {s : State} (hts : ∀ w ∈ tb, w.before args s = true) : ∃ (D : va_G) (cA : Nat → ClassId), va_K D vwCl (tysA cA) s := by
  obtain ⟨c0, iS0, hK0⟩ := u_known (C := RX0) (T := TX0) (N := 5) (n := 5) hts in_X0 (hts _ wi_X0)
  obtain ⟨c1, iS1, hK1⟩ := u_known (C := RX1) (T := TX1) (N := 10) (n := 10) hts in_X1 (hts _ wi_X1)
  obtain ⟨c2, iS2, hK2⟩ := u_known (C := RX2) (T := TX2) (N := 8) (n := 8) hts in_X2 (hts _ wi_X2)
  obtain ⟨c3, iS3, hK3⟩ := u_known (C := RX3) (T := TX3) (N := 10) (n := 10) hts in_X3 (hts _ wi_X3)
  obtain ⟨c4, iS4, hK4⟩ := u_known (C := RX4) (T := TX4) (N := 3) (n := 3) hts in_X4 (hts _ wi_X4)
  obtain ⟨c5, iS5, hK5⟩ := u_known (C := RX5) (T := TX5) (N := 7) (n := 7) hts in_X5 (hts _ wi_X5)
  obtain ⟨c6, iS6, hK6⟩ := u_known (C := RX6) (T := TX6) (N := 2) (n := 2) hts in_X6 (hts _ wi_X6)
  obtain ⟨c7, iS7, hK7⟩ := u_known (C := RX7) (T := TX7) (N := 11) (n := 11) hts in_X7 (hts _ wi_X7)
  obtain ⟨c8, iS8, hK8⟩ := u_known (C := RX8) (T := TX8) (N := 11) (n := 11) hts in_X8 (hts _ wi_X8)
  obtain ⟨c9, iS9, hK9⟩ := u_known (C := RX9) (T := TX9) (N := 5) (n := 5) hts in_X9 (hts _ wi_X9)
  obtain ⟨c10, iS10, hK10⟩ := u_known (C := RX10) (T := TX10) (N := 8) (n := 8) hts in_X10 (hts _ wi_X10)
  obtain ⟨c11, iS11, hK11⟩ := u_known (C := RX11) (T := TX11) (N := 48) (n := 48) hts in_X11 (hts _ wi_X11)
  obtain ⟨a0, b0⟩ := arrK (fun C h => by cases h) (hts _ aw_Int)
  obtain ⟨a1, b1⟩ := arrK (fun C h => by cases h) (hts _ aw_Long)
  obtain ⟨a2, b2⟩ := arrK (fun C h => by cases h) (hts _ aw_Byte)
  obtain ⟨a3, b3⟩ := arrK (fun C h => by cases h) (hts _ aw_Bool)
  refine ⟨(fun k => if k = 0 then c0 else if k = 1 then c1 else if k = 2 then c2 else if k = 3 then c3 else if k = 4 then c4 else if k = 5 then c5 else if k = 6 then c6 else if k = 7 then c7 else if k = 8 then c8 else if k = 9 then c9 else if k = 10 then c10 else c11, fun k => if k = 0 then iS0 else if k = 1 then iS1 else if k = 2 then iS2 else if k = 3 then iS3 else if k = 4 then iS4 else if k = 5 then iS5 else if k = 6 then iS6 else if k = 7 then iS7 else if k = 8 then iS8 else if k = 9 then iS9 else if k = 10 then iS10 else iS11), fun k => if k = 0 then a0 else if k = 1 then a1 else if k = 2 then a2 else a3, ?_, ?_⟩
  · intro k q hq
    match k, hq with
    | 0, hq => cases hq; exact hK0
    | 1, hq => cases hq; exact hK1
    | 2, hq => cases hq; exact hK2
    | 3, hq => cases hq; exact hK3
    | 4, hq => cases hq; exact hK4
    | 5, hq => cases hq; exact hK5
    | 6, hq => cases hq; exact hK6
    | 7, hq => cases hq; exact hK7
    | 8, hq => cases hq; exact hK8
    | 9, hq => cases hq; exact hK9
    | 10, hq => cases hq; exact hK10
    | 11, hq => cases hq; exact hK11
    | k + 12, hq => simp at hq
  · intro k q hq
    match k, hq with
    | 0, hq => cases hq; exact b0
    | 1, hq => cases hq; exact b1
    | 2, hq => cases hq; exact b2
    | 3, hq => cases hq; exact b3
    | k + 4, hq => simp [tysA] at hq
