set_option maxRecDepth 100000 in
theorem okh_L_read : OkH yL_read cL_read 3 [(0, 8, 11, 13)] 2 := ⟨tb_3 (List.mem_of_getElem? (i := 225) rfl) rfl, tb_1 (List.mem_of_getElem? (i := 0) rfl) rfl, tb_3 (List.mem_of_getElem? (i := 226) rfl) rfl, by decide, by decide, by decide +kernel⟩
set_option maxRecDepth 100000 in
theorem okh_L_name : OkH yL_name cL_name 6 [(0, 12, 15, 19)] 5 := ⟨tb_5 (List.mem_of_getElem? (i := 17) rfl) rfl, tb_1 (List.mem_of_getElem? (i := 0) rfl) rfl, tb_5 (List.mem_of_getElem? (i := 18) rfl) rfl, by decide, by decide, by decide +kernel⟩
set_option maxRecDepth 100000 in
theorem okh_L_model : OkH yL_model cL_model 5 [(0, 10, 13, 19), (0, 10, 17, 25)] 4 := ⟨tb_5 (List.mem_of_getElem? (i := 54) rfl) rfl, tb_1 (List.mem_of_getElem? (i := 0) rfl) rfl, tb_5 (List.mem_of_getElem? (i := 55) rfl) rfl, by decide, by decide, by decide +kernel⟩
set_option maxRecDepth 100000 in
theorem okh_L_cost : OkH yL_cost cL_cost 5 [(0, 10, 13, 19)] 4 := ⟨tb_5 (List.mem_of_getElem? (i := 78) rfl) rfl, tb_1 (List.mem_of_getElem? (i := 0) rfl) rfl, tb_5 (List.mem_of_getElem? (i := 79) rfl) rfl, by decide, by decide, by decide +kernel⟩
set_option maxRecDepth 100000 in
theorem okh_L_sale : OkH yL_sale cL_sale 5 [(0, 10, 13, 19), (0, 10, 17, 25)] 4 := ⟨tb_5 (List.mem_of_getElem? (i := 86) rfl) rfl, tb_1 (List.mem_of_getElem? (i := 0) rfl) rfl, tb_5 (List.mem_of_getElem? (i := 87) rfl) rfl, by decide, by decide, by decide +kernel⟩
set_option maxRecDepth 100000 in
theorem okh_L_put : OkH yL_put cL_put 10 [(0, 20, 23, 19), (0, 20, 27, 13), (0, 20, 31, 37)] 9 := ⟨tb_5 (List.mem_of_getElem? (i := 100) rfl) rfl, tb_1 (List.mem_of_getElem? (i := 0) rfl) rfl, tb_5 (List.mem_of_getElem? (i := 101) rfl) rfl, by decide, by decide, by decide +kernel⟩
set_option maxRecDepth 100000 in
theorem okh_L_drop : OkH yL_drop cL_drop 3 [(0, 5, 8, 19)] 2 := ⟨tb_5 (List.mem_of_getElem? (i := 135) rfl) rfl, tb_1 (List.mem_of_getElem? (i := 0) rfl) rfl, tb_5 (List.mem_of_getElem? (i := 136) rfl) rfl, by decide, by decide, by decide +kernel⟩
set_option maxRecDepth 100000 in
theorem okh_L_price : OkH yL_price cL_price 5 [(0, 10, 13, 19), (0, 10, 17, 13)] 4 := ⟨tb_5 (List.mem_of_getElem? (i := 142) rfl) rfl, tb_1 (List.mem_of_getElem? (i := 0) rfl) rfl, tb_5 (List.mem_of_getElem? (i := 143) rfl) rfl, by decide, by decide, by decide +kernel⟩
set_option maxRecDepth 100000 in
theorem okh_L_costs : OkH yL_costs cL_costs 6 [(0, 12, 15, 19), (0, 12, 19, 13)] 5 := ⟨tb_5 (List.mem_of_getElem? (i := 150) rfl) rfl, tb_1 (List.mem_of_getElem? (i := 0) rfl) rfl, tb_5 (List.mem_of_getElem? (i := 151) rfl) rfl, by decide, by decide, by decide +kernel⟩
set_option maxRecDepth 100000 in
theorem okh_L_set : OkH yL_set cL_set 5 [(0, 10, 13, 25), (0, 10, 17, 13)] 4 := ⟨tb_5 (List.mem_of_getElem? (i := 158) rfl) rfl, tb_1 (List.mem_of_getElem? (i := 0) rfl) rfl, tb_5 (List.mem_of_getElem? (i := 159) rfl) rfl, by decide, by decide, by decide +kernel⟩
set_option maxRecDepth 100000 in
theorem okh_L_silent : OkH yL_silent cL_silent 5 [(0, 17, 20, 19)] 4 := ⟨tb_5 (List.mem_of_getElem? (i := 169) rfl) rfl, tb_1 (List.mem_of_getElem? (i := 0) rfl) rfl, tb_5 (List.mem_of_getElem? (i := 170) rfl) rfl, by decide, by decide, by decide +kernel⟩
set_option maxRecDepth 100000 in
theorem okh_L_base : OkH yL_base cL_base 4 [(0, 9, 12, 19)] 3 := ⟨tb_5 (List.mem_of_getElem? (i := 176) rfl) rfl, tb_1 (List.mem_of_getElem? (i := 0) rfl) rfl, tb_5 (List.mem_of_getElem? (i := 177) rfl) rfl, by decide, by decide, by decide +kernel⟩
set_option maxRecDepth 100000 in
theorem okh_L_below : OkH yL_below cL_below 6 [(0, 12, 15, 19), (0, 12, 19, 25)] 5 := ⟨tb_5 (List.mem_of_getElem? (i := 183) rfl) rfl, tb_1 (List.mem_of_getElem? (i := 0) rfl) rfl, tb_5 (List.mem_of_getElem? (i := 184) rfl) rfl, by decide, by decide, by decide +kernel⟩
set_option maxRecDepth 100000 in
theorem okh_L_worth : OkH yL_worth cL_worth 7 [(0, 13, 16, 19), (0, 13, 20, 13)] 6 := ⟨tb_5 (List.mem_of_getElem? (i := 192) rfl) rfl, tb_1 (List.mem_of_getElem? (i := 0) rfl) rfl, tb_5 (List.mem_of_getElem? (i := 193) rfl) rfl, by decide, by decide, by decide +kernel⟩
set_option maxRecDepth 100000 in
theorem okh_L_found : OkH yL_found cL_found 7 [(0, 14, 17, 19), (0, 14, 21, 13), (0, 14, 25, 25)] 6 := ⟨tb_5 (List.mem_of_getElem? (i := 200) rfl) rfl, tb_1 (List.mem_of_getElem? (i := 0) rfl) rfl, tb_5 (List.mem_of_getElem? (i := 201) rfl) rfl, by decide, by decide, by decide +kernel⟩
set_option maxRecDepth 100000 in
theorem okh_L_match : OkH yL_match cL_match 4 [(0, 9, 12, 19), (0, 9, 15, 13)] 3 := ⟨tb_5 (List.mem_of_getElem? (i := 210) rfl) rfl, tb_1 (List.mem_of_getElem? (i := 0) rfl) rfl, tb_5 (List.mem_of_getElem? (i := 211) rfl) rfl, by decide, by decide, by decide +kernel⟩
set_option maxRecDepth 100000 in
theorem okh_L_difference : OkH yL_difference cL_difference 5 [(0, 9, 12, 19), (0, 9, 16, 13)] 4 := ⟨tb_5 (List.mem_of_getElem? (i := 223) rfl) rfl, tb_1 (List.mem_of_getElem? (i := 0) rfl) rfl, tb_5 (List.mem_of_getElem? (i := 224) rfl) rfl, by decide, by decide, by decide +kernel⟩
set_option maxRecDepth 100000 in
theorem okh_L_groups : OkH yL_groups cL_groups 4 [(0, 9, 12, 19)] 3 := ⟨tb_5 (List.mem_of_getElem? (i := 234) rfl) rfl, tb_1 (List.mem_of_getElem? (i := 0) rfl) rfl, tb_5 (List.mem_of_getElem? (i := 235) rfl) rfl, by decide, by decide, by decide +kernel⟩
set_option maxRecDepth 100000 in
theorem okh_L_group : OkH yL_group cL_group 6 [(0, 11, 14, 19), (0, 11, 18, 25)] 5 := ⟨tb_6 (List.mem_of_getElem? (i := 2) rfl) rfl, tb_1 (List.mem_of_getElem? (i := 0) rfl) rfl, tb_6 (List.mem_of_getElem? (i := 3) rfl) rfl, by decide, by decide, by decide +kernel⟩
set_option maxRecDepth 100000 in
theorem okh_L_sum : OkH yL_sum cL_sum 6 [(0, 11, 14, 19), (0, 11, 18, 13)] 5 := ⟨tb_6 (List.mem_of_getElem? (i := 13) rfl) rfl, tb_1 (List.mem_of_getElem? (i := 0) rfl) rfl, tb_6 (List.mem_of_getElem? (i := 14) rfl) rfl, by decide, by decide, by decide +kernel⟩
set_option maxRecDepth 100000 in
theorem okh_L_value : OkH yL_value cL_value 4 [(0, 8, 11, 19)] 3 := ⟨tb_6 (List.mem_of_getElem? (i := 21) rfl) rfl, tb_1 (List.mem_of_getElem? (i := 0) rfl) rfl, tb_6 (List.mem_of_getElem? (i := 22) rfl) rfl, by decide, by decide, by decide +kernel⟩
set_option maxRecDepth 100000 in
theorem okh_L_margin : OkH yL_margin cL_margin 6 [(0, 12, 15, 19), (0, 12, 19, 13)] 5 := ⟨tb_6 (List.mem_of_getElem? (i := 29) rfl) rfl, tb_1 (List.mem_of_getElem? (i := 0) rfl) rfl, tb_6 (List.mem_of_getElem? (i := 30) rfl) rfl, by decide, by decide, by decide +kernel⟩
set_option maxRecDepth 100000 in
theorem okh_L_negligible : OkH yL_negligible cL_negligible 4 [(0, 16, 19, 19)] 3 := ⟨tb_6 (List.mem_of_getElem? (i := 44) rfl) rfl, tb_1 (List.mem_of_getElem? (i := 0) rfl) rfl, tb_6 (List.mem_of_getElem? (i := 45) rfl) rfl, by decide, by decide, by decide +kernel⟩
set_option maxRecDepth 100000 in
theorem okh_L_duty : OkH yL_duty cL_duty 5 [(0, 10, 13, 19), (0, 10, 17, 25)] 4 := ⟨tb_6 (List.mem_of_getElem? (i := 52) rfl) rfl, tb_1 (List.mem_of_getElem? (i := 0) rfl) rfl, tb_6 (List.mem_of_getElem? (i := 53) rfl) rfl, by decide, by decide, by decide +kernel⟩
set_option maxRecDepth 100000 in
theorem okh_L_method : OkH yL_method cL_method 5 [(0, 10, 13, 19), (0, 10, 17, 25)] 4 := ⟨tb_6 (List.mem_of_getElem? (i := 60) rfl) rfl, tb_1 (List.mem_of_getElem? (i := 0) rfl) rfl, tb_6 (List.mem_of_getElem? (i := 61) rfl) rfl, by decide, by decide, by decide +kernel⟩
set_option maxRecDepth 100000 in
theorem okh_L_undertaking : OkH yL_undertaking cL_undertaking 4 [(0, 9, 12, 19), (0, 9, 15, 37)] 3 := ⟨tb_6 (List.mem_of_getElem? (i := 69) rfl) rfl, tb_1 (List.mem_of_getElem? (i := 0) rfl) rfl, tb_6 (List.mem_of_getElem? (i := 70) rfl) rfl, by decide, by decide, by decide +kernel⟩
set_option maxRecDepth 100000 in
theorem okh_L_picked : OkH yL_picked cL_picked 4 [(0, 9, 12, 19)] 3 := ⟨tb_6 (List.mem_of_getElem? (i := 82) rfl) rfl, tb_1 (List.mem_of_getElem? (i := 0) rfl) rfl, tb_6 (List.mem_of_getElem? (i := 83) rfl) rfl, by decide, by decide, by decide +kernel⟩
set_option maxRecDepth 100000 in
theorem okh_L_collected : OkH yL_collected cL_collected 5 [(0, 9, 12, 19), (0, 9, 16, 13)] 4 := ⟨tb_6 (List.mem_of_getElem? (i := 95) rfl) rfl, tb_1 (List.mem_of_getElem? (i := 0) rfl) rfl, tb_6 (List.mem_of_getElem? (i := 96) rfl) rfl, by decide, by decide, by decide +kernel⟩
set_option maxRecDepth 100000 in
theorem okh_L_back : OkH yL_back cL_back 4 [(0, 8, 11, 19)] 3 := ⟨tb_6 (List.mem_of_getElem? (i := 112) rfl) rfl, tb_1 (List.mem_of_getElem? (i := 0) rfl) rfl, tb_6 (List.mem_of_getElem? (i := 113) rfl) rfl, by decide, by decide, by decide +kernel⟩
set_option maxRecDepth 100000 in
theorem okh_L_weight : OkH yL_weight cL_weight 4 [(0, 9, 12, 19)] 3 := ⟨tb_6 (List.mem_of_getElem? (i := 124) rfl) rfl, tb_1 (List.mem_of_getElem? (i := 0) rfl) rfl, tb_6 (List.mem_of_getElem? (i := 125) rfl) rfl, by decide, by decide, by decide +kernel⟩
set_option maxRecDepth 100000 in
theorem okh_L_heaviest : OkH yL_heaviest cL_heaviest 5 [(0, 10, 13, 19)] 4 := ⟨tb_6 (List.mem_of_getElem? (i := 137) rfl) rfl, tb_1 (List.mem_of_getElem? (i := 0) rfl) rfl, tb_6 (List.mem_of_getElem? (i := 138) rfl) rfl, by decide, by decide, by decide +kernel⟩
set_option maxRecDepth 100000 in
theorem okh_L_write : OkH yL_write cL_write 4 [(0, 9, 12, 19)] 3 := ⟨tb_6 (List.mem_of_getElem? (i := 144) rfl) rfl, tb_1 (List.mem_of_getElem? (i := 0) rfl) rfl, tb_6 (List.mem_of_getElem? (i := 145) rfl) rfl, by decide, by decide, by decide +kernel⟩

/-- the eight ints of one call -/
def VI (L : Nat) (xs : Nat → Int32) (i : Int32) (v : Nat → Int32) : Prop := ∀ c, c < 8 → ¬ (i + nI c < 0 ∨ L ≤ (i + nI c).toNatClampNeg) ∧ xs (i + nI c).toNatClampNeg = v c
section
variable {X : Ctx} {aM : Nat → Nat} {b L : Nat} {xs : Nat → Int32} {z : Mem × Mem} {pc : Nat} {lv : List (Nat × Value)} {st : List Value} {μ ν : Mem} {k n : Nat} {o : Option (Mem × Mem)}
theorem L_sv (hX : FL X aM b L xs) {i ci : Int32} {v : Nat → Int32} (hv : VI L xs i v) (c : Nat) (hc : c < 8) (he : nI c = ci) (d : decode cL_law pc = .ok (.iaload, 1)) (kk : GL X aM z (pc + 1) lv (.int (v c) :: st) μ ν k n o) : GL X aM z pc lv (.int (i + ci) :: .ref b :: st) μ ν k n o := by
  subst he
  obtain ⟨h1, h2⟩ := hv c hc
  have kk2 : ∀ x, GL X aM z (pc + 1) lv (.int x :: st) μ ν k n ((fun x => if x = v c then o else none) x) := fun x => by
    by_cases hx : x = v c
    · subst hx; simpa using kk
    · simp only [if_neg hx]; exact L_none
  have := L_sld (i := i + nI c) hX d kk2
  unfold sG at this
  rw [if_neg h1, h2] at this
  simpa using this
/-- b ? 1 : 0 -/
theorem L_bool (hX : FL X aM b L xs) {x : Int32} {kf : Int32 → Option (Mem × Mem)} (d1 : decode cL_law pc = .ok (.ifCond .eq 7, 3)) (d2 : decode cL_law (pc + 3) = .ok (.iconst 1, 1)) (d3 : decode cL_law (pc + 4) = .ok (.goto 4, 3)) (d4 : decode cL_law (pc + 7) = .ok (.iconst 0, 1)) (kk : ∀ v, GL X aM z (pc + 8) lv (.int v :: st) μ ν k n (kf v)) : GL X aM z pc lv (.int x :: st) μ ν k n (kf (if x = 0 then 0 else 1)) := by
  have h := L_if_eq hX (x := x) (o1 := kf 0) (o2 := kf 1) (pc + 7) (by omega) d1 (L_iconst hX 0 rfl d4 (kk 0)) (L_iconst hX 1 rfl d2 (L_goto hX (pc + 8) (by omega) d3 (kk 1)))
  by_cases hx : x = 0
  · rw [if_pos hx]; rw [if_pos hx] at h; exact h
  · rw [if_neg hx]; rw [if_neg hx] at h; exact h
/-- where a case ends: the back edge -/
def CL (X : Ctx) (aM : Nat → Nat) (z : Mem × Mem) (lv : List (Nat × Value)) (k n : Nat) : Prop := ∀ (k' n' : Nat) (H : Heap) (locs : List Loc) (ls : Array Slot), k' ≤ k → n' ≤ n → lv_has ls 8 lv → va_P (cx_D X) vwCl (wld wC (cx_cA X) (cx_ad X) z.1) H → va_P (cx_D X) vwCl (wld wM (cx_cA X) aM z.2) H → va_S (cx_A X) (cx_s X).heap H locs →
    W (cx_p X) (cx_l X) (cx_e X) (cx_R X) (cx_s X) (cx_m X) (cx_args X) (cx_below X) (cx_meth X) (cx_c X) H locs k' n' (cx_Q X) (F0 (cx_m X) 2715 ls [])
theorem L_end {lv' : List (Nat × Value)} {k0 n0 : Nat} (hC : CL X aM z lv' k0 n0) (ks : List Nat) (hk : lv_pick lv ks = lv') (h1 : k ≤ k0 ∧ n ≤ n0) : GL X aM z 2715 lv [] μ ν k n (some (μ, ν)) := by
  intro h H locs ls hl hP hM hS
  cases h
  exact hC k n H locs ls h1.1 h1.2 (lv_sub hl ks hk) hP hM hS
end
section
variable {X : Ctx} {aM : Nat → Nat} {b L : Nat} {xs : Nat → Int32} {z : Mem × Mem} {pc : Nat} {lv : List (Nat × Value)} {st : List Value} {μ ν : Mem} {k n : Nat}
theorem L_outn (hX : FL X aM b L xs) {kf : Int64 → Option (Mem × Mem)} (d : decode cL_law pc = .ok (.laload, 1)) (kk : ∀ x, GL X aM z (pc + 1) lv (.long x :: st) μ ν k n (kf x)) : GL X aM z pc lv (.int 0 :: .ref (cx_ad X 90) :: st) μ ν k n (nm (μ.2.1 90 0) kf) := L_out hX d kk
theorem L_booln (hX : FL X aM b L xs) {x : Int32} {kf : Int32 → Option (Mem × Mem)} (d1 : decode cL_law pc = .ok (.ifCond .eq 7, 3)) (d2 : decode cL_law (pc + 3) = .ok (.iconst 1, 1)) (d3 : decode cL_law (pc + 4) = .ok (.goto 4, 3)) (d4 : decode cL_law (pc + 7) = .ok (.iconst 0, 1)) (kk : ∀ v, GL X aM z (pc + 8) lv (.int v :: st) μ ν k n (kf v)) : GL X aM z pc lv (.int x :: st) μ ν k n (nm (if x = 0 then (0 : Int32) else 1) kf) := L_bool hX d1 d2 d3 d4 kk
end
