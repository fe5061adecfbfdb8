/-! The words that every contract takes: those of the tables that keep. -/
def tb : List Cond := lw_tbl.filter goodWord
theorem tb_of {w : Cond} (h : w ∈ lw_tbl) (g : goodWord w = true) : w ∈ tb := List.mem_filter.mpr ⟨h, g⟩
theorem tb_good {w : Cond} (h : w ∈ tb) : w ∈ lw_tbl ∧ goodWord w = true := List.mem_filter.mp h
theorem tb_p {w : Cond} (h : w ∈ k2_sels lw_privs) (g : goodWord w = true) : w ∈ tb := tb_of (List.mem_append_left _ h) g
theorem tb_1 {w : Cond} (h : w ∈ tables_1_1) (g : goodWord w = true) : w ∈ tb := tb_of (List.mem_append_right _ (List.mem_append_left _ h)) g
theorem tb_2 {w : Cond} (h : w ∈ tables_1_2) (g : goodWord w = true) : w ∈ tb := tb_of (List.mem_append_right _ (List.mem_append_right _ (List.mem_append_left _ h))) g
theorem tb_3 {w : Cond} (h : w ∈ tables_1_3) (g : goodWord w = true) : w ∈ tb := tb_of (List.mem_append_right _ (List.mem_append_right _ (List.mem_append_right _ (List.mem_append_left _ h)))) g
theorem tb_4 {w : Cond} (h : w ∈ tables_1_4) (g : goodWord w = true) : w ∈ tb := tb_of (List.mem_append_right _ (List.mem_append_right _ (List.mem_append_right _ (List.mem_append_right _ (List.mem_append_left _ h))))) g
theorem tb_5 {w : Cond} (h : w ∈ tables_1_5) (g : goodWord w = true) : w ∈ tb := tb_of (List.mem_append_right _ (List.mem_append_right _ (List.mem_append_right _ (List.mem_append_right _ (List.mem_append_right _ (List.mem_append_left _ h)))))) g
theorem tb_6 {w : Cond} (h : w ∈ tables_1_6) (g : goodWord w = true) : w ∈ tb := tb_of (List.mem_append_right _ (List.mem_append_right _ (List.mem_append_right _ (List.mem_append_right _ (List.mem_append_right _ (List.mem_append_right _ (List.mem_append_left _ h))))))) g
theorem tb_7 {w : Cond} (h : w ∈ tables_1_7) (g : goodWord w = true) : w ∈ tb := tb_of (List.mem_append_right _ (List.mem_append_right _ (List.mem_append_right _ (List.mem_append_right _ (List.mem_append_right _ (List.mem_append_right _ (List.mem_append_right _ (List.mem_append_left _ h)))))))) g
theorem tb_8 {w : Cond} (h : w ∈ tables_1_8) (g : goodWord w = true) : w ∈ tb := tb_of (List.mem_append_right _ (List.mem_append_right _ (List.mem_append_right _ (List.mem_append_right _ (List.mem_append_right _ (List.mem_append_right _ (List.mem_append_right _ (List.mem_append_right _ (List.mem_append_left _ h))))))))) g
theorem tb_9 {w : Cond} (h : w ∈ tables_1_9) (g : goodWord w = true) : w ∈ tb := tb_of (List.mem_append_right _ (List.mem_append_right _ (List.mem_append_right _ (List.mem_append_right _ (List.mem_append_right _ (List.mem_append_right _ (List.mem_append_right _ (List.mem_append_right _ (List.mem_append_right _ h))))))))) g
theorem goodIn_tb {ws : List Cond} (h : ∀ w ∈ ws, w ∈ tb) : GoodIn tb ws := fun w hw => ⟨h w hw, good_of_word (tb_good (h w hw)).2⟩
/-! The memory: ints, longs, references that change, by cell and place. -/
/-! A world: how many cells; what each is (an object of a class, or an array: 0 int, 1 long, 2 byte, 3 boolean, and its length); where its final references go. -/
abbrev Wld : Type := Nat × (Nat → Nat ⊕ (Nat × Nat)) × (Nat → Nat → Nat)
/-- the fields of a class by kind: 0 int or boolean, 1 long, 2 a final reference, 3 a reference that changes -/
def fkind (d : String) (fin : Bool) : Nat := if d = "I" ∨ d = "Z" then 0 else if d = "J" then 1 else if fin = true then 2 else 3
def tyf (ci : Nat) : List Nat := match vwCl[ci]? with
  | none => []
  | some q => (List.range q.2.2).map (fun j => fkind (q.2.1 j).2.2.1 (q.2.1 j).2.2.2)
def fval (S : Nat → Nat → Nat) (ad : Nat → Nat) (μ : Mem) (k j t : Nat) : Value := if t = 0 then .int (μ.1 k j) else if t = 1 then .long (μ.2.1 k j) else if t = 2 then .ref (ad (S k j)) else .ref (ad (μ.2.2 k j))
def wcell (w : Wld) (cA : Nat → ClassId) (ad : Nat → Nat) (μ : Mem) (k : Nat) : va_E := match w.2.1 k with
  | .inl ci => .inr (ci, (tyf ci).mapIdx (fun j t => fval w.2.2 ad μ k j t))
  | .inr a => .inl (cA a.1, a.2, if a.1 = 1 then .inr (.inl (μ.2.1 k)) else .inl (μ.1 k))
def wld (w : Wld) (cA : Nat → ClassId) (ad : Nat → Nat) (μ : Mem) : va_W := (List.range w.1).map (fun k => (ad k, wcell w cA ad μ k))
def tysA (cA : Nat → ClassId) : List (ClassId × FieldType) := [(cA 0, .int), (cA 1, .long), (cA 2, .byte), (cA 3, .boolean)]
def AA (w : Wld) (ad : Nat → Nat) (sz : Nat) : Nat → Prop := fun q => (∃ k, k < w.1 ∧ q = ad k) ∨ sz ≤ q
def injA (w : Wld) (ad : Nat → Nat) : Prop := ∀ i j : Nat, i < w.1 → j < w.1 → ad i = ad j → i = j
theorem wld_at {w : Wld} {cA : Nat → ClassId} {ad : Nat → Nat} {μ : Mem} {k : Nat} (h : k < w.1) : (wld w cA ad μ)[k]? = some (ad k, wcell w cA ad μ k) := by
  simp [wld, h]
theorem wld_D {w : Wld} {cA : Nat → ClassId} {ad : Nat → Nat} {μ : Mem} {A : Nat → Prop} (hi : injA w ad) (hA : ∀ k, k < w.1 → A (ad k)) : va_D A (wld w cA ad μ) := by
  have key : ∀ (k : Nat) (q : Nat × va_E), (wld w cA ad μ)[k]? = some q → k < w.1 ∧ q.1 = ad k := by
    intro k q hq
    have hk : k < w.1 := by
      have := (List.getElem?_eq_some_iff.mp hq).1
      simpa [wld] using this
    rw [wld_at hk] at hq
    cases hq
    exact ⟨hk, rfl⟩
  refine ⟨fun i j p q hp hq e => ?_, fun k q hq => ?_⟩
  · obtain ⟨h1, e1⟩ := key i p hp
    obtain ⟨h2, e2⟩ := key j q hq
    exact hi i j h1 h2 (by rw [← e1, ← e2, e])
  · obtain ⟨h1, e1⟩ := key k q hq
    rw [e1]; exact hA k h1
theorem wld_set {w : Wld} {cA : Nat → ClassId} {ad : Nat → Nat} {μ μ' : Mem} {k : Nat} {x : va_E} (hne : ∀ j, j ≠ k → wcell w cA ad μ' j = wcell w cA ad μ j) (hx : wcell w cA ad μ' k = x) : (wld w cA ad μ).set k (ad k, x) = wld w cA ad μ' := by
  apply List.ext_getElem?
  intro j
  by_cases hj : j < w.1
  · rw [wld_at hj]
    by_cases hjk : j = k
    · subst hjk
      rw [List.getElem?_set_self (by simpa [wld] using hj), hx]
    · rw [List.getElem?_set_ne (Ne.symm hjk), wld_at hj, hne j hjk]
  · rw [List.getElem?_eq_none (by simpa [wld] using hj), List.getElem?_eq_none (by simpa [wld] using hj)]
theorem wcell_obj {w : Wld} {cA : Nat → ClassId} {ad : Nat → Nat} {μ : Mem} {k ci : Nat} (h : w.2.1 k = .inl ci) : wcell w cA ad μ k = .inr (ci, (tyf ci).mapIdx (fun j t => fval w.2.2 ad μ k j t)) := by
  simp only [wcell, h]
theorem wcell_arr {w : Wld} {cA : Nat → ClassId} {ad : Nat → Nat} {μ : Mem} {k ty n : Nat} (h : w.2.1 k = .inr (ty, n)) (ht : ty ≠ 1) : wcell w cA ad μ k = .inl (cA ty, n, .inl (μ.1 k)) := by
  simp only [wcell, h, if_neg ht]
theorem wcell_arrL {w : Wld} {cA : Nat → ClassId} {ad : Nat → Nat} {μ : Mem} {k n : Nat} (h : w.2.1 k = .inr (1, n)) : wcell w cA ad μ k = .inl (cA 1, n, .inr (.inl (μ.2.1 k))) := by
  simp only [wcell, h, if_true]
theorem wcell_oth {w : Wld} {cA : Nat → ClassId} {ad : Nat → Nat} {μ μ' : Mem} {k : Nat} (h1 : μ'.1 k = μ.1 k) (h2 : μ'.2.1 k = μ.2.1 k) (h3 : μ'.2.2 k = μ.2.2 k) : wcell w cA ad μ' k = wcell w cA ad μ k := by
  have hf : ∀ j t, fval w.2.2 ad μ' k j t = fval w.2.2 ad μ k j t := fun j t => by simp only [fval, h1, h2, h3]
  simp only [wcell, hf, h1, h2]
theorem stR_ne {μ : Mem} {k j : Nat} {v : Nat} {a : Nat} (h : a ≠ k) : (stR μ k j v).2.2 a = μ.2.2 a := by
  funext b; simp [stR, h]
theorem stI_row {μ : Mem} {k j : Nat} {v : Int32} : (stI μ k j v).1 k = upd (μ.1 k) j v := by
  funext b; simp [stI, upd]
theorem stL_row {μ : Mem} {k j : Nat} {v : Int64} : (stL μ k j v).2.1 k = vp_updL (μ.2.1 k) j v := by
  funext b; simp [stL, vp_updL]
theorem mapIdx_set {α : Type} {l : List Nat} {f g : Nat → Nat → α} {j : Nat} {x : α} (h : ∀ i t, i ≠ j → f i t = g i t) (hx : ∀ t, l[j]? = some t → f j t = x) : (l.mapIdx g).set j x = l.mapIdx f := by
  apply List.ext_getElem?
  intro i
  rw [List.getElem?_mapIdx]
  by_cases hij : i = j
  · subst hij
    by_cases hl : i < l.length
    · rw [List.getElem?_set_self (by simpa using hl)]
      have := List.getElem?_eq_getElem hl
      rw [this]; simp [hx _ this]
    · rw [List.getElem?_eq_none (by simpa using hl), List.getElem?_eq_none (by simpa using hl)]; rfl
  · rw [List.getElem?_set_ne (Ne.symm hij), List.getElem?_mapIdx]
    cases l[i]? with
    | none => rfl
    | some t => simp [h i t hij]
