/-! Shifts of small numbers (s_l: after the kit's text on bits). -/
theorem sb_l : ∀ n, n < 32 → ((nI n &&& 31).toBitVec.smod 32).toNat = n := by decide +kernel
theorem n_or (a b : Nat) : nI a ||| nI b = nI (a ||| b) := by
  apply Int32.toBitVec_inj.1
  show BitVec.ofNat 32 a ||| BitVec.ofNat 32 b = BitVec.ofNat 32 (a ||| b)
  apply BitVec.eq_of_getLsbD_eq
  intro i hi
  simp [hi]
theorem n_and (a b : Nat) : nI a &&& nI b = nI (a &&& b) := by
  apply Int32.toBitVec_inj.1
  show BitVec.ofNat 32 a &&& BitVec.ofNat 32 b = BitVec.ofNat 32 (a &&& b)
  apply BitVec.eq_of_getLsbD_eq
  intro i hi
  simp [hi]
theorem n_shl (v k : Nat) (hk : k < 32) : nI v <<< (nI k &&& 31) = nI (v * 2 ^ k) := by
  apply Int32.toBitVec_inj.1
  rw [Int32.toBitVec_shiftLeft]
  show BitVec.ofNat 32 v <<< ((nI k &&& 31).toBitVec.smod 32).toNat = BitVec.ofNat 32 (v * 2 ^ k)
  rw [sb_l k hk]
  apply BitVec.eq_of_toNat_eq
  rw [BitVec.toNat_shiftLeft, BitVec.toNat_ofNat, BitVec.toNat_ofNat, Nat.shiftLeft_eq, Nat.mul_mod, Nat.mod_mod, ← Nat.mul_mod]
theorem n_shr (v k : Nat) (hv : v < 2 ^ 31) (hk : k < 32) : nI v >>> (nI k &&& 31) = nI (v / 2 ^ k) := by
  apply Int32.toBitVec_inj.1
  rw [Int32.toBitVec_shiftRight]
  show (BitVec.ofNat 32 v).sshiftRight ((nI k &&& 31).toBitVec.smod 32).toNat = BitVec.ofNat 32 (v / 2 ^ k)
  have hv2 : v < 2 ^ 32 := by omega
  have hm : (BitVec.ofNat 32 v).msb = false := by
    rw [BitVec.msb_eq_decide, BitVec.toNat_ofNat, Nat.mod_eq_of_lt hv2]
    exact decide_eq_false (by omega)
  rw [sb_l k hk, BitVec.sshiftRight_eq_of_msb_false hm]
  apply BitVec.eq_of_toNat_eq
  have hd : v / 2 ^ k ≤ v := Nat.div_le_self _ _
  rw [BitVec.toNat_ushiftRight, BitVec.toNat_ofNat, BitVec.toNat_ofNat, Nat.shiftRight_eq_div_pow, Nat.mod_eq_of_lt hv2, Nat.mod_eq_of_lt (by omega)]
theorem I_nn {z : Int} (h : 0 ≤ z) : I_ z = nI z.toNat := by
  rw [nI_I]
  congr 1
  omega
theorem I_shl5 {v x : Int} (v0 : 0 ≤ v) (x0 : 0 ≤ x) (x1 : x < 32) : (I_ v <<< (I_ 5 &&& 31)) ||| I_ x = I_ (v * 32 + x) := by
  rw [I_nn v0, I_nn x0, I_nn (show 0 ≤ v * 32 + x by omega), show I_ 5 = nI 5 from rfl, n_shl _ 5 (by omega), n_or]
  congr 1
  have h := Nat.two_pow_add_eq_or_of_lt (i := 5) (b := x.toNat) (by omega) v.toNat
  rw [Nat.mul_comm] at h
  rw [← h]
  omega
theorem I_shr5 {v : Int} (v0 : 0 ≤ v) (v1 : v < 2147483648) : I_ v >>> (I_ 5 &&& 31) = I_ (v / 32) := by
  rw [I_nn v0, I_nn (show 0 ≤ v / 32 by omega), show I_ 5 = nI 5 from rfl, n_shr _ 5 (by omega) (by omega)]
  congr 1
  omega
theorem I_shrk {v : Int} {k : Nat} (v0 : 0 ≤ v) (v1 : v < 2147483648) (hk : k < 32) : (I_ v >>> (I_ k &&& 31)) &&& I_ 31 = I_ (v / 2 ^ k % 32) := by
  have h1 : v / 2 ^ k % 32 = ((v.toNat / 2 ^ k % 32 : Nat) : Int) := by
    have : v = (v.toNat : Int) := by omega
    rw [this]
    simp
  rw [h1, I_nn v0, ← nI_I (k := k), ← nI_I (k := v.toNat / 2 ^ k % 32), show I_ 31 = nI 31 from rfl, n_shr _ k (by omega) hk, n_and]
  congr 1
  exact Nat.and_two_pow_sub_one_eq_mod _ 5
/-! Names: letters, and the number that holds them. -/
def pk (a : Int → Int) : Nat → Int
  | 0 => 0
  | d + 1 => pk a d * 32 + (a d - 96)
def lets (a : Int → Int) (d : Nat) : Prop := ∀ j : Nat, j < d → 97 ≤ a j ∧ a j ≤ 122
theorem pk_0 {a : Int → Int} : ∀ {d : Nat}, lets a d → 0 ≤ pk a d := by
  intro d
  induction d with
  | zero => intro _; show (0 : Int) ≤ 0; omega
  | succ d ih =>
    intro h
    have h1 := ih (fun j hj => h j (by omega))
    have h2 := h d (by omega)
    show 0 ≤ pk a d * 32 + (a d - 96)
    omega
theorem pk_1 {a : Int → Int} {d : Nat} (h : lets a (d + 1)) : 1 ≤ pk a (d + 1) := by
  have h1 := pk_0 (a := a) (d := d) (fun j hj => h j (by omega))
  have h2 := h d (by omega)
  show 1 ≤ pk a d * 32 + (a d - 96)
  omega
theorem pk_6 {a : Int → Int} {d : Nat} (hd : d ≤ 6) (h : lets a d) : pk a d ≤ 1000000000 := by
  have q : ∀ j : Nat, j < d → 97 ≤ a j ∧ a j ≤ 122 := h
  match d, hd, q with
  | 0, _, q => show (0 : Int) ≤ 1000000000; omega
  | 1, _, q =>
    have q0 := q 0 (by omega)
    unfold pk pk; omega
  | 2, _, q =>
    have q0 := q 0 (by omega)
    have q1 := q 1 (by omega)
    unfold pk pk pk; omega
  | 3, _, q =>
    have q0 := q 0 (by omega)
    have q1 := q 1 (by omega)
    have q2 := q 2 (by omega)
    unfold pk pk pk pk; omega
  | 4, _, q =>
    have q0 := q 0 (by omega)
    have q1 := q 1 (by omega)
    have q2 := q 2 (by omega)
    have q3 := q 3 (by omega)
    unfold pk pk pk pk pk; omega
  | 5, _, q =>
    have q0 := q 0 (by omega)
    have q1 := q 1 (by omega)
    have q2 := q 2 (by omega)
    have q3 := q 3 (by omega)
    have q4 := q 4 (by omega)
    unfold pk pk pk pk pk pk; omega
  | 6, _, q =>
    have q0 := q 0 (by omega)
    have q1 := q 1 (by omega)
    have q2 := q 2 (by omega)
    have q3 := q 3 (by omega)
    have q4 := q 4 (by omega)
    have q5 := q 5 (by omega)
    unfold pk pk pk pk pk pk pk; omega
theorem pk_inj {a b : Int → Int} : ∀ {d e : Nat}, lets a d → lets b e → pk a d = pk b e → d = e ∧ ∀ j : Nat, j < d → a j = b j := by
  intro d
  induction d with
  | zero =>
    intro e ha hb h
    match e, hb, h with
    | 0, _, _ => exact ⟨rfl, fun j hj => absurd hj (by omega)⟩
    | e + 1, hb, h =>
      have := pk_1 hb
      have h0 : pk a 0 = 0 := rfl
      omega
  | succ d ih =>
    intro e ha hb h
    match e, hb, h with
    | 0, _, h =>
      have := pk_1 ha
      have h0 : pk b 0 = 0 := rfl
      omega
    | e + 1, hb, h =>
      have a1 := ha d (by omega)
      have b1 := hb e (by omega)
      have ea : pk a (d + 1) = pk a d * 32 + (a d - 96) := rfl
      have eb : pk b (e + 1) = pk b e * 32 + (b e - 96) := rfl
      have hq : pk a d = pk b e ∧ a d = b e := by omega
      obtain ⟨i1, i2⟩ := ih (fun j hj => ha j (by omega)) (fun j hj => hb j (by omega)) hq.1
      subst i1
      refine ⟨rfl, fun j hj => ?_⟩
      by_cases hjd : j = d
      · rw [hjd]; exact hq.2
      · exact i2 j (by omega)
theorem pk_congr {a b : Int → Int} : ∀ {d : Nat}, (∀ j : Nat, j < d → a j = b j) → pk a d = pk b d := by
  intro d
  induction d with
  | zero => intro _; rfl
  | succ d ih =>
    intro h
    show pk a d * 32 + (a d - 96) = pk b d * 32 + (b d - 96)
    rw [ih (fun j hj => h j (by omega)), h d (by omega)]
