/-! PHASE 2. Numbers: an int is I_ of an integer, a long is J_ of one. -/
def I_ (z : Int) : Int32 := Int32.ofInt z
def J_ (z : Int) : Int64 := Int64.ofInt z
theorem I_toInt {z : Int} (h1 : -2147483648 ≤ z) (h2 : z < 2147483648) : (I_ z).toInt = z := Int32.toInt_ofInt_of_le (by omega) (by omega)
theorem J_toInt {z : Int} (h1 : -9223372036854775808 ≤ z) (h2 : z < 9223372036854775808) : (J_ z).toInt = z := Int64.toInt_ofInt_of_le (by omega) (by omega)
theorem I_of (x : Int32) : x = I_ x.toInt := (Int32.ofInt_toInt x).symm
theorem J_of (x : Int64) : x = J_ x.toInt := (Int64.ofInt_toInt x).symm
theorem I_add (a b : Int) : I_ a + I_ b = I_ (a + b) := (Int32.ofInt_add a b).symm
theorem I_sub (a b : Int) : I_ a - I_ b = I_ (a - b) := (Int32.ofInt_sub a b).symm
theorem I_mul (a b : Int) : I_ a * I_ b = I_ (a * b) := (Int32.ofInt_mul a b).symm
theorem I_neg (a : Int) : -I_ a = I_ (-a) := (Int32.ofInt_neg a).symm
theorem J_add (a b : Int) : J_ a + J_ b = J_ (a + b) := (Int64.ofInt_add a b).symm
theorem J_sub (a b : Int) : J_ a - J_ b = J_ (a - b) := (Int64.ofInt_sub a b).symm
theorem J_mul (a b : Int) : J_ a * J_ b = J_ (a * b) := (Int64.ofInt_mul a b).symm
theorem J_neg (a : Int) : -J_ a = J_ (-a) := (Int64.ofInt_neg a).symm
theorem I_lt {a b : Int} (a1 : -2147483648 ≤ a) (a2 : a < 2147483648) (b1 : -2147483648 ≤ b) (b2 : b < 2147483648) : (I_ a < I_ b) = (a < b) := by rw [Int32.lt_iff_toInt_lt, I_toInt a1 a2, I_toInt b1 b2]
theorem I_le {a b : Int} (a1 : -2147483648 ≤ a) (a2 : a < 2147483648) (b1 : -2147483648 ≤ b) (b2 : b < 2147483648) : (I_ a ≤ I_ b) = (a ≤ b) := by rw [Int32.le_iff_toInt_le, I_toInt a1 a2, I_toInt b1 b2]
theorem I_eq {a b : Int} (a1 : -2147483648 ≤ a) (a2 : a < 2147483648) (b1 : -2147483648 ≤ b) (b2 : b < 2147483648) : (I_ a = I_ b) = (a = b) := propext ⟨fun h => by
  have := congrArg Int32.toInt h
  rwa [I_toInt a1 a2, I_toInt b1 b2] at this, fun h => by rw [h]⟩
theorem J_lt {a b : Int} (a1 : -9223372036854775808 ≤ a) (a2 : a < 9223372036854775808) (b1 : -9223372036854775808 ≤ b) (b2 : b < 9223372036854775808) : (J_ a < J_ b) = (a < b) := by rw [Int64.lt_iff_toInt_lt, J_toInt a1 a2, J_toInt b1 b2]
theorem J_le {a b : Int} (a1 : -9223372036854775808 ≤ a) (a2 : a < 9223372036854775808) (b1 : -9223372036854775808 ≤ b) (b2 : b < 9223372036854775808) : (J_ a ≤ J_ b) = (a ≤ b) := by rw [Int64.le_iff_toInt_le, J_toInt a1 a2, J_toInt b1 b2]
theorem J_eq {a b : Int} (a1 : -9223372036854775808 ≤ a) (a2 : a < 9223372036854775808) (b1 : -9223372036854775808 ≤ b) (b2 : b < 9223372036854775808) : (J_ a = J_ b) = (a = b) := propext ⟨fun h => by
  have := congrArg Int64.toInt h
  rwa [J_toInt a1 a2, J_toInt b1 b2] at this, fun h => by rw [h]⟩
theorem I_nat {a : Int} (h1 : 0 ≤ a) (h2 : a < 2147483648) : (I_ a).toNatClampNeg = a.toNat := by
  show (I_ a).toInt.toNat = _
  rw [I_toInt (by omega) h2]
theorem I_tdiv {a b : Int} (a1 : -2147483648 ≤ a) (a2 : a < 2147483648) (b1 : -2147483648 ≤ b) (b2 : b < 2147483648) : I_ a / I_ b = I_ (a.tdiv b) := by
  have e1 : Int32.minValue.toInt = -2147483648 := by decide
  have e2 : Int32.maxValue.toInt = 2147483647 := by decide
  exact (Int32.ofInt_tdiv (by omega) (by omega) (by omega) (by omega)).symm
theorem J_tdiv {a b : Int} (a1 : -9223372036854775808 ≤ a) (a2 : a < 9223372036854775808) (b1 : -9223372036854775808 ≤ b) (b2 : b < 9223372036854775808) : J_ a / J_ b = J_ (a.tdiv b) := by
  have e1 : Int64.minValue.toInt = -9223372036854775808 := by decide
  have e2 : Int64.maxValue.toInt = 9223372036854775807 := by decide
  exact (Int64.ofInt_tdiv (by omega) (by omega) (by omega) (by omega)).symm
theorem I_div {a b : Int} (a1 : 0 ≤ a) (a2 : a < 2147483648) (b1 : -2147483648 ≤ b) (b2 : b < 2147483648) : I_ a / I_ b = I_ (a / b) := by
  rw [I_tdiv (by omega) a2 b1 b2, Int.tdiv_eq_ediv_of_nonneg a1]
theorem J_div {a b : Int} (a1 : 0 ≤ a) (a2 : a < 9223372036854775808) (b1 : -9223372036854775808 ≤ b) (b2 : b < 9223372036854775808) : J_ a / J_ b = J_ (a / b) := by
  rw [J_tdiv (by omega) a2 b1 b2, Int.tdiv_eq_ediv_of_nonneg a1]
theorem I_l {a : Int} (a1 : -2147483648 ≤ a) (a2 : a < 2147483648) : (I_ a).toInt64 = J_ a := Int64.toInt_inj.mp (by rw [Int32.toInt_toInt64, I_toInt a1 a2, J_toInt (by omega) (by omega)])
theorem J_i (a : Int) : (J_ a).toInt32 = I_ a := Int64.toInt32_ofInt
theorem mx_I {a b : Int} (a1 : -2147483648 ≤ a) (a2 : a < 2147483648) (b1 : -2147483648 ≤ b) (b2 : b < 2147483648) : mxI (I_ a) (I_ b) = I_ (max a b) := by
  unfold mxI
  simp only [I_lt a1 a2 b1 b2]
  split
  · rw [Int.max_eq_right (by omega)]
  · rw [Int.max_eq_left (by omega)]
theorem mn_I {a b : Int} (a1 : -2147483648 ≤ a) (a2 : a < 2147483648) (b1 : -2147483648 ≤ b) (b2 : b < 2147483648) : mnI (I_ a) (I_ b) = I_ (min a b) := by
  unfold mnI
  simp only [I_lt b1 b2 a1 a2]
  split
  · rw [Int.min_eq_right (by omega)]
  · rw [Int.min_eq_left (by omega)]
theorem mx_L {a b : Int} (a1 : -9223372036854775808 ≤ a) (a2 : a < 9223372036854775808) (b1 : -9223372036854775808 ≤ b) (b2 : b < 9223372036854775808) : mxL (J_ a) (J_ b) = J_ (max a b) := by
  unfold mxL
  simp only [J_lt b1 b2 a1 a2]
  split
  · rw [Int.max_eq_left (by omega)]
  · rw [Int.max_eq_right (by omega)]
theorem mn_L {a b : Int} (a1 : -9223372036854775808 ≤ a) (a2 : a < 9223372036854775808) (b1 : -9223372036854775808 ≤ b) (b2 : b < 9223372036854775808) : mnL (J_ a) (J_ b) = J_ (min a b) := by
  unfold mnL
  simp only [J_lt b1 b2 a1 a2]
  split
  · rw [Int.min_eq_right (by omega)]
  · rw [Int.min_eq_left (by omega)]
def az (a : Int) : Int := if 0 ≤ a then a else 0 - a
theorem az_I {a : Int} (a1 : -2147483648 ≤ a) (a2 : a < 2147483648) : abI (I_ a) = I_ (az a) := by
  unfold abI az
  simp only [show (0 : Int32) = I_ 0 from rfl, I_le (show -2147483648 ≤ (0 : Int) by omega) (by omega) a1 a2]
  split
  · rfl
  · rw [I_sub]
theorem cmp_0 {a b : Int} (a1 : -9223372036854775808 ≤ a) (a2 : a < 9223372036854775808) (b1 : -9223372036854775808 ≤ b) (b2 : b < 9223372036854775808) : lg_cmp (J_ a) (J_ b) = I_ (if b < a then 1 else if a = b then 0 else -1) := by
  unfold lg_cmp
  simp only [show (J_ a > J_ b) = (b < a) from J_lt b1 b2 a1 a2, J_eq a1 a2 b1 b2]
  split
  · rfl
  · split <;> rfl
theorem cmp_eq {a b : Int} (a1 : -9223372036854775808 ≤ a) (a2 : a < 9223372036854775808) (b1 : -9223372036854775808 ≤ b) (b2 : b < 9223372036854775808) : (lg_cmp (J_ a) (J_ b) = I_ 0) = (a = b) := by
  rw [cmp_0 a1 a2 b1 b2, I_eq (by split <;> (try split) <;> omega) (by split <;> (try split) <;> omega) (by omega) (by omega)]
  apply propext; split <;> (try split) <;> omega
theorem cmp_le {a b : Int} (a1 : -9223372036854775808 ≤ a) (a2 : a < 9223372036854775808) (b1 : -9223372036854775808 ≤ b) (b2 : b < 9223372036854775808) : (lg_cmp (J_ a) (J_ b) ≤ I_ 0) = (a ≤ b) := by
  rw [cmp_0 a1 a2 b1 b2, I_le (by split <;> (try split) <;> omega) (by split <;> (try split) <;> omega) (by omega) (by omega)]
  apply propext; split <;> (try split) <;> omega
theorem cmp_lt {a b : Int} (a1 : -9223372036854775808 ≤ a) (a2 : a < 9223372036854775808) (b1 : -9223372036854775808 ≤ b) (b2 : b < 9223372036854775808) : (lg_cmp (J_ a) (J_ b) < I_ 0) = (a < b) := by
  rw [cmp_0 a1 a2 b1 b2, I_lt (by split <;> (try split) <;> omega) (by split <;> (try split) <;> omega) (by omega) (by omega)]
  apply propext; split <;> (try split) <;> omega
theorem cmp_gt {a b : Int} (a1 : -9223372036854775808 ≤ a) (a2 : a < 9223372036854775808) (b1 : -9223372036854775808 ≤ b) (b2 : b < 9223372036854775808) : (I_ 0 < lg_cmp (J_ a) (J_ b)) = (b < a) := by
  rw [cmp_0 a1 a2 b1 b2, I_lt (by omega) (by omega) (by split <;> (try split) <;> omega) (by split <;> (try split) <;> omega)]
  apply propext; split <;> (try split) <;> omega
theorem cmp_ge {a b : Int} (a1 : -9223372036854775808 ≤ a) (a2 : a < 9223372036854775808) (b1 : -9223372036854775808 ≤ b) (b2 : b < 9223372036854775808) : (I_ 0 ≤ lg_cmp (J_ a) (J_ b)) = (b ≤ a) := by
  rw [cmp_0 a1 a2 b1 b2, I_le (by omega) (by omega) (by split <;> (try split) <;> omega) (by split <;> (try split) <;> omega)]
  apply propext; split <;> (try split) <;> omega
/-! A truth value as an int. -/
def b2 (p : Prop) [Decidable p] : Int := if p then 1 else 0
theorem b2_t {p : Prop} [Decidable p] (h : p) : b2 p = 1 := if_pos h
theorem b2_f {p : Prop} [Decidable p] (h : ¬ p) : b2 p = 0 := if_neg h
theorem b2_in (p : Prop) [Decidable p] : 0 ≤ b2 p ∧ b2 p ≤ 1 := by unfold b2; split <;> omega
theorem b2_0 {p : Prop} [Decidable p] : (I_ (b2 p) = I_ 0) = ¬ p := by
  have := b2_in p
  rw [I_eq (by omega) (by omega) (by omega) (by omega)]
  apply propext
  unfold b2
  split <;> simp [*]
theorem b2_1 {p : Prop} [Decidable p] : (I_ (b2 p) = I_ 1) = p := by
  have := b2_in p
  rw [I_eq (by omega) (by omega) (by omega) (by omega)]
  apply propext
  unfold b2
  split <;> simp [*]
theorem b2_nar {p : Prop} [Decidable p] : vp_nar .boolean (I_ (b2 p)) = I_ (b2 p) := by
  unfold b2
  split <;> decide
theorem nar_0 : vp_nar .boolean (I_ 0) = I_ 0 := by decide
theorem nar_1 : vp_nar .boolean (I_ 1) = I_ 1 := by decide
/-! The words of the programs. -/
theorem nm_eq {α β : Type} (x : β) (k : β → Option α) : nm x k = k x := rfl
theorem bd_some {β γ : Type} (a : γ) (μ : Mem) (k : γ → Mem → Option β) : bd (some (a, μ)) k = k a μ := rfl
theorem bv_some {β : Type} (a : Unit) (μ : Mem) (k : Mem → Option β) : bv (some (a, μ)) k = k μ := rfl
theorem aI_ok {β : Type} {μ : Mem} {a n : Nat} {i : Int} {k : Int32 → Option β} (h1 : 0 ≤ i) (h2 : i < n) (h3 : n < 100000) : aI μ a n (I_ i) k = k (μ.1 a i.toNat) := by
  unfold aI
  rw [I_nat h1 (by omega), if_neg]
  rw [show (0 : Int32) = I_ 0 from rfl, I_lt (by omega) (by omega) (by omega) (by omega)]
  omega
theorem aL_ok {β : Type} {μ : Mem} {a n : Nat} {i : Int} {k : Int64 → Option β} (h1 : 0 ≤ i) (h2 : i < n) (h3 : n < 100000) : aL μ a n (I_ i) k = k (μ.2.1 a i.toNat) := by
  unfold aL
  rw [I_nat h1 (by omega), if_neg]
  rw [show (0 : Int32) = I_ 0 from rfl, I_lt (by omega) (by omega) (by omega) (by omega)]
  omega
theorem aS_ok {β : Type} {n : Nat} {i : Int} {o : Option β} (h1 : 0 ≤ i) (h2 : i < n) (h3 : n < 100000) : aS n (I_ i) o = o := by
  unfold aS
  rw [I_nat h1 (by omega), if_neg]
  rw [show (0 : Int32) = I_ 0 from rfl, I_lt (by omega) (by omega) (by omega) (by omega)]
  omega
theorem dv_ok {β : Type} {y : Int} {o : Option β} (h : y ≠ 0) (h1 : -2147483648 ≤ y) (h2 : y < 2147483648) : dv (I_ y) o = o := by
  unfold dv
  simp only [show (0 : Int32) = I_ 0 from rfl, I_eq h1 h2 (show -2147483648 ≤ (0 : Int) by omega) (by omega), if_neg h]
theorem dw_ok {β : Type} {y : Int} {o : Option β} (h : y ≠ 0) (h1 : -9223372036854775808 ≤ y) (h2 : y < 9223372036854775808) : dw (J_ y) o = o := by
  unfold dw
  simp only [show (0 : Int64) = J_ 0 from rfl, J_eq h1 h2 (show -9223372036854775808 ≤ (0 : Int) by omega) (by omega), if_neg h]
theorem gB_ok {β : Type} {b : Nat} {k : Nat → Option β} (h : kB b) : gB b k = k b := by
  unfold gB; rw [if_pos h]
theorem zr_0 {β : Type} {o : Option β} : zr (I_ 0) o = o := by
  unfold zr; rw [if_pos nar_0]
theorem zr_1 {β : Type} {o : Option β} : zr (I_ 1) o = o := by
  unfold zr; rw [if_pos nar_1]
theorem zr_b2 {β : Type} {p : Prop} [Decidable p] {o : Option β} : zr (I_ (b2 p)) o = o := by
  unfold zr; rw [if_pos b2_nar]
theorem st_I (μ : Mem) (k j : Nat) (v : Int32) (a c : Nat) : (stI μ k j v).1 a c = if a = k ∧ c = j then v else μ.1 a c := rfl
theorem st_I2 (μ : Mem) (k j : Nat) (v : Int32) : (stI μ k j v).2 = μ.2 := rfl
theorem st_L (μ : Mem) (k j : Nat) (v : Int64) (a c : Nat) : (stL μ k j v).2.1 a c = if a = k ∧ c = j then v else μ.2.1 a c := rfl
theorem st_L1 (μ : Mem) (k j : Nat) (v : Int64) : (stL μ k j v).1 = μ.1 := rfl
theorem st_L2 (μ : Mem) (k j : Nat) (v : Int64) : (stL μ k j v).2.2 = μ.2.2 := rfl
theorem st_R (μ : Mem) (k j : Nat) (v : Nat) (a c : Nat) : (stR μ k j v).2.2 a c = if a = k ∧ c = j then v else μ.2.2 a c := rfl
theorem st_R1 (μ : Mem) (k j : Nat) (v : Nat) : (stR μ k j v).1 = μ.1 := rfl
theorem st_R2 (μ : Mem) (k j : Nat) (v : Nat) : (stR μ k j v).2.1 = μ.2.1 := rfl
/-! Sums: of d terms from i on. -/
def sg : Nat → Int → (Int → Int) → Int
  | 0, _, _ => 0
  | d + 1, i, g => g i + sg d (i + 1) g
theorem sg_congr {g h : Int → Int} : ∀ (d : Nat) (i : Int), (∀ z, i ≤ z → z < i + d → g z = h z) → sg d i g = sg d i h := by
  intro d
  induction d with
  | zero => intro i _; rfl
  | succ d ih =>
    intro i hz
    show g i + sg d (i + 1) g = h i + sg d (i + 1) h
    rw [hz i (by omega) (by omega), ih (i + 1) (fun z a b => hz z (by omega) (by omega))]
theorem sg_bound {g : Int → Int} {lo hi : Int} : ∀ (d : Nat) (i : Int), (∀ z, i ≤ z → z < i + d → lo ≤ g z ∧ g z ≤ hi) → lo * d ≤ sg d i g ∧ sg d i g ≤ hi * d := by
  intro d
  induction d with
  | zero => intro i _; simp [sg]
  | succ d ih =>
    intro i hz
    have h1 := hz i (by omega) (by omega)
    have h2 := ih (i + 1) (fun z a b => hz z (by omega) (by omega))
    have e1 : lo * ((d + 1 : Nat) : Int) = lo * d + lo := by rw [Int.natCast_add, Int.mul_add]; simp
    have e2 : hi * ((d + 1 : Nat) : Int) = hi * d + hi := by rw [Int.natCast_add, Int.mul_add]; simp
    show lo * ((d + 1 : Nat) : Int) ≤ g i + sg d (i + 1) g ∧ g i + sg d (i + 1) g ≤ hi * ((d + 1 : Nat) : Int)
    rw [e1, e2]
    omega
theorem sg_snoc {g : Int → Int} : ∀ (d : Nat) (i : Int), sg (d + 1) i g = sg d i g + g (i + d) := by
  intro d
  induction d with
  | zero => intro i; simp [sg]
  | succ d ih =>
    intro i
    show g i + sg (d + 1) (i + 1) g = (g i + sg d (i + 1) g) + g (i + (d + 1 : Nat))
    rw [ih (i + 1), show i + 1 + (d : Int) = i + (d + 1 : Nat) by omega]
    omega
theorem sg_add {g h : Int → Int} : ∀ (d : Nat) (i : Int), sg d i (fun z => g z + h z) = sg d i g + sg d i h := by
  intro d
  induction d with
  | zero => intro i; rfl
  | succ d ih =>
    intro i
    show g i + h i + sg d (i + 1) _ = (g i + sg d (i + 1) g) + (h i + sg d (i + 1) h)
    rw [ih (i + 1)]
    omega
theorem sg_mul {g : Int → Int} {c : Int} : ∀ (d : Nat) (i : Int), sg d i (fun z => c * g z) = c * sg d i g := by
  intro d
  induction d with
  | zero => intro i; simp [sg]
  | succ d ih =>
    intro i
    show c * g i + sg d (i + 1) _ = c * (g i + sg d (i + 1) g)
    rw [ih (i + 1), Int.mul_add]
/-! literals -/
theorem i_0 : (0 : Int32) = I_ 0 := rfl
theorem i_1 : (1 : Int32) = I_ 1 := rfl
theorem i_2 : (2 : Int32) = I_ 2 := rfl
theorem i_3 : (3 : Int32) = I_ 3 := rfl
theorem i_4 : (4 : Int32) = I_ 4 := rfl
theorem i_5 : (5 : Int32) = I_ 5 := rfl
theorem i_6 : (6 : Int32) = I_ 6 := rfl
theorem i_7 : (7 : Int32) = I_ 7 := rfl
theorem i_8 : (8 : Int32) = I_ 8 := rfl
theorem i_9 : (9 : Int32) = I_ 9 := rfl
theorem i_10 : (10 : Int32) = I_ 10 := rfl
theorem i_11 : (11 : Int32) = I_ 11 := rfl
theorem i_12 : (12 : Int32) = I_ 12 := rfl
theorem i_16 : (16 : Int32) = I_ 16 := rfl
theorem i_18 : (18 : Int32) = I_ 18 := rfl
theorem i_20 : (20 : Int32) = I_ 20 := rfl
theorem i_24 : (24 : Int32) = I_ 24 := rfl
theorem i_28 : (28 : Int32) = I_ 28 := rfl
theorem i_29 : (29 : Int32) = I_ 29 := rfl
theorem i_30 : (30 : Int32) = I_ 30 := rfl
theorem i_31 : (31 : Int32) = I_ 31 := rfl
theorem i_32 : (32 : Int32) = I_ 32 := rfl
theorem i_33 : (33 : Int32) = I_ 33 := rfl
theorem i_34 : (34 : Int32) = I_ 34 := rfl
theorem i_35 : (35 : Int32) = I_ 35 := rfl
theorem i_37 : (37 : Int32) = I_ 37 := rfl
theorem i_40 : (40 : Int32) = I_ 40 := rfl
theorem i_41 : (41 : Int32) = I_ 41 := rfl
theorem i_42 : (42 : Int32) = I_ 42 := rfl
theorem i_43 : (43 : Int32) = I_ 43 := rfl
theorem i_45 : (45 : Int32) = I_ 45 := rfl
theorem i_46 : (46 : Int32) = I_ 46 := rfl
theorem i_47 : (47 : Int32) = I_ 47 := rfl
theorem i_48 : (48 : Int32) = I_ 48 := rfl
theorem i_57 : (57 : Int32) = I_ 57 := rfl
theorem i_59 : (59 : Int32) = I_ 59 := rfl
theorem i_63 : (63 : Int32) = I_ 63 := rfl
theorem i_64 : (64 : Int32) = I_ 64 := rfl
theorem i_96 : (96 : Int32) = I_ 96 := rfl
theorem i_97 : (97 : Int32) = I_ 97 := rfl
theorem i_98 : (98 : Int32) = I_ 98 := rfl
theorem i_99 : (99 : Int32) = I_ 99 := rfl
theorem i_100 : (100 : Int32) = I_ 100 := rfl
theorem i_101 : (101 : Int32) = I_ 101 := rfl
theorem i_102 : (102 : Int32) = I_ 102 := rfl
theorem i_103 : (103 : Int32) = I_ 103 := rfl
theorem i_104 : (104 : Int32) = I_ 104 := rfl
theorem i_105 : (105 : Int32) = I_ 105 := rfl
theorem i_106 : (106 : Int32) = I_ 106 := rfl
theorem i_107 : (107 : Int32) = I_ 107 := rfl
theorem i_108 : (108 : Int32) = I_ 108 := rfl
theorem i_109 : (109 : Int32) = I_ 109 := rfl
theorem i_110 : (110 : Int32) = I_ 110 := rfl
theorem i_111 : (111 : Int32) = I_ 111 := rfl
theorem i_112 : (112 : Int32) = I_ 112 := rfl
theorem i_113 : (113 : Int32) = I_ 113 := rfl
theorem i_122 : (122 : Int32) = I_ 122 := rfl
theorem i_200 : (200 : Int32) = I_ 200 := rfl
theorem i_255 : (255 : Int32) = I_ 255 := rfl
theorem i_256 : (256 : Int32) = I_ 256 := rfl
theorem i_257 : (257 : Int32) = I_ 257 := rfl
theorem i_258 : (258 : Int32) = I_ 258 := rfl
theorem i_355 : (355 : Int32) = I_ 355 := rfl
theorem i_400 : (400 : Int32) = I_ 400 := rfl
theorem i_999 : (999 : Int32) = I_ 999 := rfl
theorem i_1000 : (1000 : Int32) = I_ 1000 := rfl
theorem i_1200 : (1200 : Int32) = I_ 1200 := rfl
theorem i_5680 : (5680 : Int32) = I_ 5680 := rfl
theorem i_9999 : (9999 : Int32) = I_ 9999 := rfl
theorem i_10000 : (10000 : Int32) = I_ 10000 := rfl
theorem i_99999 : (99999 : Int32) = I_ 99999 := rfl
theorem j_0 : (0 : Int64) = J_ 0 := rfl
theorem j_1 : (1 : Int64) = J_ 1 := rfl
theorem j_2 : (2 : Int64) = J_ 2 := rfl
theorem j_3 : (3 : Int64) = J_ 3 := rfl
theorem j_4 : (4 : Int64) = J_ 4 := rfl
theorem j_5 : (5 : Int64) = J_ 5 := rfl
theorem j_6 : (6 : Int64) = J_ 6 := rfl
theorem j_9 : (9 : Int64) = J_ 9 := rfl
theorem j_10 : (10 : Int64) = J_ 10 := rfl
theorem j_11 : (11 : Int64) = J_ 11 := rfl
theorem j_98 : (98 : Int64) = J_ 98 := rfl
theorem j_99 : (99 : Int64) = J_ 99 := rfl
theorem j_100 : (100 : Int64) = J_ 100 := rfl
theorem j_999 : (999 : Int64) = J_ 999 := rfl
theorem j_1000 : (1000 : Int64) = J_ 1000 := rfl
theorem j_9999 : (9999 : Int64) = J_ 9999 := rfl
theorem j_10000 : (10000 : Int64) = J_ 10000 := rfl
theorem j_99999 : (99999 : Int64) = J_ 99999 := rfl
theorem j_1000000 : (1000000 : Int64) = J_ 1000000 := rfl
