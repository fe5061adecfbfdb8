/-! What the document's terms are, over the view. -/
def zN (V : Vw) : Nat := (sN V).toNat
/-- MANY of a firm in a market -/
def g_mn (V : Vw) (f k z : Int) : Int := if s_li V z = 1 ∧ s_fm V z = f ∧ s_mk V z = k then s_mn V z else 0
def x_mn (V : Vw) (f k : Int) : Int := sg (zN V) 0 (g_mn V f k)
/-- BASE -/
def x_bs (V : Vw) (f : Int) : Int := if 0 < x_mn V f 0 ∧ x_mn V f 1 ≤ 20 * x_mn V f 0 then 0 else if 0 < x_mn V f 2 ∧ x_mn V f 1 ≤ 20 * x_mn V f 2 then 2 else -1
abbrev p_in (V : Vw) (z : Int) : Prop := s_li V z = 1 ∧ s_mk V z = x_bs V (s_fm V z)
abbrev p_bl (V : Vw) (z : Int) : Prop := p_in V z ∧ s_nt V z < c_of V (s_fm V z) (s_md V z)
def g_all (V : Vw) (f m z : Int) : Int := if p_in V z ∧ s_fm V z = f ∧ s_md V z = m then s_mn V z else 0
def x_all (V : Vw) (f m : Int) : Int := sg (zN V) 0 (g_all V f m)
def g_bel (V : Vw) (f m z : Int) : Int := if p_bl V z ∧ s_fm V z = f ∧ s_md V z = m then s_mn V z else 0
def x_bel (V : Vw) (f m : Int) : Int := sg (zN V) 0 (g_bel V f m)
abbrev p_out (V : Vw) (f m : Int) : Prop := 0 < x_bel V f m ∧ x_all V f m ≤ 5 * x_bel V f m
abbrev p_to (V : Vw) (z : Int) : Prop := p_in V z ∧ ¬ (p_bl V z ∧ p_out V (s_fm V z) (s_md V z))
/-- IN ones of a firm and model; at a level; of a month -/
def g_hi (V : Vw) (f m z : Int) : Int := if p_to V z ∧ s_fm V z = f ∧ s_md V z = m then s_mn V z else 0
def x_hi (V : Vw) (f m : Int) : Int := sg (zN V) 0 (g_hi V f m)
def g_im (V : Vw) (f m l z : Int) : Int := if p_to V z ∧ s_fm V z = f ∧ s_md V z = m ∧ s_lv V z = l then s_mn V z else 0
def x_im (V : Vw) (f m l : Int) : Int := sg (zN V) 0 (g_im V f m l)
def g_iv (V : Vw) (f m l z : Int) : Int := if p_to V z ∧ s_fm V z = f ∧ s_md V z = m ∧ s_lv V z = l then 1000 * s_nt V z * s_mn V z else 0
def x_iv (V : Vw) (f m l : Int) : Int := sg (zN V) 0 (g_iv V f m l)
def g_mm (V : Vw) (f m l t z : Int) : Int := if p_to V z ∧ s_fm V z = f ∧ s_md V z = m ∧ s_lv V z = l ∧ s_mo V z = t then s_mn V z else 0
def x_mm (V : Vw) (f m l t : Int) : Int := sg (zN V) 0 (g_mm V f m l t)
def g_mv (V : Vw) (f m l t z : Int) : Int := if p_to V z ∧ s_fm V z = f ∧ s_md V z = m ∧ s_lv V z = l ∧ s_mo V z = t then 1000 * s_nt V z * s_mn V z else 0
def x_mv (V : Vw) (f m l t : Int) : Int := sg (zN V) 0 (g_mv V f m l t)
/-- the nearest level -/
def nl1 (a : Int → Int) (l o best : Int) : Int := if 0 < a o ∧ (best = -1 ∨ az (o - l) < az (best - l)) then o else best
def x_nl (V : Vw) (f m l : Int) : Int := nl1 (x_im V f m) l 3 (nl1 (x_im V f m) l 2 (nl1 (x_im V f m) l 1 (nl1 (x_im V f m) l 0 (-1))))
/-- the likest model -/
def lm1 (V : Vw) (f m o best : Int) : Int := if 0 < x_hi V f o ∧ 5 * az (c_of V f o - c_of V f m) ≤ c_of V f m ∧ (best = -1 ∨ az (m_lk V o - m_lk V m) < az (m_lk V best - m_lk V m)) then o else best
def lmf (V : Vw) (f m : Int) : Nat → Int → Int → Int
  | 0, _, best => best
  | d + 1, o, best => lmf V f m d (o + 1) (lm1 V f m o best)
def x_lm (V : Vw) (f m : Int) : Int := lmf V f m (mN V).toNat 0 (-1)
def x_md (V : Vw) (f m : Int) : Int := if 0 < x_hi V f m then m else x_lm V f m
def x_ll (V : Vw) (f m l : Int) : Int := if x_md V f m = -1 then -1 else x_nl V f (x_md V f m) l
/-- AVERAGE and WORTH -/
def x_av (V : Vw) (f m l t : Int) : Int := if t ≠ -1 ∧ 0 < x_mm V f m l t then x_mv V f m l t / x_mm V f m l t else if 0 < x_im V f m l then x_iv V f m l / x_im V f m l else 0
def x_wo (V : Vw) (f m l t : Int) : Int := if x_md V f m = -1 then 1000 * (c_of V f m + c_of V f m * s_se V 4 / 100) else max 0 (x_av V f (x_md V f m) (x_ll V f m l) t + 1000 * (s_se V 5 * (l - x_ll V f m l) + c_of V f m - c_of V f (x_md V f m)))
/-- the sale with which an export is compared -/
def d_ap (V : Vw) (z e : Int) : Int := (az (s_lv V z - s_lv V e) * 12 + az (s_mo V z - s_mo V e)) * 1000 + az (s_mn V z - s_mn V e)
def mt1 (V : Vw) (e z best : Int) : Int := if p_to V z ∧ s_fm V z = s_fm V e ∧ s_md V z = s_md V e ∧ (best = -1 ∨ d_ap V z e < d_ap V best e) then z else best
def mtf (V : Vw) (e : Int) : Nat → Int → Int → Int
  | 0, _, best => best
  | d + 1, z, best => mtf V e d (z + 1) (mt1 V e z best)
def x_mt (V : Vw) (e : Int) : Int := mtf V e (zN V) 0 (-1)
def mtc (V : Vw) (e : Int) : Int := if s_se V 3 = 0 then -1 else s_mo V e
def x_wm (V : Vw) (e k : Int) : Int := 1000 * max 0 (s_nt V k + s_se V 5 * (s_lv V e - s_lv V k))
def x_wf (V : Vw) (e t : Int) : Int := if t = 2 ∧ x_mt V e ≠ -1 then x_wm V e (x_mt V e) else x_wo V (s_fm V e) (s_md V e) (s_lv V e) (mtc V e)
def x_df (V : Vw) (e t : Int) : Int := (x_wf V e t - 1000 * s_nt V e) * s_mn V e
