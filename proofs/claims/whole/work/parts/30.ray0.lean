/-! Rays in whole numbers. -/
def r_a (Z : x_I) (s : Nat) : Nat := x_k (Z 41 (6 * s))
def r_o1 (a : Nat) : Nat := if a = 0 then 1 else 0
def r_o2 (a : Nat) : Nat := if a = 2 then 1 else 2
def r_upd (p : Nat → Int) (a : Nat) (v : Int) : Nat → Int := fun b => if b = a then v else p b
def r_up (Z : x_I) (fine : Int) (p q : Nat → Int) (s : Nat) : Int := if q (r_a Z s) < 0 then -((Z 41 (6 * s + 1)).toInt * fine - p (r_a Z s)) else (Z 41 (6 * s + 1)).toInt * fine - p (r_a Z s)
def r_dn (Z : x_I) (q : Nat → Int) (s : Nat) : Int := if q (r_a Z s) < 0 then -q (r_a Z s) else q (r_a Z s)
def r_w (fine : Int) (p q : Nat → Int) (up dn : Int) (ax : Nat) : Int := (p ax * dn + q ax * up) / (dn * fine)
def r_i (Z : x_I) (fine : Int) (p q : Nat → Int) (s : Nat) : Int := r_w fine p q (r_up Z fine p q s) (r_dn Z q s) (r_o1 (r_a Z s)) - (Z 41 (6 * s + 2)).toInt
def r_jj (Z : x_I) (fine : Int) (p q : Nat → Int) (s : Nat) : Int := r_w fine p q (r_up Z fine p q s) (r_dn Z q s) (r_o2 (r_a Z s)) - (Z 41 (6 * s + 3)).toInt
def r_com (Z : x_I) (fine : Int) (p q : Nat → Int) (lu ld : Int) (s : Nat) : Option (Nat × Int × Int) :=
  if q (r_a Z s) = 0 then none else if r_up Z fine p q s * ld ≤ lu * r_dn Z q s then none else
  if 0 ≤ r_i Z fine p q s ∧ r_i Z fine p q s < (Z 41 (6 * s + 4)).toInt ∧ 0 ≤ r_jj Z fine p q s ∧ r_jj Z fine p q s < (Z 41 (6 * s + 5)).toInt then
    some (((Z 41 (6 * s + 4)).toInt * r_jj Z fine p q s + r_i Z fine p q s).toNat, r_up Z fine p q s, r_dn Z q s) else none
def r_pick (a : Option (Nat × Nat × Int × Int)) (s : Nat) (b : Option (Nat × Int × Int)) : Option (Nat × Nat × Int × Int) := match b with
  | none => a
  | some (c, u, d) => match a with
    | none => some (s, c, u, d)
    | some (s', c', u', d') => if u * d' < u' * d then some (s, c, u, d) else some (s', c', u', d')
def r_best (Z : x_I) (fine : Int) (p q : Nat → Int) (lu ld w : Int) : Nat → Option (Nat × Nat × Int × Int)
  | 0 => none
  | s + 1 => r_pick (r_best Z fine p q lu ld w s) s (if (s : Int) = w then none else r_com Z fine p q lu ld s)
def r_tb (Z : x_I) (s c : Nat) : Bool := decide ((Z 40 s).toInt = 1 ∨ ((Z 40 s).toInt = 2 ∧ (Z 42 (64 * s + c)).toInt = 0))
def r_end (Z : x_I) (fine w : Int) : Nat → (Nat → Int) → (Nat → Int) → Int → Int → Option (Nat × Nat) × Nat
  | k, p, q, lu, ld => match r_best Z fine p q lu ld w (m_ns Z) with
    | none => (none, 0)
    | some (s, c, u, d) => if r_tb Z s c = true then (match k with
      | 0 => (none, 0)
      | k' + 1 => ((r_end Z fine w k' (r_upd p (r_a Z s) (2 * (Z 41 (6 * s + 1)).toInt * fine - p (r_a Z s))) (r_upd q (r_a Z s) (-q (r_a Z s))) u d).1, (r_end Z fine w k' (r_upd p (r_a Z s) (2 * (Z 41 (6 * s + 1)).toInt * fine - p (r_a Z s))) (r_upd q (r_a Z s) (-q (r_a Z s))) u d).2 + 1))
      else (some (s, c), 0)
def r_ans (o : Option (Nat × Nat)) : Int32 := match o with
  | none => -9
  | some (s, c) => nI (100 * s + c)
theorem r_com_cg {Z Z' : x_I} (h : ∀ j, Z' 41 j = Z 41 j) (fine : Int) (p q : Nat → Int) (lu ld : Int) (s : Nat) : r_com Z' fine p q lu ld s = r_com Z fine p q lu ld s := by
  have e : Z' 41 = Z 41 := funext h
  unfold r_com r_i r_jj r_up r_dn r_a
  rw [e]
theorem x_flr {a b q : Int} (hb : 0 < b) (h1 : q * b ≤ a) (h2 : a < (q + 1) * b) : a / b = q := by
  have e1 : q ≤ a / b := Int.le_ediv_of_mul_le hb h1
  have e2 : a / b < q + 1 := Int.ediv_lt_of_lt_mul hb h2
  omega
theorem x_td {a b : Int} (hb : 0 < b) : a / b = if a.tmod b < 0 then a.tdiv b - 1 else a.tdiv b := by
  have h1 := Int.mul_tdiv_add_tmod a b
  have h2 := tmod_bounds (a := a) hb
  have h4 : b * a.tdiv b = a.tdiv b * b := Int.mul_comm _ _
  split
  · refine x_flr hb ?_ ?_
    · rw [Int.sub_mul, Int.one_mul]; omega
    · rw [show a.tdiv b - 1 + 1 = a.tdiv b by omega]; omega
  · refine x_flr hb ?_ ?_
    · omega
    · rw [Int.add_mul, Int.one_mul]; omega
theorem x_tdb {a b : Int} (hb : 0 < b) : -a.natAbs ≤ a.tdiv b ∧ a.tdiv b ≤ a.natAbs := by
  have h := Int.natAbs_tdiv_le_natAbs a b
  omega
theorem x_divL {x y : Int64} (hy : 0 < y.toInt) (hx : -9223372036854775808 < x.toInt) : (x / y).toInt = x.toInt.tdiv y.toInt := by
  rw [Int64.toInt_div]
  have h1 := x_64 x
  have h2 := x_tdb (a := x.toInt) hy
  exact x_bm6 (by omega) (by omega)
theorem x_remL {x y : Int64} (hy : 0 < y.toInt) (hx : -9223372036854775808 < x.toInt) : (x - x / y * y).toInt = x.toInt.tmod y.toInt := by
  have hd := x_divL hy hx
  have h1 := x_64 x
  have h6 := x_64 y
  have h0 := Int.mul_tdiv_add_tmod x.toInt y.toInt
  have h2 := tmod_bounds (a := x.toInt) hy
  have h4 : y.toInt * x.toInt.tdiv y.toInt = x.toInt.tdiv y.toInt * y.toInt := Int.mul_comm _ _
  have h5 : (x.toInt.tdiv y.toInt * y.toInt).natAbs ≤ x.toInt.natAbs := by
    rw [Int.natAbs_mul, Int.natAbs_tdiv]
    exact Nat.div_mul_le_self _ _
  have hm : (x / y * y).toInt = x.toInt.tdiv y.toInt * y.toInt := by
    rw [x_mulL (by rw [hd]; omega) (by rw [hd]; omega), hd]
  rw [x_subL (by rw [hm]; omega) (by rw [hm]; omega), hm]
  omega
/-- the reference's scratch -/
def mE (a k : Nat) : Bool := Nat.beq a 48 || (Nat.beq a 49 || (Nat.beq a 50 || (Nat.beq a 39 && (Nat.ble 14 k && Nat.ble k 20))))
