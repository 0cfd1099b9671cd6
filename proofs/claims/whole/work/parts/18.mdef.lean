/-! What each call answers (q_..), and what the reference's memory is behind it (z_..), as functions of its memory. -/
def g_sf (I : x_I) (s : Int32) : Prop := 0 ≤ s.toInt ∧ s.toInt < (I 39 2).toInt
def g_ce (I : x_I) (s c : Int32) : Prop := (0 ≤ s.toInt ∧ s.toInt < (I 39 2).toInt) ∧ 0 ≤ c.toInt ∧ c.toInt < m_ce I (x_k s)
def g_hr (I : x_I) (s : Int32) : Prop := 0 ≤ s.toInt ∧ s.toInt < (I 39 24).toInt
def g_ey (e : Int32) : Prop := 0 ≤ e.toInt ∧ e.toInt ≤ 3
def g_pl (x y z : Int32) : Prop := (0 ≤ x.toInt ∧ x.toInt ≤ 40) ∧ (0 ≤ y.toInt ∧ y.toInt ≤ 40) ∧ (0 ≤ z.toInt ∧ z.toInt ≤ 40)
noncomputable def x_if {α : Type} (c : Prop) (a b : α) : α := @ite α c (Classical.propDecidable c) a b
theorem x_if_t {α : Type} {c : Prop} {a b : α} (h : c) : x_if c a b = a := if_pos h
theorem x_if_f {α : Type} {c : Prop} {a b : α} (h : ¬ c) : x_if c a b = b := if_neg h
noncomputable def q_surface (I : x_I) (kd a c u v w h : Int32) : Int32 := x_if (¬ ((0 ≤ kd.toInt ∧ kd.toInt ≤ 2) ∧ m_isf a.toInt c.toInt u.toInt v.toInt w.toInt h.toInt)) (-2) (x_if ((I 39 2).toInt = 10) (-4) (nI (m_ns I)))
noncomputable def z_surface (I : x_I) (kd a c u v w h : Int32) : x_I := x_if (¬ ((0 ≤ kd.toInt ∧ kd.toInt ≤ 2) ∧ m_isf a.toInt c.toInt u.toInt v.toInt w.toInt h.toInt)) I (x_if ((I 39 2).toInt = 10) I
  (x_u2 (x_fi (m_lay (x_u2 I 40 (m_ns I) kd) (m_ns I) a c u v w h) 42 (64 * m_ns I) 64 0) 39 2 (nI (m_ns I + 1))))
noncomputable def q_about (I : x_I) (s what : Int32) : Int32 := x_if (¬ g_sf I s) (-1) (x_if (what.toInt = 0) (I 40 (x_k s)) (x_if (1 ≤ what.toInt ∧ what.toInt ≤ 6) (I 41 (6 * x_k s + (x_k what - 1))) (x_if (what.toInt = 7) (nI (m_pa I (x_k s))) (-2))))
noncomputable def q_board (a c u v w h : Int32) : Int32 := x_if (¬ m_isf a.toInt c.toInt u.toInt v.toInt w.toInt h.toInt) (-2) (w * h)
noncomputable def z_board (I : x_I) (a c u v w h : Int32) : x_I := x_if (¬ m_isf a.toInt c.toInt u.toInt v.toInt w.toInt h.toInt) I (x_fi (m_lay (x_u2 I 39 8 (nI 1)) 10 a c u v w h) 44 0 256 0)
noncomputable def q_eye (e x y z : Int32) : Int32 := x_if (¬ g_ey e) (-1) (x_if (¬ g_pl x y z) (-2) (nI 1))
noncomputable def z_eye (I : x_I) (e x y z : Int32) : x_I := x_if (¬ g_ey e) I (x_if (¬ g_pl x y z) I (x_u2 (x_u2 (x_u2 I 43 (3 * x_k e) x) 43 (3 * x_k e + 1) y) 43 (3 * x_k e + 2) z))
noncomputable def q_wish (I : x_I) (e c : Int32) : Int32 := x_if (g_ey e ∧ 0 ≤ c.toInt ∧ c.toInt < m_ce (m_nb I) 10) (m_nb I 44 (64 * x_k e + x_k c)) (-1)
noncomputable def z_wish (I : x_I) (e : Int32) : x_I := x_if (g_ey e) (m_nb I) I
noncomputable def q_paint (I : x_I) (s c v : Int32) : Int32 := x_if (¬ g_ce I s c) (-1) (x_if (¬ (0 ≤ v.toInt ∧ v.toInt ≤ 9)) (-2) (x_if ((I 40 (x_k s)).toInt = 1) (-3) (I 42 (64 * x_k s + x_k c))))
noncomputable def z_paint (I : x_I) (s c v : Int32) : x_I := x_if (¬ g_ce I s c) I (x_if (¬ (0 ≤ v.toInt ∧ v.toInt ≤ 9)) I (x_if ((I 40 (x_k s)).toInt = 1) I (x_u2 I 42 (64 * x_k s + x_k c) v)))
noncomputable def q_colour (I : x_I) (s c : Int32) : Int32 := x_if (g_ce I s c) (I 42 (64 * x_k s + x_k c)) (-1)
noncomputable def q_sheet (k lane m : Int32) : Int32 := x_if (¬ g_ey k) (-1) (x_if (¬ ((0 ≤ lane.toInt ∧ lane.toInt ≤ 2) ∧ m.toInt ≤ 64)) (-2) (x_if (m.toInt < 0) (-10 - nI 4) (nI 1)))
noncomputable def z_sheet (I : x_I) (k lane m : Int32) : x_I := x_if (¬ g_ey k) (x_u2 I 39 0 (nI 0)) (x_if (¬ ((0 ≤ lane.toInt ∧ lane.toInt ≤ 2) ∧ m.toInt ≤ 64)) (x_u2 I 39 0 (nI 0)) (x_if (m.toInt < 0) (x_u2 (x_u2 I 39 0 (nI 0)) 39 0 (nI 4))
  (x_fi (x_u2 (x_u2 (x_u2 I 39 0 (nI 0)) 45 (x_k k) lane) 46 (x_k k) m) 47 (64 * x_k k) 64 0)))
noncomputable def q_lose (I : x_I) (k : Int32) : Int32 := x_if (¬ g_ey k) (-1) (x_if ((I 45 (x_k k)).toInt = -9) (nI 0) (nI 1))
noncomputable def z_lose (I : x_I) (k : Int32) : x_I := x_if (¬ g_ey k) I (x_u2 I 45 (x_k k) (-9))
noncomputable def q_cut (la v : Int32) : Int32 := x_if (la.toInt = 0) v.toInt8.toInt32 (x_if (la.toInt = 1) v.toInt16.toInt32 v)
noncomputable def q_put (I : x_I) (k i v : Int32) : Int32 := x_if (¬ g_ey k) (-1) (x_if ((I 45 (x_k k)).toInt = -9) (-10 - nI 1) (x_if (¬ (0 ≤ i.toInt ∧ i.toInt < (I 46 (x_k k)).toInt)) (-10 - nI 3) (nI 1)))
noncomputable def z_put (I : x_I) (k i v : Int32) : x_I := x_if (¬ g_ey k) (x_u2 I 39 0 (nI 0)) (x_if ((I 45 (x_k k)).toInt = -9) (x_u2 (x_u2 I 39 0 (nI 0)) 39 0 (nI 1)) (x_if (¬ (0 ≤ i.toInt ∧ i.toInt < (I 46 (x_k k)).toInt)) (x_u2 (x_u2 I 39 0 (nI 0)) 39 0 (nI 3))
  (x_u2 (x_u2 I 39 0 (nI 0)) 47 (64 * x_k k + x_k i) (q_cut (I 45 (x_k k)) v))))
noncomputable def q_at (I : x_I) (k i lane : Int32) : Int64 := x_if (¬ (g_ey k ∧ 0 ≤ lane.toInt ∧ lane.toInt ≤ 2)) (-9223372036854775808) (x_if (¬ m_ag (I 45 (x_k k)).toInt (I 46 (x_k k)).toInt lane.toInt i.toInt 1 1 = 0) (-9223372036854775808) (I 47 (64 * x_k k + x_k i)).toInt64)
noncomputable def z_at (I : x_I) (k i lane : Int32) : x_I := x_if (¬ (g_ey k ∧ 0 ≤ lane.toInt ∧ lane.toInt ≤ 2)) (x_u2 I 39 0 (nI 0)) (x_if (¬ m_ag (I 45 (x_k k)).toInt (I 46 (x_k k)).toInt lane.toInt i.toInt 1 1 = 0) (x_u2 (x_u2 I 39 0 (nI 0)) 39 0 (nI (m_ag (I 45 (x_k k)).toInt (I 46 (x_k k)).toInt lane.toInt i.toInt 1 1))) (x_u2 I 39 0 (nI 0)))
def x_tw (t b : Int32) : Int32 := nI 31 * t + b
noncomputable def q_tell (I : x_I) (s : Int32) : Int32 := x_if (¬ g_sf I s) (-1) (x_if ((I 40 (x_k s)).toInt = 1) (I 41 (6 * x_k s + 4) * I 41 (6 * x_k s + 5) + I 41 (6 * x_k s)) (x_if ((I 40 (x_k s)).toInt = 2) (nI 2 * (I 41 (6 * x_k s + 4) * I 41 (6 * x_k s + 5)) + I 41 (6 * x_k s)) (I 41 (6 * x_k s + 4) * I 41 (6 * x_k s + 5))))
noncomputable def q_tlt (I : x_I) (s : Int32) : Int32 := x_if (¬ g_sf I s) (I 39 1) (x_if ((I 40 (x_k s)).toInt = 1) (x_tw (x_tw (I 39 1) (nI 2)) (nI 1)) (x_if ((I 40 (x_k s)).toInt = 2) (x_tw (x_tw (x_tw (x_tw (I 39 1) (nI 3)) (nI 2)) (nI 1)) (nI 1)) (x_tw (I 39 1) (nI 1))))
noncomputable def q_name (I : x_I) (s : Int32) : Int32 := x_if (¬ g_sf I s) (-1) (x_if ((I 40 (x_k s)).toInt = 2) (nI 60) s)
noncomputable def q_nmt (I : x_I) (s : Int32) : Int32 := x_if (¬ g_sf I s) (I 39 1) (x_if ((I 40 (x_k s)).toInt = 2) (x_tw (I 39 1) (nI 5)) (x_tw (I 39 1) (nI 4)))
noncomputable def q_as (I : x_I) (s kd : Int32) : Int32 := x_if (¬ g_sf I s) (-1) (x_if (¬ (0 ≤ kd.toInt ∧ kd.toInt ≤ 2)) (-2) (x_if (kd.toInt ≤ (I 40 (x_k s)).toInt) (nI 1) (-10 - nI 2)))
noncomputable def z_as (I : x_I) (s kd : Int32) : x_I := x_if (¬ g_sf I s) (x_u2 I 39 0 (nI 0)) (x_if (¬ (0 ≤ kd.toInt ∧ kd.toInt ≤ 2)) (x_u2 I 39 0 (nI 0)) (x_if (kd.toInt ≤ (I 40 (x_k s)).toInt) (x_u2 I 39 0 (nI 0)) (x_u2 (x_u2 I 39 0 (nI 0)) 39 0 (nI 2))))
def g_dr (a b c : Int32) (m : Int) : Prop := ((-m ≤ a.toInt ∧ a.toInt ≤ m) ∧ (-m ≤ b.toInt ∧ b.toInt ≤ m) ∧ (-m ≤ c.toInt ∧ c.toInt ≤ m)) ∧ ¬ (a.toInt = 0 ∧ b.toInt = 0 ∧ c.toInt = 0)
def m_nh (I : x_I) : Nat := (I 39 24).toInt.toNat
noncomputable def q_hour (I : x_I) (a b c : Int32) : Int32 := x_if (¬ g_dr a b c 9) (-2) (x_if ((I 39 24).toInt = 6) (-4) (nI (m_nh I)))
noncomputable def z_hour (I : x_I) (a b c : Int32) : x_I := x_if (¬ g_dr a b c 9) I (x_if ((I 39 24).toInt = 6) I (x_u2 (x_u2 (x_u2 (x_u2 I 53 (3 * m_nh I) a) 53 (3 * m_nh I + 1) b) 53 (3 * m_nh I + 2) c) 39 24 (nI (m_nh I + 1))))
noncomputable def q_plate (I : x_I) (s : Int32) : Int32 := x_if (¬ (s.toInt = -1 ∨ g_sf I s)) (-1) (I 39 26)
noncomputable def z_plate (I : x_I) (s : Int32) : x_I := x_if (¬ (s.toInt = -1 ∨ g_sf I s)) I (x_u2 I 39 26 (x_if (s.toInt = -1) (-9) s))
noncomputable def q_want (I : x_I) (t s c b : Int32) : Int32 := x_if (¬ (g_hr I t ∧ g_ce I s c)) (-1) (x_if ((I 54 (640 * x_k t + 64 * x_k s + x_k c)).toInt = b.toInt) (nI 0) (nI 1))
noncomputable def z_want (I : x_I) (t s c b : Int32) : x_I := x_if (¬ (g_hr I t ∧ g_ce I s c)) I (x_u2 I 54 (640 * x_k t + 64 * x_k s + x_k c) b)
def m_wm (I : x_I) : Nat := x_ct (fun k => decide (¬ (I 54 k).toInt = 0)) 3840
noncomputable def q_many (I : x_I) (w : Int32) : Int32 := x_if (w.toInt = 0) (I 39 2) (x_if (w.toInt = 1) (nI (x_sm (fun s => (m_ce I s).toNat) (m_ns I))) (x_if (w.toInt = 2) (m_nb I 41 64 * m_nb I 41 65) (x_if (w.toInt = 3) (I 39 24) (x_if (w.toInt = 4) (nI (x_sm (m_pa I) (m_ns I))) (x_if (w.toInt = 5) (nI (m_wm I)) (-2))))))
noncomputable def z_many (I : x_I) (w : Int32) : x_I := x_if (w.toInt = 2) (m_nb I) I
