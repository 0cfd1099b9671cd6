def r_ray (Z : x_I) (fine w x y z a b c : Int) : Option (Nat × Nat) × Nat := r_end Z fine w 3 (r3 x y z) (r3 a b c) 0 1
def r_mid (Z : x_I) (s j k : Nat) : Int := if k = r_a Z s then 2 * (Z 41 (6 * s + 1)).toInt else if k = r_o1 (r_a Z s) then 2 * ((Z 41 (6 * s + 2)).toInt + (j : Int) % (Z 41 (6 * s + 4)).toInt) + 1 else 2 * ((Z 41 (6 * s + 3)).toInt + (j : Int) / (Z 41 (6 * s + 4)).toInt) + 1
def r_seen (Z : x_I) (x y z : Int) (j : Nat) : Option (Nat × Nat) × Nat := if r_mid Z 10 j 0 - 2 * x = 0 ∧ r_mid Z 10 j 1 - 2 * y = 0 ∧ r_mid Z 10 j 2 - 2 * z = 0 then (none, 0) else r_ray Z 1 (-9) x y z (r_mid Z 10 j 0 - 2 * x) (r_mid Z 10 j 1 - 2 * y) (r_mid Z 10 j 2 - 2 * z)
def r_sby (Z : x_I) (e j : Nat) : Option (Nat × Nat) × Nat := r_seen Z (Z 43 (3 * e)).toInt (Z 43 (3 * e + 1)).toInt (Z 43 (3 * e + 2)).toInt j
def g_ry (x y z a b c : Int32) : Prop := g_pl x y z ∧ g_dr a b c 99
noncomputable def q_ray (I : x_I) (x y z a b c : Int32) : Int32 := x_if (g_ry x y z a b c) (r_ans (r_ray I 1 (-9) x.toInt y.toInt z.toInt a.toInt b.toInt c.toInt).1) (-2)
noncomputable def q_bounces (I : x_I) (x y z a b c : Int32) : Int32 := x_if (g_ry x y z a b c) (nI (r_ray I 1 (-9) x.toInt y.toInt z.toInt a.toInt b.toInt c.toInt).2) (-2)
noncomputable def q_seen (I : x_I) (e c : Int32) : Int32 := x_if (g_ey e ∧ 0 ≤ c.toInt ∧ c.toInt < m_ce (m_nb I) 10) (r_ans (r_sby (m_nb I) (x_k e) (x_k c)).1) (-1)
theorem r_mid_in {Z : x_I} {s j : Nat} (h : m_fo Z s) (hj : (j : Int) < m_ce Z s) (k : Nat) : 0 ≤ r_mid Z s j k ∧ r_mid Z s j k ≤ 80 := by
  have hm := m_ce_eq h
  obtain ⟨f0, f1, f2, f3, f4, f5, f6, f7⟩ := h
  have e1 := Int.emod_nonneg (j : Int) (b := (Z 41 (6 * s + 4)).toInt) (by omega)
  have e2 := Int.emod_lt_of_pos (j : Int) (b := (Z 41 (6 * s + 4)).toInt) (by omega)
  have e3 : 0 ≤ (j : Int) / (Z 41 (6 * s + 4)).toInt := Int.ediv_nonneg (by omega) (by omega)
  have e4 : (j : Int) / (Z 41 (6 * s + 4)).toInt < (Z 41 (6 * s + 5)).toInt := Int.ediv_lt_of_lt_mul (by omega) (by rw [Int.mul_comm]; omega)
  unfold r_mid
  split
  · omega
  · split <;> omega
theorem r_mid_cg {Z Z' : x_I} (h : ∀ j, Z' 41 j = Z 41 j) (s j k : Nat) : r_mid Z' s j k = r_mid Z s j k := by
  unfold r_mid r_a; simp only [h]
theorem r3_in {x y z A B : Int} (hx : A ≤ x ∧ x ≤ B) (hy : A ≤ y ∧ y ≤ B) (hz : A ≤ z ∧ z ≤ B) (k : Nat) : A ≤ r3 x y z k ∧ r3 x y z k ≤ B := by
  unfold r3
  split
  · exact hx
  · split
    · exact hy
    · exact hz
theorem r_ans_in {Z : x_I} {fine w : Int} (hfo : ∀ s, s < m_ns Z → m_fo Z s) (hf : fine = 1 ∨ fine = 2) : ∀ (k b : Nat), b + k = 3 → ∀ {p q : Nat → Int} {lu ld : Int}, (∀ a, a < 3 → -(90 + 160 * (b : Int)) ≤ p a ∧ p a ≤ 90 + 160 * (b : Int)) → (∀ a, a < 3 → -100 ≤ q a ∧ q a ≤ 100) → ∀ {s c : Nat}, (r_end Z fine w k p q lu ld).1 = some (s, c) → s < m_ns Z ∧ (c : Int) < m_ce Z s ∧ c < 64 ∧ r_tb Z s c = false ∧ ¬ (s : Int) = w := by
  sorry
