def r_ray (Z : x_I) (fine w x y z a b c : Int) : Option (Nat × Nat) × Nat := r_end Z fine w 3 (r3 x y z) (r3 a b c) 0 1
def r_mid (Z : x_I) (s j k : Nat) : Int := if k = r_a Z s then 2 * (Z 41 (6 * s + 1)).toInt else if k = r_o1 (r_a Z s) then 2 * ((Z 41 (6 * s + 2)).toInt + (j : Int) % (Z 41 (6 * s + 4)).toInt) + 1 else 2 * ((Z 41 (6 * s + 3)).toInt + (j : Int) / (Z 41 (6 * s + 4)).toInt) + 1
def r_seen (Z : x_I) (x y z : Int) (j : Nat) : Option (Nat × Nat) × Nat := if r_mid Z 10 j 0 - 2 * x = 0 ∧ r_mid Z 10 j 1 - 2 * y = 0 ∧ r_mid Z 10 j 2 - 2 * z = 0 then (none, 0) else r_ray Z 1 (-9) x y z (r_mid Z 10 j 0 - 2 * x) (r_mid Z 10 j 1 - 2 * y) (r_mid Z 10 j 2 - 2 * z)
def r_sby (Z : x_I) (e j : Nat) : Option (Nat × Nat) × Nat := r_seen Z (Z 43 (3 * e)).toInt (Z 43 (3 * e + 1)).toInt (Z 43 (3 * e + 2)).toInt j
def g_ry (x y z a b c : Int32) : Prop := g_pl x y z ∧ g_dr a b c 99
noncomputable def q_ray (I : x_I) (x y z a b c : Int32) : Int32 := x_if (g_ry x y z a b c) (r_ans (r_ray I 1 (-9) x.toInt y.toInt z.toInt a.toInt b.toInt c.toInt).1) (-2)
noncomputable def q_bounces (I : x_I) (x y z a b c : Int32) : Int32 := x_if (g_ry x y z a b c) (nI (r_ray I 1 (-9) x.toInt y.toInt z.toInt a.toInt b.toInt c.toInt).2) (-2)
noncomputable def q_seen (I : x_I) (e c : Int32) : Int32 := x_if (g_ey e ∧ 0 ≤ c.toInt ∧ c.toInt < m_ce (m_nb I) 10) (r_ans (r_sby (m_nb I) (x_k e) (x_k c)).1) (-1)
theorem r_mid_in {Z : x_I} {s j : Nat} (h : m_fo Z s) (hj : (j : Int) < m_ce Z s) (k : Nat) : 0 ≤ r_mid Z s j k ∧ r_mid Z s j k ≤ 80 := by
  have hm := m_ce_eq h
  obtain ⟨f0, f1, f2, f3, f4, f5, f6, f7⟩ := h
  have e1 := Int.emod_nonneg (j : Int) (b := (Z 41 (6 * s + 4)).toInt) (by omega)
  have e2 := Int.emod_lt_of_pos (j : Int) (b := (Z 41 (6 * s + 4)).toInt) (by omega)
  have e3 : 0 ≤ (j : Int) / (Z 41 (6 * s + 4)).toInt := Int.ediv_nonneg (by omega) (by omega)
  have e4 : (j : Int) / (Z 41 (6 * s + 4)).toInt < (Z 41 (6 * s + 5)).toInt := Int.ediv_lt_of_lt_mul (by omega) (by rw [Int.mul_comm]; omega)
  unfold r_mid
  split
  · omega
  · split <;> omega
theorem r_mid_cg {Z Z' : x_I} (h : ∀ j, Z' 41 j = Z 41 j) (s j k : Nat) : r_mid Z' s j k = r_mid Z s j k := by
  unfold r_mid r_a; simp only [h]
theorem r3_in {x y z A B : Int} (hx : A ≤ x ∧ x ≤ B) (hy : A ≤ y ∧ y ≤ B) (hz : A ≤ z ∧ z ≤ B) (k : Nat) : A ≤ r3 x y z k ∧ r3 x y z k ≤ B := by
  unfold r3
  split
  · exact hx
  · split
    · exact hy
    · exact hz
theorem r_best_nw {Z : x_I} {fine : Int} {p q : Nat → Int} {lu ld w : Int} : ∀ (n : Nat) {s c : Nat} {u d : Int}, r_best Z fine p q lu ld w n = some (s, c, u, d) → ¬ (s : Int) = w
  | 0, s, c, u, d, h => by cases h
  | n + 1, s, c, u, d, h => by
    have ih := fun {s c : Nat} {u d : Int} (h : r_best Z fine p q lu ld w n = some (s, c, u, d)) => r_best_nw n h
    unfold r_best at h
    by_cases hw : (n : Int) = w
    · rw [if_pos hw] at h
      exact ih h
    · rw [if_neg hw] at h
      generalize r_com Z fine p q lu ld n = y at h
      cases y with
      | none => exact ih h
      | some v =>
        obtain ⟨c1, u1, d1⟩ := v
        cases hb : r_best Z fine p q lu ld w n with
        | none => rw [hb] at h; cases h; exact hw
        | some v2 =>
          obtain ⟨s2, c2, u2, d2⟩ := v2
          rw [hb] at h
          unfold r_pick at h
          simp only at h
          split at h
          · cases h; exact hw
          · cases h; exact ih hb
theorem r_ans_in {Z : x_I} {fine w : Int} (hfo : ∀ s, s < m_ns Z → m_fo Z s) (hf : fine = 1 ∨ fine = 2) : ∀ (k b : Nat), b + k = 3 → ∀ {p q : Nat → Int} {lu ld : Int}, (∀ a, a < 3 → -(90 + 160 * (b : Int)) ≤ p a ∧ p a ≤ 90 + 160 * (b : Int)) → (∀ a, a < 3 → -100 ≤ q a ∧ q a ≤ 100) → (r_end Z fine w k p q lu ld).2 ≤ k ∧ ∀ {s c : Nat}, (r_end Z fine w k p q lu ld).1 = some (s, c) → s < m_ns Z ∧ (c : Int) < m_ce Z s ∧ c < 64 ∧ r_tb Z s c = false ∧ ¬ (s : Int) = w := by
  intro k
  induction k with
  | zero =>
    intro b hb3 p q lu ld hp hq
    cases hb : r_best Z fine p q lu ld w (m_ns Z) with
    | none => rw [r_end_n hb]; exact ⟨Nat.le_refl 0, fun h => by cases h⟩
    | some v =>
      obtain ⟨s, c, u, d⟩ := v
      have hin := r_best_in (fun a ha => by have := hp a ha; omega) hq hf _ hfo hb
      have hnw := r_best_nw _ hb
      cases ht : r_tb Z s c with
      | true => rw [r_end_0 hb ht]; exact ⟨Nat.le_refl 0, fun h => by cases h⟩
      | false => rw [r_end_e hb ht]; exact ⟨Nat.le_refl 0, fun h => by cases h; exact ⟨hin.1, hin.2.1, hin.2.2.1, ht, hnw⟩⟩
  | succ k ih =>
    intro b hb3 p q lu ld hp hq
    cases hb : r_best Z fine p q lu ld w (m_ns Z) with
    | none => rw [r_end_n hb]; exact ⟨Nat.zero_le _, fun h => by cases h⟩
    | some v =>
      obtain ⟨s, c, u, d⟩ := v
      have hin := r_best_in (fun a ha => by have := hp a ha; omega) hq hf _ hfo hb
      have hnw := r_best_nw _ hb
      cases ht : r_tb Z s c with
      | true =>
        have hfs := hfo s hin.1
        have ha := r_a_lt hfs
        obtain ⟨f0, f1, -⟩ := hfs
        have g4 := x_pb (a := 2 * (Z 41 (6 * s + 1)).toInt) (b := fine) (A := 80) (B := 2) (by omega) (by omega) (by omega) (by omega)
        have e := ih (b + 1) (by omega) (p := r_upd p (r_a Z s) (2 * (Z 41 (6 * s + 1)).toInt * fine - p (r_a Z s))) (q := r_upd q (r_a Z s) (-q (r_a Z s))) (lu := u) (ld := d) (fun a2 ha2 => by
          have := hp a2 ha2
          have := hp _ ha
          unfold r_upd
          split <;> omega) (fun a2 ha2 => by
          have := hq a2 ha2
          have := hq _ ha
          unfold r_upd
          split <;> omega)
        rw [r_end_s hb ht rfl rfl]
        exact ⟨Nat.succ_le_succ e.1, e.2⟩
      | false => rw [r_end_e hb ht]; exact ⟨Nat.zero_le _, fun h => by cases h; exact ⟨hin.1, hin.2.1, hin.2.2.1, ht, hnw⟩⟩
