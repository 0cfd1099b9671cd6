theorem r_end_n {Z : x_I} {fine w : Int} {k : Nat} {p q : Nat → Int} {lu ld : Int} (h : r_best Z fine p q lu ld w (m_ns Z) = none) : r_end Z fine w k p q lu ld = (none, 0) := by
  unfold r_end; rw [h]
theorem r_end_e {Z : x_I} {fine w : Int} {k : Nat} {p q : Nat → Int} {lu ld : Int} {s c : Nat} {u d : Int} (h : r_best Z fine p q lu ld w (m_ns Z) = some (s, c, u, d)) (ht : r_tb Z s c = false) : r_end Z fine w k p q lu ld = (some (s, c), 0) := by
  unfold r_end; rw [h]; simp only [ht]; rfl
theorem r_end_0 {Z : x_I} {fine w : Int} {p q : Nat → Int} {lu ld : Int} {s c : Nat} {u d : Int} (h : r_best Z fine p q lu ld w (m_ns Z) = some (s, c, u, d)) (ht : r_tb Z s c = true) : r_end Z fine w 0 p q lu ld = (none, 0) := by
  unfold r_end; rw [h]; simp only [ht, if_true]
theorem r_end_s {Z : x_I} {fine w : Int} {k : Nat} {p q : Nat → Int} {lu ld : Int} {s c : Nat} {u d : Int} (h : r_best Z fine p q lu ld w (m_ns Z) = some (s, c, u, d)) (ht : r_tb Z s c = true) {p' q' : Nat → Int} (hp : p' = r_upd p (r_a Z s) (2 * (Z 41 (6 * s + 1)).toInt * fine - p (r_a Z s))) (hq : q' = r_upd q (r_a Z s) (-q (r_a Z s))) :
    r_end Z fine w (k + 1) p q lu ld = ((r_end Z fine w k p' q' u d).1, (r_end Z fine w k p' q' u d).2 + 1) := by
  subst hp hq
  rw [r_end, h]; simp only [ht, if_true]
theorem r_up48 (I : x_I) (a : Nat) (v : Int32) (J : x_I) (hJ : ∀ b, b ≠ a → J 48 b = I 48 b) (hv : J 48 a = v) : (fun b => (J 48 b).toInt) = r_upd (fun b => (I 48 b).toInt) a v.toInt := by
  funext b; unfold r_upd
  by_cases h : b = a
  · rw [if_pos h, h, hv]
  · rw [if_neg h, hJ b h]
theorem r_up49 (I : x_I) (a : Nat) (v : Int32) (J : x_I) (hJ : ∀ b, b ≠ a → J 49 b = I 49 b) (hv : J 49 a = v) : (fun b => (J 49 b).toInt) = r_upd (fun b => (I 49 b).toInt) a v.toInt := by
  funext b; unfold r_upd
  by_cases h : b = a
  · rw [if_pos h, h, hv]
  · rw [if_neg h, hJ b h]
