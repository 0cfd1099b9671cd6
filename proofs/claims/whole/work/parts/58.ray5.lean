/-! A ray told twice as fine, and one that leaves nothing out. -/
def r_2 (p : Nat → Int) : Nat → Int := fun a => 2 * p a
def r_d3 (o : Option (Nat × Int × Int)) : Option (Nat × Int × Int) := match o with
  | none => none
  | some (c, u, d) => some (c, 2 * u, d)
def r_d4 (o : Option (Nat × Nat × Int × Int)) : Option (Nat × Nat × Int × Int) := match o with
  | none => none
  | some (s, c, u, d) => some (s, c, 2 * u, d)
theorem r_up_2 (Z : x_I) (p q : Nat → Int) (s : Nat) : r_up Z 2 (r_2 p) q s = 2 * r_up Z 1 p q s := by
  unfold r_up r_2
  split <;> omega
theorem r_w_2 (p q : Nat → Int) (u d : Int) (ax : Nat) : r_w 2 (r_2 p) q (2 * u) d ax = r_w 1 p q u d ax := by
  unfold r_w r_2
  have e : 2 * p ax * d + q ax * (2 * u) = (p ax * d + q ax * u) * 2 := by
    rw [Int.mul_assoc 2 (p ax) d, show q ax * (2 * u) = 2 * (q ax * u) by rw [← Int.mul_assoc, Int.mul_comm (q ax) 2, Int.mul_assoc]]
    omega
  rw [e, Int.mul_ediv_mul_of_pos_left _ _ (by decide), Int.mul_one]
theorem r_i_2 (Z : x_I) (p q : Nat → Int) (s : Nat) : r_i Z 2 (r_2 p) q s = r_i Z 1 p q s := by
  unfold r_i; rw [r_up_2, r_w_2]
theorem r_j_2 (Z : x_I) (p q : Nat → Int) (s : Nat) : r_jj Z 2 (r_2 p) q s = r_jj Z 1 p q s := by
  unfold r_jj; rw [r_up_2, r_w_2]
theorem x_dle {a b c d : Int} : (2 * a * b ≤ 2 * c * d) ↔ (a * b ≤ c * d) := by
  rw [Int.mul_assoc, Int.mul_assoc]; omega
theorem x_dlt {a b c d : Int} : (2 * a * b < 2 * c * d) ↔ (a * b < c * d) := by
  rw [Int.mul_assoc, Int.mul_assoc]; omega
theorem r_com_2 (Z : x_I) (p q : Nat → Int) (lu ld : Int) (s : Nat) : r_com Z 2 (r_2 p) q (2 * lu) ld s = r_d3 (r_com Z 1 p q lu ld s) := by
  unfold r_com
  rw [r_up_2, r_i_2, r_j_2]
  by_cases h1 : q (r_a Z s) = 0
  · rw [if_pos h1, if_pos h1]; rfl
  · rw [if_neg h1, if_neg h1]
    by_cases h2 : r_up Z 1 p q s * ld ≤ lu * r_dn Z q s
    · rw [if_pos h2, if_pos (x_dle.mpr h2)]; rfl
    · rw [if_neg h2, if_neg (fun z => h2 (x_dle.mp z))]
      split
      · rfl
      · rfl
theorem r_pick_2 (a : Option (Nat × Nat × Int × Int)) (s : Nat) (b : Option (Nat × Int × Int)) : r_pick (r_d4 a) s (r_d3 b) = r_d4 (r_pick a s b) := by
  cases b with
  | none => rfl
  | some v =>
    obtain ⟨c, u, d⟩ := v
    cases a with
    | none => rfl
    | some w =>
      obtain ⟨s', c', u', d'⟩ := w
      show (if _ then _ else _) = r_d4 (if _ then _ else _)
      by_cases h : u * d' < u' * d
      · rw [if_pos h, if_pos (x_dlt.mpr h)]; rfl
      · rw [if_neg h, if_neg (fun z => h (x_dlt.mp z))]; rfl
theorem r_best_2 (Z : x_I) (p q : Nat → Int) (lu ld w : Int) : ∀ n, r_best Z 2 (r_2 p) q (2 * lu) ld w n = r_d4 (r_best Z 1 p q lu ld w n)
  | 0 => rfl
  | n + 1 => by
    unfold r_best
    rw [r_best_2 Z p q lu ld w n, ← r_pick_2]
    by_cases h : (n : Int) = w
    · rw [if_pos h, if_pos h]; rfl
    · rw [if_neg h, if_neg h, r_com_2]
theorem r_end_2 (Z : x_I) (w : Int) : ∀ (k : Nat) (p q : Nat → Int) (lu ld : Int), r_end Z 2 w k (r_2 p) q (2 * lu) ld = r_end Z 1 w k p q lu ld := by
  intro k
  induction k with
  | zero =>
    intro p q lu ld
    have h2 := r_best_2 Z p q lu ld w (m_ns Z)
    cases h1 : r_best Z 1 p q lu ld w (m_ns Z) with
    | none => rw [h1] at h2; rw [r_end_n h1, r_end_n h2]
    | some v =>
      obtain ⟨s, c, u, d⟩ := v
      rw [h1] at h2
      cases ht : r_tb Z s c with
      | true => rw [r_end_0 h1 ht, r_end_0 h2 ht]
      | false => rw [r_end_e h1 ht, r_end_e h2 ht]
  | succ k ih =>
    intro p q lu ld
    have h2 := r_best_2 Z p q lu ld w (m_ns Z)
    cases h1 : r_best Z 1 p q lu ld w (m_ns Z) with
    | none => rw [h1] at h2; rw [r_end_n h1, r_end_n h2]
    | some v =>
      obtain ⟨s, c, u, d⟩ := v
      rw [h1] at h2
      cases ht : r_tb Z s c with
      | true =>
        have e : r_2 (r_upd p (r_a Z s) (2 * (Z 41 (6 * s + 1)).toInt * 1 - p (r_a Z s))) = r_upd (r_2 p) (r_a Z s) (2 * (Z 41 (6 * s + 1)).toInt * 2 - r_2 p (r_a Z s)) := by
          funext a
          show 2 * (if a = r_a Z s then _ else p a) = if a = r_a Z s then _ else 2 * p a
          by_cases hq : a = r_a Z s
          · rw [if_pos hq, if_pos hq]; show _ = _ - 2 * p (r_a Z s); omega
          · rw [if_neg hq, if_neg hq]
        rw [r_end_s h1 ht rfl rfl, r_end_s h2 ht e rfl, ih]
      | false => rw [r_end_e h1 ht, r_end_e h2 ht]
theorem r_best_9 (Z : x_I) (fine : Int) (p q : Nat → Int) (lu ld : Int) : ∀ n, r_best Z fine p q lu ld (-1) n = r_best Z fine p q lu ld (-9) n
  | 0 => rfl
  | n + 1 => by
    unfold r_best
    rw [r_best_9 Z fine p q lu ld n, if_neg (by omega), if_neg (by omega)]
theorem r_end_9 (Z : x_I) (fine : Int) : ∀ (k : Nat) (p q : Nat → Int) (lu ld : Int), r_end Z fine (-1) k p q lu ld = r_end Z fine (-9) k p q lu ld := by
  intro k
  induction k with
  | zero => intro p q lu ld; rw [r_end, r_end, r_best_9]
  | succ k ih =>
    intro p q lu ld
    have h2 := r_best_9 Z fine p q lu ld (m_ns Z)
    cases h1 : r_best Z fine p q lu ld (-9) (m_ns Z) with
    | none => rw [h1] at h2; rw [r_end_n h1, r_end_n h2]
    | some v =>
      obtain ⟨s, c, u, d⟩ := v
      rw [h1] at h2
      cases ht : r_tb Z s c with
      | true => rw [r_end_s h1 ht rfl rfl, r_end_s h2 ht rfl rfl, ih]
      | false => rw [r_end_e h1 ht, r_end_e h2 ht]
theorem r_end_0q {Z : x_I} {fine w : Int} {p q : Nat → Int} {lu ld : Int} (hfo : ∀ s, s < m_ns Z → m_fo Z s) (hq : ∀ a, a < 3 → q a = 0) (k : Nat) : r_end Z fine w k p q lu ld = (none, 0) := by
  have : ∀ n, n ≤ m_ns Z → r_best Z fine p q lu ld w n = none := by
    intro n
    induction n with
    | zero => intro _; rfl
    | succ n ih =>
      intro hn
      unfold r_best
      rw [ih (by omega), r_com_n (Or.inl (hq _ (r_a_lt (hfo n (by omega)))))]
      split <;> rfl
  exact r_end_n (this _ (Nat.le_refl _))

