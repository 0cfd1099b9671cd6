def r_rel (b : Option (Nat × Nat × Int × Int)) (x1 x2 : Int32) (x3 x5 : Int64) : Prop := match b with
  | none => x1 = -9
  | some (s, c, u, d) => x1 = nI s ∧ x2 = nI c ∧ x3.toInt = u ∧ x5.toInt = d
theorem r_com_in {Z : x_I} {fine : Int} {p q : Nat → Int} {lu ld : Int} {s c : Nat} {u d : Int} (hfo : m_fo Z s) (hp : ∀ a, a < 3 → -1000 ≤ p a ∧ p a ≤ 1000) (hq : ∀ a, a < 3 → -100 ≤ q a ∧ q a ≤ 100) (hf : fine = 1 ∨ fine = 2) (h : r_com Z fine p q lu ld s = some (c, u, d)) :
    (c : Int) < m_ce Z s ∧ c < 64 ∧ (-2000 ≤ u ∧ u ≤ 2000) ∧ (1 ≤ d ∧ d ≤ 100) := by
  have hm := m_ce_eq hfo
  have hm2 := m_ce_in hfo
  obtain ⟨f0, f1, f2, f3, f4, f5, f6, f7⟩ := hfo
  have ha : r_a Z s < 3 := by unfold r_a x_k; omega
  have b1 := hp _ ha
  have b2 := hq _ ha
  unfold r_com at h
  split at h
  · cases h
  · split at h
    · cases h
    · split at h
      · rename_i h1 h2 h3
        cases h
        have pr : (Z 41 (6 * s + 4)).toInt * r_jj Z fine p q s ≤ (Z 41 (6 * s + 4)).toInt * ((Z 41 (6 * s + 5)).toInt - 1) := Int.mul_le_mul_of_nonneg_left (by omega) (by omega)
        have pr0 : 0 ≤ (Z 41 (6 * s + 4)).toInt * r_jj Z fine p q s := Int.mul_nonneg (by omega) (by omega)
        rw [Int.mul_sub, Int.mul_one] at pr
        have fb := x_pb (a := (Z 41 (6 * s + 1)).toInt) (b := fine) (A := 40) (B := 2) (by omega) (by omega) (by omega) (by omega)
        refine ⟨by omega, by omega, ?_, ?_⟩
        · unfold r_up; split <;> omega
        · unfold r_dn; split <;> omega
      · cases h
theorem r_best_in {Z : x_I} {fine : Int} {p q : Nat → Int} {lu ld w : Int} (hp : ∀ a, a < 3 → -1000 ≤ p a ∧ p a ≤ 1000) (hq : ∀ a, a < 3 → -100 ≤ q a ∧ q a ≤ 100) (hf : fine = 1 ∨ fine = 2) : ∀ (n : Nat), (∀ s, s < n → m_fo Z s) → ∀ {s c : Nat} {u d : Int}, r_best Z fine p q lu ld w n = some (s, c, u, d) →
    s < n ∧ (c : Int) < m_ce Z s ∧ c < 64 ∧ (-2000 ≤ u ∧ u ≤ 2000) ∧ (1 ≤ d ∧ d ≤ 100)
  | 0, _, s, c, u, d, h => by cases h
  | n + 1, hfo, s, c, u, d, h => by
    have ih := fun {s c : Nat} {u d : Int} (h : r_best Z fine p q lu ld w n = some (s, c, u, d)) => r_best_in hp hq hf n (fun s hs => hfo s (by omega)) h
    unfold r_best at h
    by_cases hw : (n : Int) = w
    · rw [if_pos hw] at h
      have := ih h
      exact ⟨by omega, this.2⟩
    · rw [if_neg hw] at h
      cases hc : r_com Z fine p q lu ld n with
      | none =>
        rw [hc] at h
        have := ih h
        exact ⟨by omega, this.2⟩
      | some v =>
        obtain ⟨c1, u1, d1⟩ := v
        have hin := r_com_in (hfo n (by omega)) hp hq hf hc
        rw [hc] at h
        cases hb : r_best Z fine p q lu ld w n with
        | none =>
          rw [hb] at h
          cases h
          exact ⟨by omega, hin⟩
        | some v2 =>
          obtain ⟨s2, c2, u2, d2⟩ := v2
          rw [hb] at h
          unfold r_pick at h
          simp only at h
          split at h
          · cases h
            exact ⟨by omega, hin⟩
          · cases h
            have := ih hb
            exact ⟨by omega, this.2⟩
theorem r_best_w {Z : x_I} {fine : Int} {p q : Nat → Int} {lu ld w : Int} {s : Nat} (h : (s : Int) = w) : r_best Z fine p q lu ld w (s + 1) = r_best Z fine p q lu ld w s := by
  show r_pick _ _ _ = _
  rw [if_pos h]; rfl
theorem r_best_n {Z : x_I} {fine : Int} {p q : Nat → Int} {lu ld w : Int} {s : Nat} (h : ¬ (s : Int) = w) (hc : r_com Z fine p q lu ld s = none) : r_best Z fine p q lu ld w (s + 1) = r_best Z fine p q lu ld w s := by
  show r_pick _ _ _ = _
  rw [if_neg h, hc]; rfl
theorem r_best_f {Z : x_I} {fine : Int} {p q : Nat → Int} {lu ld w : Int} {s c : Nat} {u d : Int} (h : ¬ (s : Int) = w) (hc : r_com Z fine p q lu ld s = some (c, u, d)) (hb : r_best Z fine p q lu ld w s = none) : r_best Z fine p q lu ld w (s + 1) = some (s, c, u, d) := by
  show r_pick _ _ _ = _
  rw [if_neg h, hc, hb]; rfl
theorem r_best_l {Z : x_I} {fine : Int} {p q : Nat → Int} {lu ld w : Int} {s c s2 c2 : Nat} {u d u2 d2 : Int} (h : ¬ (s : Int) = w) (hc : r_com Z fine p q lu ld s = some (c, u, d)) (hb : r_best Z fine p q lu ld w s = some (s2, c2, u2, d2)) (hl : u * d2 < u2 * d) : r_best Z fine p q lu ld w (s + 1) = some (s, c, u, d) := by
  show r_pick _ _ _ = _
  rw [if_neg h, hc, hb]; show (if _ then _ else _) = _; rw [if_pos hl]
theorem r_best_g {Z : x_I} {fine : Int} {p q : Nat → Int} {lu ld w : Int} {s c s2 c2 : Nat} {u d u2 d2 : Int} (h : ¬ (s : Int) = w) (hc : r_com Z fine p q lu ld s = some (c, u, d)) (hb : r_best Z fine p q lu ld w s = some (s2, c2, u2, d2)) (hl : ¬ u * d2 < u2 * d) : r_best Z fine p q lu ld w (s + 1) = r_best Z fine p q lu ld w s := by
  show r_pick _ _ _ = _
  rw [if_neg h, hc, hb]; show (if _ then _ else _) = _; rw [if_neg hl]
theorem r_best_cg {Z Z' : x_I} (h : ∀ j, Z' 41 j = Z 41 j) (fine : Int) (p q : Nat → Int) (lu ld w : Int) : ∀ n, r_best Z' fine p q lu ld w n = r_best Z fine p q lu ld w n
  | 0 => rfl
  | n + 1 => by unfold r_best; rw [r_best_cg h fine p q lu ld w n, r_com_cg h]
