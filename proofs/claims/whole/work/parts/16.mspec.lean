/-! The reference's memory: what holds of it between calls. -/
def m_fo (I : x_I) (s : Nat) : Prop := (0 ≤ (I 41 (6 * s)).toInt ∧ (I 41 (6 * s)).toInt ≤ 2) ∧ (0 ≤ (I 41 (6 * s + 1)).toInt ∧ (I 41 (6 * s + 1)).toInt ≤ 40) ∧ 0 ≤ (I 41 (6 * s + 2)).toInt ∧ 0 ≤ (I 41 (6 * s + 3)).toInt ∧
  (1 ≤ (I 41 (6 * s + 4)).toInt ∧ (I 41 (6 * s + 4)).toInt ≤ 8) ∧ (1 ≤ (I 41 (6 * s + 5)).toInt ∧ (I 41 (6 * s + 5)).toInt ≤ 8) ∧ (I 41 (6 * s + 2)).toInt + (I 41 (6 * s + 4)).toInt ≤ 40 ∧ (I 41 (6 * s + 3)).toInt + (I 41 (6 * s + 5)).toInt ≤ 40
def m_ce (I : x_I) (s : Nat) : Int := (I 41 (6 * s + 4) * I 41 (6 * s + 5)).toInt
theorem m_ce_eq {I : x_I} {s : Nat} (h : m_fo I s) : m_ce I s = (I 41 (6 * s + 4)).toInt * (I 41 (6 * s + 5)).toInt := by
  obtain ⟨-, -, -, -, h4, h5, -, -⟩ := h
  have := x_pb (a := (I 41 (6 * s + 4)).toInt) (b := (I 41 (6 * s + 5)).toInt) (A := 8) (B := 8) (by omega) (by omega) (by omega) (by omega)
  exact x_mul (by omega) (by omega)
theorem m_ce_in {I : x_I} {s : Nat} (h : m_fo I s) : 1 ≤ m_ce I s ∧ m_ce I s ≤ 64 := by
  rw [m_ce_eq h]
  obtain ⟨-, -, -, -, h4, h5, -, -⟩ := h
  have h1 := x_pb (a := (I 41 (6 * s + 4)).toInt) (b := (I 41 (6 * s + 5)).toInt) (A := 8) (B := 8) (by omega) (by omega) (by omega) (by omega)
  have h2 : 0 < (I 41 (6 * s + 4)).toInt * (I 41 (6 * s + 5)).toInt := Int.mul_pos (by omega) (by omega)
  omega
def m_lay (I : x_I) (k : Nat) (a c u v w h : Int32) : x_I := x_u2 (x_u2 (x_u2 (x_u2 (x_u2 (x_u2 I 41 (6 * k) a) 41 (6 * k + 1) c) 41 (6 * k + 2) u) 41 (6 * k + 3) v) 41 (6 * k + 4) w) 41 (6 * k + 5) h
def m_isf (a c u v w h : Int) : Prop := (0 ≤ a ∧ a ≤ 2) ∧ (0 ≤ c ∧ c ≤ 40) ∧ (1 ≤ w ∧ w ≤ 8) ∧ (1 ≤ h ∧ h ≤ 8) ∧ (0 ≤ u ∧ u ≤ 40 - w) ∧ (0 ≤ v ∧ v ≤ 40 - h)
theorem x_s40 {w : Int32} (h : 1 ≤ w.toInt ∧ w.toInt ≤ 8) : (nI 40 - w).toInt = 40 - w.toInt := by
  have e : (nI 40).toInt = 40 := by decide
  rw [x_sub (by omega) (by omega), e]
def m_ag (la lo lane i n e : Int) : Nat := if la ≠ -9 ∧ la ≠ lane then 2 else if la = -9 then 1 else if n < 0 then 4 else if i < 0 ∨ lo < i ∨ lo - i < n * e then 3 else 0
/-- the board, as it is once it is needed -/
def m_nb (I : x_I) : x_I := if I 39 8 = 0 then m_lay (x_u2 I 39 8 (nI 1)) 10 (nI 2) (nI 20) (nI 0) (nI 0) (nI 1) (nI 1) else I
