theorem x_fg_t {α : Type} {I : Nat → Nat → α} {a lo k : Nat} {g : Nat → α} {v : α} (hv : v = g k) : x_u2 (x_fg I a lo k g) a (lo + k) v = x_fg I a lo (k + 1) g := by rw [hv]; exact x_fg_s I a lo k g
theorem m_nb_at (I : x_I) {a k : Nat} (h : a ≠ 41) (h2 : ¬ (a = 39 ∧ k = 8)) : m_nb I a k = I a k := by
  unfold m_nb m_lay
  split
  · simp only [x_u2_at]
    rw [if_neg (by omega), if_neg (by omega), if_neg (by omega), if_neg (by omega), if_neg (by omega), if_neg (by omega), if_neg (by omega)]
  · rfl
theorem m_nb_fl (I : x_I) {s j : Nat} (h : s < 10) (hj : j < 6) : m_nb I 41 (6 * s + j) = I 41 (6 * s + j) := by
  unfold m_nb m_lay
  split
  · simp only [x_u2_at]
    rw [if_neg (by omega), if_neg (by omega), if_neg (by omega), if_neg (by omega), if_neg (by omega), if_neg (by omega), if_neg (by omega)]
  · rfl
def g_cl (x : Int32) : Prop := 0 ≤ x.toInt ∧ x.toInt ≤ 9
noncomputable def q_pic1 (I : x_I) (sh i N : Nat) : Int32 := x_if (∃ j, j < N ∧ ¬ g_cl (I 47 (64 * sh + i + j))) (-2) (nI (x_ct (fun j => decide (0 < (I 47 (64 * sh + i + j)).toInt)) N))
noncomputable def z_pic1 (I : x_I) (e sh i N : Nat) : x_I := x_if (∃ j, j < N ∧ ¬ g_cl (I 47 (64 * sh + i + j))) I (x_fg I 44 (64 * e) N (fun j => I 47 (64 * sh + i + j)))
noncomputable def q_pic2 (I : x_I) (sh lane i : Int32) : Int32 := x_if (¬ m_ag (I 45 (x_k sh)).toInt (I 46 (x_k sh)).toInt lane.toInt i.toInt (m_ce I 10) 1 = 0) (-10 - nI (m_ag (I 45 (x_k sh)).toInt (I 46 (x_k sh)).toInt lane.toInt i.toInt (m_ce I 10) 1)) (q_pic1 I (x_k sh) (x_k i) (m_ce I 10).toNat)
noncomputable def z_pic2 (I : x_I) (e sh lane i : Int32) : x_I := x_if (¬ m_ag (I 45 (x_k sh)).toInt (I 46 (x_k sh)).toInt lane.toInt i.toInt (m_ce I 10) 1 = 0) (x_u2 I 39 0 (nI (m_ag (I 45 (x_k sh)).toInt (I 46 (x_k sh)).toInt lane.toInt i.toInt (m_ce I 10) 1))) (z_pic1 I (x_k e) (x_k sh) (x_k i) (m_ce I 10).toNat)
noncomputable def q_picture (I : x_I) (e sh lane i : Int32) : Int32 := x_if (¬ (g_ey e ∧ g_ey sh)) (-1) (x_if (¬ (0 ≤ lane.toInt ∧ lane.toInt ≤ 2)) (-2) (q_pic2 (m_nb (x_u2 I 39 0 (nI 0))) sh lane i))
noncomputable def z_picture (I : x_I) (e sh lane i : Int32) : x_I := x_if (¬ (g_ey e ∧ g_ey sh)) (x_u2 I 39 0 (nI 0)) (x_if (¬ (0 ≤ lane.toInt ∧ lane.toInt ≤ 2)) (x_u2 I 39 0 (nI 0)) (z_pic2 (m_nb (x_u2 I 39 0 (nI 0))) e sh lane i))
theorem x_m10 {f : Nat} (h : f ≤ 4) : (-10 - nI f).toInt = -10 - (f : Int) := by
  have e : (-10 : Int32).toInt = -10 := by decide
  have e2 := x_ti (k := f) (by omega)
  rw [x_sub (by omega) (by omega)]; omega
theorem m_ag_le (a b c d e f : Int) : m_ag a b c d e f ≤ 4 := by
  unfold m_ag
  repeat' split
  all_goals omega
theorem m_ag_0 {la lo lane i n e : Int} (h : m_ag la lo lane i n e = 0) : la ≠ -9 ∧ la = lane ∧ 0 ≤ n ∧ 0 ≤ i ∧ i ≤ lo ∧ n * e ≤ lo - i := by
  unfold m_ag at h
  repeat' split at h
  all_goals omega
def g_pair (I : x_I) (sh i j : Nat) : Prop := g_ce I (I 47 (64 * sh + i + 2 * j)) (I 47 (64 * sh + i + 2 * j + 1))
/-- where a pair points -/
def m_to (I : x_I) (t sh i j : Nat) : Nat := 640 * t + 64 * x_k (I 47 (64 * sh + i + 2 * j)) + x_k (I 47 (64 * sh + i + 2 * j + 1))
/-- how many unlike ones, and the row, behind the first j pairs -/
def z_wr (I : x_I) (t sh i : Nat) : Nat → x_I
  | 0 => x_fi I 54 (640 * t) 640 0
  | j + 1 => x_u2 (z_wr I t sh i j) 54 (m_to I t sh i j) (nI 1)
def q_wr (I : x_I) (t sh i : Nat) : Nat → Nat
  | 0 => 0
  | j + 1 => q_wr I t sh i j + (if (z_wr I t sh i j 54 (m_to I t sh i j)).toInt = 0 then 1 else 0)
noncomputable def q_wan1 (I : x_I) (t sh i N : Nat) : Int32 := x_if (∃ j, j < N ∧ ¬ g_pair I sh i j) (-1) (nI (q_wr I t sh i N))
noncomputable def z_wan1 (I : x_I) (t sh i N : Nat) : x_I := x_if (∃ j, j < N ∧ ¬ g_pair I sh i j) I (z_wr I t sh i N)
noncomputable def q_wanted (I : x_I) (t sh lane i m : Int32) : Int32 := x_if (¬ (g_hr I t ∧ g_ey sh)) (-1) (x_if (¬ (0 ≤ lane.toInt ∧ lane.toInt ≤ 2)) (-2) (x_if (¬ m_ag (I 45 (x_k sh)).toInt (I 46 (x_k sh)).toInt lane.toInt i.toInt m.toInt 2 = 0) (-10 - nI (m_ag (I 45 (x_k sh)).toInt (I 46 (x_k sh)).toInt lane.toInt i.toInt m.toInt 2)) (q_wan1 (x_u2 I 39 0 (nI 0)) (x_k t) (x_k sh) (x_k i) (x_k m))))
noncomputable def z_wanted (I : x_I) (t sh lane i m : Int32) : x_I := x_if (¬ (g_hr I t ∧ g_ey sh)) (x_u2 I 39 0 (nI 0)) (x_if (¬ (0 ≤ lane.toInt ∧ lane.toInt ≤ 2)) (x_u2 I 39 0 (nI 0)) (x_if (¬ m_ag (I 45 (x_k sh)).toInt (I 46 (x_k sh)).toInt lane.toInt i.toInt m.toInt 2 = 0) (x_u2 (x_u2 I 39 0 (nI 0)) 39 0 (nI (m_ag (I 45 (x_k sh)).toInt (I 46 (x_k sh)).toInt lane.toInt i.toInt m.toInt 2))) (z_wan1 (x_u2 I 39 0 (nI 0)) (x_k t) (x_k sh) (x_k i) (x_k m))))
theorem z_wr_na (I : x_I) (t sh i : Nat) {a : Nat} (h : a ≠ 54) (k : Nat) : ∀ j, z_wr I t sh i j a k = I a k
  | 0 => x_fi_na _ _ _ _ _ h
  | j + 1 => by unfold z_wr; rw [x_u2_na _ _ _ _ h, z_wr_na I t sh i h k j]
