/-! Sway. -/
def w_nm (Z : x_I) (e : Nat) (x y z : Int) (j : Nat) : Bool := w_is Z e j && !(w_met Z (r_seen Z x y z j).1 (Z 44 (64 * e + j)))
def s_x (Z : x_I) (e : Nat) (d : Int) (k : Nat) : Int := (Z 43 (3 * e)).toInt + d * ((k / 9 : Nat) - 1 : Int)
def s_y (Z : x_I) (e : Nat) (d : Int) (k : Nat) : Int := (Z 43 (3 * e + 1)).toInt + d * ((k / 3 % 3 : Nat) - 1 : Int)
def s_z (Z : x_I) (e : Nat) (d : Int) (k : Nat) : Int := (Z 43 (3 * e + 2)).toInt + d * ((k % 3 : Nat) - 1 : Int)
def s_ok (Z : x_I) (e : Nat) (d : Int) (k : Nat) : Prop := (0 ≤ s_x Z e d k ∧ s_x Z e d k ≤ 40) ∧ (0 ≤ s_y Z e d k ∧ s_y Z e d k ≤ 40) ∧ (0 ≤ s_z Z e d k ∧ s_z Z e d k ≤ 40)
def s_n (Z : x_I) (e : Nat) (d : Int) (k : Nat) : Nat := x_ct (w_nm Z e (s_x Z e d k) (s_y Z e d k) (s_z Z e d k)) (m_ce Z 10).toNat
def s_up (o : Option (Nat × Int × Int × Int)) (v : Nat × Int × Int × Int) : Option (Nat × Int × Int × Int) := match o with
  | none => some v
  | some w => if w.1 < v.1 then some v else some w
noncomputable def s_w (Z : x_I) (e : Nat) (d : Int) : Nat → Option (Nat × Int × Int × Int)
  | 0 => none
  | k + 1 => x_if (s_ok Z e d k) (s_up (s_w Z e d k) (s_n Z e d k, s_x Z e d k, s_y Z e d k, s_z Z e d k)) (s_w Z e d k)
/-- what the words of a run so far are -/
def s_rel (o : Option (Nat × Int × Int × Int)) (w x y z : Int32) : Prop := match o with
  | none => w = -1 ∧ x = nI 0 ∧ y = nI 0 ∧ z = nI 0
  | some v => w = nI v.1 ∧ x.toInt = v.2.1 ∧ y.toInt = v.2.2.1 ∧ z.toInt = v.2.2.2 ∧ v.1 ≤ 64
def s_ans (o : Option (Nat × Int × Int × Int)) (what : Int) : Int := match o with
  | none => -1
  | some v => if what = 0 then v.1 else if what = 1 then v.2.1 else if what = 2 then v.2.2.1 else v.2.2.2
theorem s_some {Z : x_I} {e : Nat} {d : Int} (h : s_ok Z e d 13) : ∀ k, 13 < k → ∃ v, s_w Z e d k = some v := by
  intro k hk
  induction k with
  | zero => omega
  | succ k ih =>
    unfold s_w
    by_cases hk2 : k = 13
    · subst hk2
      rw [x_if_t h]
      cases s_w Z e d 13 with
      | none => exact ⟨_, rfl⟩
      | some w => unfold s_up; simp only; split <;> exact ⟨_, rfl⟩
    · obtain ⟨v, hv⟩ := ih (by omega)
      rw [hv]
      by_cases ho : s_ok Z e d k
      · rw [x_if_t ho]; unfold s_up; simp only; split <;> exact ⟨_, rfl⟩
      · rw [x_if_f ho]; exact ⟨_, rfl⟩
theorem s_ok13 {Z : x_I} {e : Nat} {d : Int} (he : e < 4) (hes : g_es Z) : s_ok Z e d 13 := by
  have h1 := hes (3 * e) (by omega)
  have h2 := hes (3 * e + 1) (by omega)
  have h3 := hes (3 * e + 2) (by omega)
  unfold s_ok s_x s_y s_z
  have e1 : ((13 / 9 : Nat) - 1 : Int) = 0 := by decide
  have e2 : ((13 / 3 % 3 : Nat) - 1 : Int) = 0 := by decide
  have e3 : ((13 % 3 : Nat) - 1 : Int) = 0 := by decide
  simp only [e1, e2, e3, Int.mul_zero, Int.add_zero]
  exact ⟨h1, h2, h3⟩
noncomputable def q_sway (I : x_I) (e d what : Int32) : Int := x_if (¬ g_ey e) (-1) (x_if (¬ ((1 ≤ d.toInt ∧ d.toInt ≤ 9) ∧ 0 ≤ what.toInt ∧ what.toInt ≤ 3)) (-2) (s_ans (s_w (m_nb I) (x_k e) d.toInt 27) what.toInt))
noncomputable def z_sway (I : x_I) (e d what : Int32) : x_I := x_if (¬ g_ey e) I (x_if (¬ ((1 ≤ d.toInt ∧ d.toInt ≤ 9) ∧ 0 ≤ what.toInt ∧ what.toInt ≤ 3)) I (m_nb I))
