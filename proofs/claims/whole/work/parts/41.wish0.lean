/-! Wishes: what is seen for them. -/
theorem r_seen_in {Z : x_I} {x y z : Int} {j : Nat} (hpl : (0 ≤ x ∧ x ≤ 40) ∧ (0 ≤ y ∧ y ≤ 40) ∧ (0 ≤ z ∧ z ≤ 40)) (hbo : m_fo Z 10) (hj : (j : Int) < m_ce Z 10) (hfo : ∀ s, s < m_ns Z → m_fo Z s) {s c : Nat} (h : (r_seen Z x y z j).1 = some (s, c)) : s < m_ns Z ∧ (c : Int) < m_ce Z s ∧ c < 64 ∧ r_tb Z s c = false := by
  unfold r_seen at h
  split at h
  · cases h
  · have m0 := r_mid_in hbo hj 0
    have m1 := r_mid_in hbo hj 1
    have m2 := r_mid_in hbo hj 2
    have := (r_ans_in hfo (Or.inl rfl) 3 0 rfl (p := r3 x y z) (q := r3 (r_mid Z 10 j 0 - 2 * x) (r_mid Z 10 j 1 - 2 * y) (r_mid Z 10 j 2 - 2 * z)) (w := -9) (lu := 0) (ld := 1) (fun k _ => by have := r3_in (k := k) (A := -90) (B := 90) (x := x) (y := y) (z := z) (by omega) (by omega) (by omega); omega) (fun k _ => r3_in (by omega) (by omega) (by omega) k)).2 h
    exact ⟨this.1, this.2.1, this.2.2.1, this.2.2.2.1⟩
theorem r_seen_cg {Z Z' : x_I} {J J' : x_J} (h : x_ex mE Z Z' J J') {x y z : Int} {j : Nat} (hpl : (0 ≤ x ∧ x ≤ 40) ∧ (0 ≤ y ∧ y ≤ 40) ∧ (0 ≤ z ∧ z ≤ 40)) (hbo : m_fo Z 10) (hj : (j : Int) < m_ce Z 10) (hfo : ∀ s, s < m_ns Z → m_fo Z s) : r_seen Z' x y z j = r_seen Z x y z j := by
  have m0 := r_mid_in hbo hj 0
  have m1 := r_mid_in hbo hj 1
  have m2 := r_mid_in hbo hj 2
  have e := fun k => r_mid_cg (fun j => h.i 41 j rfl) 10 j k
  unfold r_seen
  simp only [e]
  rw [r_ray_cg h hfo (Or.inl rfl) (by omega) (by omega)]
def g_es (Z : x_I) : Prop := ∀ k, k < 12 → 0 ≤ (Z 43 k).toInt ∧ (Z 43 k).toInt ≤ 40
theorem g_es_cg {Z Z' : x_I} {J J' : x_J} (h : x_ex mE Z Z' J J') (he : g_es Z) : g_es Z' := fun k hk => by rw [h.i 43 k rfl]; exact he k hk
theorem r_sby_in {Z : x_I} {e j : Nat} (he : e < 4) (hes : g_es Z) (hbo : m_fo Z 10) (hj : (j : Int) < m_ce Z 10) (hfo : ∀ s, s < m_ns Z → m_fo Z s) {s c : Nat} (h : (r_sby Z e j).1 = some (s, c)) : s < m_ns Z ∧ (c : Int) < m_ce Z s ∧ c < 64 ∧ r_tb Z s c = false :=
  r_seen_in ⟨hes _ (by omega), hes _ (by omega), hes _ (by omega)⟩ hbo hj hfo h
theorem r_sby_cg {Z Z' : x_I} {J J' : x_J} (h : x_ex mE Z Z' J J') {e j : Nat} (he : e < 4) (hes : g_es Z) (hbo : m_fo Z 10) (hj : (j : Int) < m_ce Z 10) (hfo : ∀ s, s < m_ns Z → m_fo Z s) : r_sby Z' e j = r_sby Z e j := by
  unfold r_sby
  rw [h.i 43 _ rfl, h.i 43 _ rfl, h.i 43 _ rfl]
  exact r_seen_cg h ⟨hes _ (by omega), hes _ (by omega), hes _ (by omega)⟩ hbo hj hfo
/-- a wish: not bare in the eye's picture -/
def w_is (Z : x_I) (e j : Nat) : Bool := decide (¬ (Z 44 (64 * e + j)).toInt = 0)
def w_met (Z : x_I) (o : Option (Nat × Nat)) (v : Int32) : Bool := match o with
  | none => false
  | some (s, c) => decide ((Z 42 (64 * s + c)).toInt = v.toInt)
def w_p1 (Z : x_I) (e j : Nat) : Bool := w_is Z e j && w_met Z (r_sby Z e j).1 (Z 44 (64 * e + j))
def w_p2 (Z : x_I) (e j : Nat) : Bool := w_is Z e j && (r_sby Z e j).1.isNone
def x_bt (set : Int32) (e : Nat) : Int := (set >>> (nI e &&& 31) &&& nI 1).toInt
def w_sum (Z : x_I) (f : Nat → Nat → Bool) (set : Int32) (e : Nat) : Nat := if x_bt set e = 1 then x_ct (f e) (m_ce Z 10).toNat else 0
noncomputable def q_wishes0 (Z : x_I) (set what : Int32) : Int32 := x_if (what.toInt = 0) (nI (x_sm (w_sum Z (w_is Z) set) 4)) (x_if (what.toInt = 1) (nI (x_sm (w_sum Z (w_p1 Z) set) 4)) (x_if (what.toInt = 2) (nI (x_sm (w_sum Z (w_p2 Z) set) 4)) (nI (x_sm (w_sum Z (w_is Z) set) 4) - nI (x_sm (w_sum Z (w_p1 Z) set) 4) - nI (x_sm (w_sum Z (w_p2 Z) set) 4))))
noncomputable def q_wishes (I : x_I) (set what : Int32) : Int32 := x_if ((0 ≤ set.toInt ∧ set.toInt ≤ 15) ∧ 0 ≤ what.toInt ∧ what.toInt ≤ 3) (q_wishes0 (m_nb I) set what) (-2)
noncomputable def z_wishes (I : x_I) (set what : Int32) : x_I := x_if ((0 ≤ set.toInt ∧ set.toInt ≤ 15) ∧ 0 ≤ what.toInt ∧ what.toInt ≤ 3) (m_nb I) I
theorem x_sm_s (f : Nat → Nat) (e : Nat) : x_sm f (e + 1) = x_sm f e + f e := rfl
