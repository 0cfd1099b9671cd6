/-! The bigger scratch: all of the reference's memory that means nothing between calls. -/
def mF (a k : Nat) : Bool := (Nat.ble 48 a && Nat.ble a 52) || ((Nat.ble 55 a && Nat.ble a 62) || (Nat.beq a 39 && ((Nat.ble 14 k && Nat.ble k 20) || (Nat.beq k 28 || (Nat.beq k 37 || Nat.beq k 38)))))
theorem mE_mF {a k : Nat} (h : mF a k = false) : mE a k = false := by
  by_cases h2 : mE a k = true
  · exfalso
    have : mF a k = true := by
      simp only [mE, mF, Bool.or_eq_true, Bool.and_eq_true, Nat.beq_eq, Nat.ble_eq] at h2 ⊢
      omega
    rw [this] at h
    cases h
  · exact Bool.eq_false_iff.mpr h2
theorem x_ex.up {I I' : x_I} {J J' : x_J} (h : x_ex mE I I' J J') : x_ex mF I I' J J' := fun a k hk => h a k (mE_mF hk)

theorem r_ray_cgF {Z Z' : x_I} {J J' : x_J} (h : x_ex mF Z Z' J J') (hfo : ∀ s, s < m_ns Z → m_fo Z s) {fine w x y z a b c : Int} (hf : fine = 1 ∨ fine = 2) (hp : (-90 ≤ x ∧ x ≤ 90) ∧ (-90 ≤ y ∧ y ≤ 90) ∧ (-90 ≤ z ∧ z ≤ 90)) (hq : (-100 ≤ a ∧ a ≤ 100) ∧ (-100 ≤ b ∧ b ≤ 100) ∧ (-100 ≤ c ∧ c ≤ 100)) : r_ray Z' fine w x y z a b c = r_ray Z fine w x y z a b c :=
  r_end_cg (fun j => h.i 41 j rfl) (fun s _ => h.i 40 s rfl) (fun s j _ _ => h.i 42 _ rfl) (h.i 39 2 rfl) hfo hf 3 0 rfl (fun k _ => by have := r3_in (k := k) hp.1 hp.2.1 hp.2.2; omega) (fun k _ => r3_in hq.1 hq.2.1 hq.2.2 k)
theorem x_ns_cgF {Z Z' : x_I} {J J' : x_J} (h : x_ex mF Z Z' J J') : m_ns Z' = m_ns Z := by unfold m_ns; rw [h.i 39 2 rfl]
theorem x_hn_cgF {Z Z' : x_I} {J J' : x_J} (h : x_ex mF Z Z' J J') (hn : 0 ≤ (Z 39 2).toInt ∧ (Z 39 2).toInt ≤ 10) : 0 ≤ (Z' 39 2).toInt ∧ (Z' 39 2).toInt ≤ 10 := by rw [h.i 39 2 rfl]; exact hn
theorem x_fo_cgF {Z Z' : x_I} {J J' : x_J} (h : x_ex mF Z Z' J J') {s : Nat} (hf : m_fo Z s) : m_fo Z' s := m_fo_cg (fun j => h.i 41 j rfl) hf
theorem x_fos_cgF {Z Z' : x_I} {J J' : x_J} (h : x_ex mF Z Z' J J') (hf : ∀ s, s < m_ns Z → m_fo Z s) : ∀ s, s < m_ns Z' → m_fo Z' s := fun s hs => x_fo_cgF h (hf s (by rw [x_ns_cgF h] at hs; exact hs))
theorem x_ce_cgF {Z Z' : x_I} {J J' : x_J} (h : x_ex mF Z Z' J J') (s : Nat) : m_ce Z' s = m_ce Z s := by unfold m_ce; rw [h.i 41 _ rfl, h.i 41 _ rfl]
theorem r_seen_cgF {Z Z' : x_I} {J J' : x_J} (h : x_ex mF Z Z' J J') {x y z : Int} {j : Nat} (hpl : (0 ≤ x ∧ x ≤ 40) ∧ (0 ≤ y ∧ y ≤ 40) ∧ (0 ≤ z ∧ z ≤ 40)) (hbo : m_fo Z 10) (hj : (j : Int) < m_ce Z 10) (hfo : ∀ s, s < m_ns Z → m_fo Z s) : r_seen Z' x y z j = r_seen Z x y z j := by
  have m0 := r_mid_in hbo hj 0
  have m1 := r_mid_in hbo hj 1
  have m2 := r_mid_in hbo hj 2
  have e := fun k => r_mid_cg (fun j => h.i 41 j rfl) 10 j k
  unfold r_seen
  simp only [e]
  rw [r_ray_cgF h hfo (Or.inl rfl) (by omega) (by omega)]
theorem g_es_cgF {Z Z' : x_I} {J J' : x_J} (h : x_ex mF Z Z' J J') (he : g_es Z) : g_es Z' := fun k hk => by rw [h.i 43 k rfl]; exact he k hk
theorem r_sby_cgF {Z Z' : x_I} {J J' : x_J} (h : x_ex mF Z Z' J J') {e j : Nat} (he : e < 4) (hes : g_es Z) (hbo : m_fo Z 10) (hj : (j : Int) < m_ce Z 10) (hfo : ∀ s, s < m_ns Z → m_fo Z s) : r_sby Z' e j = r_sby Z e j := by
  unfold r_sby
  rw [h.i 43 _ rfl, h.i 43 _ rfl, h.i 43 _ rfl]
  exact r_seen_cgF h ⟨hes _ (by omega), hes _ (by omega), hes _ (by omega)⟩ hbo hj hfo
theorem w_nm_cgF {Z Z' : x_I} {J J' : x_J} (h : x_ex mF Z Z' J J') {e : Nat} {d : Int} {k j : Nat} (hok : s_ok Z e d k) (he : e < 4) (hbo : m_fo Z 10) (hj : (j : Int) < m_ce Z 10) (hfo : ∀ s, s < m_ns Z → m_fo Z s) : w_nm Z' e (s_x Z e d k) (s_y Z e d k) (s_z Z e d k) j = w_nm Z e (s_x Z e d k) (s_y Z e d k) (s_z Z e d k) j := by
  unfold w_nm w_is
  rw [r_seen_cgF h hok hbo hj hfo, h.i 44 _ rfl]
  congr 2
  unfold w_met
  split
  · rfl
  · rw [h.i 42 _ rfl]

/-- a vote: wish j of eye e is a vote at place a of the votes -/
def v_at (Z : x_I) (a e j : Nat) : Bool := w_is Z e j && (match (r_sby Z e j).1 with
  | none => false
  | some (s, c) => decide (10 * (64 * s + c) + x_k (Z 44 (64 * e + j)) = a))
def v_al (Z : x_I) (set : Int32) (a e : Nat) : Nat := x_sm (w_sum Z (v_at Z a) set) e
def b_be (f : Nat → Nat) : Nat → Nat
  | 0 => 0
  | k + 1 => if f (b_be f k) < f k then k else b_be f k
theorem b_be_lt (f : Nat → Nat) : ∀ k, b_be f (k + 1) < k + 1
  | 0 => by simp [b_be]
  | k + 1 => by have := b_be_lt f k; rw [b_be]; split <;> omega
def v_pa (Z : x_I) (set : Int32) (q : Nat) : Int32 := nI (b_be (fun c => v_al Z set (10 * q + c) 4) 10)
def z_pa1 (I : x_I) : x_I := m_nb (x_fi I 42 0 640 0)
noncomputable def z_painting (I : x_I) (set : Int32) : x_I := x_if (0 ≤ set.toInt ∧ set.toInt ≤ 15) (x_fg (z_pa1 I) 42 0 640 (v_pa (z_pa1 I) set)) I
noncomputable def q_painting (I : x_I) (set : Int32) : Int32 := x_if (0 ≤ set.toInt ∧ set.toInt ≤ 15) (nI (x_sm (m_pa (z_painting I set)) (m_ns (z_painting I set)))) (-2)
def g_pc (Z : x_I) : Prop := ∀ k, k < 256 → 0 ≤ (Z 44 k).toInt ∧ (Z 44 k).toInt ≤ 9
theorem v_al_le (Z : x_I) (set : Int32) (a e N : Nat) (hN : (m_ce Z 10).toNat = N) : v_al Z set a e ≤ e * N := x_sm_le e (fun k _ => by
  unfold w_sum
  rw [hN]
  split
  · exact x_ct_le _ _
  · exact Nat.zero_le _)
theorem x_ex.fi {E : Nat → Nat → Bool} {I I' : x_I} {J J' : x_J} {a lo k : Nat} {v : Int32} (h : x_ex E I I' J J') (he : ∀ j, E a j = true) : x_ex E I (x_fi I' a lo k v) J J' := fun b j hj => by
  refine ⟨?_, (h b j hj).2⟩
  rw [x_fi_na _ _ _ _ _ (fun z => by subst z; rw [he j] at hj; cases hj)]
  exact (h b j hj).1
theorem x_ex.uiF {I I' : x_I} {J J' : x_J} {k : Nat} {v : Int32} (h : x_ex mF I I' J J') : x_ex mF I (x_u2 I' 51 k v) J J' := h.ui rfl

