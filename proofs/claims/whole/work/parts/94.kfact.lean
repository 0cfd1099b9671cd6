def k_S (S : x_S) : x_S := k_S12 (x_u1 (k_S11 (x_u1 S 1 (.inl 11))) 39 (.inl 12))
def k_P (P : x_P) : x_P := k_P12 (x_u1 (k_P11 (x_u1 P 1 (fun _ => none))) 39 (fun _ => none))
def k_I (I : x_I) : x_I := k_I12 (x_u1 (k_I11 (x_u1 I 1 (fun _ => 0))) 39 (fun _ => 0))
def k_J (J : x_J) : x_J := k_J12 (x_u1 (k_J11 (x_u1 J 1 (fun _ => 0))) 39 (fun _ => 0))

set_option maxRecDepth 100000 in
set_option maxHeartbeats 4000000 in
theorem k_hS (S : x_S) : x_hS (k_S S) := by
  intro a z h
  by_cases q : a < 63
  · rcases (show a = 0 ∨ a = 1 ∨ a = 2 ∨ a = 3 ∨ a = 4 ∨ a = 5 ∨ a = 6 ∨ a = 7 ∨ a = 8 ∨ a = 9 ∨ a = 10 ∨ a = 11 ∨ a = 12 ∨ a = 13 ∨ a = 14 ∨ a = 15 ∨ a = 16 ∨ a = 17 ∨ a = 18 ∨ a = 19 ∨ a = 20 ∨ a = 21 ∨ a = 22 ∨ a = 23 ∨ a = 24 ∨ a = 25 ∨ a = 26 ∨ a = 27 ∨ a = 28 ∨ a = 29 ∨ a = 30 ∨ a = 31 ∨ a = 32 ∨ a = 33 ∨ a = 34 ∨ a = 35 ∨ a = 36 ∨ a = 37 ∨ a = 38 ∨ a = 39 ∨ a = 40 ∨ a = 41 ∨ a = 42 ∨ a = 43 ∨ a = 44 ∨ a = 45 ∨ a = 46 ∨ a = 47 ∨ a = 48 ∨ a = 49 ∨ a = 50 ∨ a = 51 ∨ a = 52 ∨ a = 53 ∨ a = 54 ∨ a = 55 ∨ a = 56 ∨ a = 57 ∨ a = 58 ∨ a = 59 ∨ a = 60 ∨ a = 61 ∨ a = 62 by omega) with rfl | rfl | rfl | rfl | rfl | rfl | rfl | rfl | rfl | rfl | rfl | rfl | rfl | rfl | rfl | rfl | rfl | rfl | rfl | rfl | rfl | rfl | rfl | rfl | rfl | rfl | rfl | rfl | rfl | rfl | rfl | rfl | rfl | rfl | rfl | rfl | rfl | rfl | rfl | rfl | rfl | rfl | rfl | rfl | rfl | rfl | rfl | rfl | rfl | rfl | rfl | rfl | rfl | rfl | rfl | rfl | rfl | rfl | rfl | rfl | rfl | rfl | rfl <;> (cases h; try rfl)
  · unfold x_S0 at h
    rw [show Nat.blt a 63 = false from x_blt (by omega)] at h
    cases h

set_option maxRecDepth 100000 in
set_option maxHeartbeats 4000000 in
theorem k_hP (P : x_P) : x_hP (k_P P) := by
  intro a k r h
  by_cases q : a < 63
  · rcases (show a = 0 ∨ a = 1 ∨ a = 2 ∨ a = 3 ∨ a = 4 ∨ a = 5 ∨ a = 6 ∨ a = 7 ∨ a = 8 ∨ a = 9 ∨ a = 10 ∨ a = 11 ∨ a = 12 ∨ a = 13 ∨ a = 14 ∨ a = 15 ∨ a = 16 ∨ a = 17 ∨ a = 18 ∨ a = 19 ∨ a = 20 ∨ a = 21 ∨ a = 22 ∨ a = 23 ∨ a = 24 ∨ a = 25 ∨ a = 26 ∨ a = 27 ∨ a = 28 ∨ a = 29 ∨ a = 30 ∨ a = 31 ∨ a = 32 ∨ a = 33 ∨ a = 34 ∨ a = 35 ∨ a = 36 ∨ a = 37 ∨ a = 38 ∨ a = 39 ∨ a = 40 ∨ a = 41 ∨ a = 42 ∨ a = 43 ∨ a = 44 ∨ a = 45 ∨ a = 46 ∨ a = 47 ∨ a = 48 ∨ a = 49 ∨ a = 50 ∨ a = 51 ∨ a = 52 ∨ a = 53 ∨ a = 54 ∨ a = 55 ∨ a = 56 ∨ a = 57 ∨ a = 58 ∨ a = 59 ∨ a = 60 ∨ a = 61 ∨ a = 62 by omega) with rfl | rfl | rfl | rfl | rfl | rfl | rfl | rfl | rfl | rfl | rfl | rfl | rfl | rfl | rfl | rfl | rfl | rfl | rfl | rfl | rfl | rfl | rfl | rfl | rfl | rfl | rfl | rfl | rfl | rfl | rfl | rfl | rfl | rfl | rfl | rfl | rfl | rfl | rfl | rfl | rfl | rfl | rfl | rfl | rfl | rfl | rfl | rfl | rfl | rfl | rfl | rfl | rfl | rfl | rfl | rfl | rfl | rfl | rfl | rfl | rfl | rfl | rfl
    · cases h
    · by_cases w : k < 6
      · rcases (show k = 0 ∨ k = 1 ∨ k = 2 ∨ k = 3 ∨ k = 4 ∨ k = 5 by omega) with rfl | rfl | rfl | rfl | rfl | rfl <;> (cases h; try rfl)
      · obtain ⟨j, rfl⟩ : ∃ j, k = j + 6 := ⟨k - 6, by omega⟩
        cases h
    · cases h
    · by_cases w : k < 1
      · rcases (show k = 0 by omega) with rfl <;> (cases h; try rfl)
      · obtain ⟨j, rfl⟩ : ∃ j, k = j + 1 := ⟨k - 1, by omega⟩
        cases h
    · cases h
    · by_cases w : k < 3
      · rcases (show k = 0 ∨ k = 1 ∨ k = 2 by omega) with rfl | rfl | rfl <;> (cases h; try rfl)
      · obtain ⟨j, rfl⟩ : ∃ j, k = j + 3 := ⟨k - 3, by omega⟩
        cases h
    · cases h
    · cases h
    · by_cases w : k < 8
      · rcases (show k = 0 ∨ k = 1 ∨ k = 2 ∨ k = 3 ∨ k = 4 ∨ k = 5 ∨ k = 6 ∨ k = 7 by omega) with rfl | rfl | rfl | rfl | rfl | rfl | rfl | rfl <;> (cases h; try rfl)
      · obtain ⟨j, rfl⟩ : ∃ j, k = j + 8 := ⟨k - 8, by omega⟩
        cases h
    · cases h
    · by_cases w : k < 4
      · rcases (show k = 0 ∨ k = 1 ∨ k = 2 ∨ k = 3 by omega) with rfl | rfl | rfl | rfl <;> (cases h; try rfl)
      · obtain ⟨j, rfl⟩ : ∃ j, k = j + 4 := ⟨k - 4, by omega⟩
        cases h
    · cases h
    · cases h
    · cases h
    · cases h
    · cases h
    · cases h
    · cases h
    · cases h
    · cases h
    · by_cases w : k < 6
      · rcases (show k = 0 ∨ k = 1 ∨ k = 2 ∨ k = 3 ∨ k = 4 ∨ k = 5 by omega) with rfl | rfl | rfl | rfl | rfl | rfl <;> (cases h; try rfl)
      · obtain ⟨j, rfl⟩ : ∃ j, k = j + 6 := ⟨k - 6, by omega⟩
        cases h
    · cases h
    · cases h
    · cases h
    · by_cases w : k < 6
      · rcases (show k = 0 ∨ k = 1 ∨ k = 2 ∨ k = 3 ∨ k = 4 ∨ k = 5 by omega) with rfl | rfl | rfl | rfl | rfl | rfl <;> (cases h; try rfl)
      · obtain ⟨j, rfl⟩ : ∃ j, k = j + 6 := ⟨k - 6, by omega⟩
        cases h
    · cases h
    · cases h
    · cases h
    · cases h
    · cases h
    · cases h
    · by_cases w : k < 3
      · rcases (show k = 0 ∨ k = 1 ∨ k = 2 by omega) with rfl | rfl | rfl <;> (cases h; try rfl)
      · obtain ⟨j, rfl⟩ : ∃ j, k = j + 3 := ⟨k - 3, by omega⟩
        cases h
    · by_cases w : k < 4
      · rcases (show k = 0 ∨ k = 1 ∨ k = 2 ∨ k = 3 by omega) with rfl | rfl | rfl | rfl <;> (cases h; try rfl)
      · obtain ⟨j, rfl⟩ : ∃ j, k = j + 4 := ⟨k - 4, by omega⟩
        cases h
    · cases h
    · cases h
    · cases h
    · cases h
    · cases h
    · cases h
    · by_cases w : k < 37
      · rcases (show k = 0 ∨ k = 1 ∨ k = 2 ∨ k = 3 ∨ k = 4 ∨ k = 5 ∨ k = 6 ∨ k = 7 ∨ k = 8 ∨ k = 9 ∨ k = 10 ∨ k = 11 ∨ k = 12 ∨ k = 13 ∨ k = 14 ∨ k = 15 ∨ k = 16 ∨ k = 17 ∨ k = 18 ∨ k = 19 ∨ k = 20 ∨ k = 21 ∨ k = 22 ∨ k = 23 ∨ k = 24 ∨ k = 25 ∨ k = 26 ∨ k = 27 ∨ k = 28 ∨ k = 29 ∨ k = 30 ∨ k = 31 ∨ k = 32 ∨ k = 33 ∨ k = 34 ∨ k = 35 ∨ k = 36 by omega) with rfl | rfl | rfl | rfl | rfl | rfl | rfl | rfl | rfl | rfl | rfl | rfl | rfl | rfl | rfl | rfl | rfl | rfl | rfl | rfl | rfl | rfl | rfl | rfl | rfl | rfl | rfl | rfl | rfl | rfl | rfl | rfl | rfl | rfl | rfl | rfl | rfl <;> (cases h; try rfl)
      · obtain ⟨j, rfl⟩ : ∃ j, k = j + 37 := ⟨k - 37, by omega⟩
        cases h
    · cases h
    · cases h
    · cases h
    · cases h
    · cases h
    · cases h
    · cases h
    · cases h
    · cases h
    · cases h
    · cases h
    · cases h
    · cases h
    · cases h
    · cases h
    · cases h
    · cases h
    · cases h
    · cases h
    · cases h
    · cases h
    · cases h
    · cases h
  · rw [x_P0_hi (by omega)] at h
    cases h

set_option maxRecDepth 100000 in
set_option maxHeartbeats 4000000 in
theorem k_nb (I : x_I) : m_nb (k_I I) = m_lay (x_u2 (k_I I) 39 8 (nI 1)) 10 (nI 2) (nI 20) (nI 0) (nI 0) (nI 1) (nI 1) := if_pos rfl
theorem k_ns (I : x_I) : m_ns (k_I I) = 0 := by
  have e : k_I I 39 2 = 0 := rfl
  unfold m_ns
  rw [e]
  decide

set_option maxRecDepth 100000 in
set_option maxHeartbeats 4000000 in
theorem k_R (S : x_S) (P : x_P) (I : x_I) (J : x_J) : c_R (fun _ => 0) 19 (k_I I) (k_S S) (k_P P) (k_I I) (k_J J) 62 := by
  refine ⟨⟨k_hS S, k_hP P, by decide⟩, ⟨fun s hs => ?_, fun s t hs ht => ?_, rfl⟩, ⟨Or.inl rfl, by decide, rfl, rfl, ?_⟩, fun k hk => rfl, fun e k he hk => ?_, ⟨rfl, ?_, fun k hk => rfl⟩, fun t s c ht hs hc => ?_, fun k hk => ?_, rfl, rfl⟩
  · rw [k_ns] at hs; exact absurd hs (Nat.not_lt_zero _)
  · rw [k_ns] at ht; exact absurd ht (Nat.not_lt_zero _)
  · unfold c_fl r_a
    rw [k_nb]
    refine ⟨rfl, rfl, rfl, rfl, rfl, rfl, ?_, ?_, rfl⟩
    · show nI 0 = nI (r_o1 (x_k (nI 2)))
      rw [x_kn (by decide)]; rfl
    · show nI 1 = nI (r_o2 (x_k (nI 2)))
      rw [x_kn (by decide)]; rfl
  · rcases (show e = 0 ∨ e = 1 ∨ e = 2 ∨ e = 3 by omega) with rfl | rfl | rfl | rfl <;> rfl
  · show (-1 : Int32) = c_pn (-9)
    decide
  · have e1 : k_J J 22 (10 * t + s) = 0 := rfl
    have e2 : k_I I 54 (640 * t + 64 * s + c) = 0 := rfl
    rw [e1, e2, x_lb_0]
    exact (decide_eq_false (fun q => q (by decide))).symm
  · rcases (show k = 0 ∨ k = 1 ∨ k = 2 ∨ k = 3 by omega) with rfl | rfl | rfl | rfl
    · exact ⟨show (-1 : Int32) = c_pn (-9) by decide, fun q => absurd (show (-9 : Int32).toInt = -9 by decide) q, fun i hi => rfl⟩
    · exact ⟨show (-1 : Int32) = c_pn (-9) by decide, fun q => absurd (show (-9 : Int32).toInt = -9 by decide) q, fun i hi => rfl⟩
    · exact ⟨show (-1 : Int32) = c_pn (-9) by decide, fun q => absurd (show (-9 : Int32).toInt = -9 by decide) q, fun i hi => rfl⟩
    · exact ⟨show (-1 : Int32) = c_pn (-9) by decide, fun q => absurd (show (-9 : Int32).toInt = -9 by decide) q, fun i hi => rfl⟩

set_option maxRecDepth 100000 in
set_option maxHeartbeats 4000000 in
theorem k_mI (I : x_I) : m_I (k_I I) := by
  have z0 : (0 : Int32).toInt = 0 := by decide
  have e2 : k_I I 39 2 = 0 := rfl
  have e24 : k_I I 39 24 = 0 := rfl
  have e26 : k_I I 39 26 = -9 := rfl
  have c0 : ∀ k, k_I I 42 k = 0 := fun k => rfl
  have y0 : ∀ k, k_I I 43 k = 0 := fun k => rfl
  have p0 : ∀ k, k_I I 44 k = 0 := fun k => rfl
  have w0 : ∀ k, k_I I 53 k = 0 := fun k => rfl
  have t0 : ∀ k, k_I I 54 k = 0 := fun k => rfl
  have s0 : ∀ k, k_I I 46 k = 0 := fun k => rfl
  refine ⟨by rw [e2, z0]; omega, fun s hs => ?_, fun s hs => ?_, ?_, fun k hk => by rw [c0, z0]; omega, fun k hk => by rw [y0, z0]; omega, fun k hk => by rw [p0, z0]; omega, fun e k he hk _ => by rw [p0, z0], by rw [e24, z0]; omega, fun k hk => by rw [w0, z0]; omega, Or.inl (by rw [e26]; decide), fun t s c ht hs hc => ⟨Or.inl (by rw [t0, z0]), fun _ => by rw [t0, z0]⟩, fun k hk => ⟨Or.inl ?_, by rw [s0, z0]; omega⟩⟩
  · rw [k_ns] at hs; exact absurd hs (Nat.not_lt_zero _)
  · rw [k_ns] at hs; exact absurd hs (Nat.not_lt_zero _)
  · rw [k_nb]
    have f0 : ∀ x : x_I, m_lay x 10 (nI 2) (nI 20) (nI 0) (nI 0) (nI 1) (nI 1) 41 (6 * 10) = nI 2 := fun _ => rfl
    have f1 : ∀ x : x_I, m_lay x 10 (nI 2) (nI 20) (nI 0) (nI 0) (nI 1) (nI 1) 41 (6 * 10 + 1) = nI 20 := fun _ => rfl
    have f2 : ∀ x : x_I, m_lay x 10 (nI 2) (nI 20) (nI 0) (nI 0) (nI 1) (nI 1) 41 (6 * 10 + 2) = nI 0 := fun _ => rfl
    have f3 : ∀ x : x_I, m_lay x 10 (nI 2) (nI 20) (nI 0) (nI 0) (nI 1) (nI 1) 41 (6 * 10 + 3) = nI 0 := fun _ => rfl
    have f4 : ∀ x : x_I, m_lay x 10 (nI 2) (nI 20) (nI 0) (nI 0) (nI 1) (nI 1) 41 (6 * 10 + 4) = nI 1 := fun _ => rfl
    have f5 : ∀ x : x_I, m_lay x 10 (nI 2) (nI 20) (nI 0) (nI 0) (nI 1) (nI 1) 41 (6 * 10 + 5) = nI 1 := fun _ => rfl
    unfold m_fo
    rw [f0, f1, f2, f3, f4, f5]
    decide
  · rcases (show k = 0 ∨ k = 1 ∨ k = 2 ∨ k = 3 by omega) with rfl | rfl | rfl | rfl
    · exact (show (-9 : Int32).toInt = -9 by decide)
    · exact (show (-9 : Int32).toInt = -9 by decide)
    · exact (show (-9 : Int32).toInt = -9 by decide)
    · exact (show (-9 : Int32).toInt = -9 by decide)

