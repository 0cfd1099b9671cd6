/-! The fewest holes: rows of holes, what they cover, the least row. -/
def f_cov (L : Nat → Nat → Option Nat) (m T n : Nat) (R : Nat → Nat) : Prop := ∀ k t, k < m → t < T → ¬ L k t = none → ∃ i, i < n ∧ L (R i) t = L k t
def f_row (m n : Nat) (R : Nat → Nat) : Prop := (∀ i, i < n → R i < m) ∧ ∀ i j, i < j → j < n → R i < R j
def f_lt (n : Nat) (A C : Nat → Nat) : Prop := ∃ i, i < n ∧ (∀ j, j < i → A j = C j) ∧ A i < C i
def f_least (L : Nat → Nat → Option Nat) (m T n : Nat) (R : Nat → Nat) : Prop := f_row m n R ∧ f_cov L m T n R ∧ (∀ n', n' < n → ∀ C, f_row m n' C → ¬ f_cov L m T n' C) ∧ ∀ C, f_row m n C → f_cov L m T n C → ¬ f_lt n C R
theorem f_dif {n : Nat} {A C : Nat → Nat} (h : ¬ ∀ i, i < n → A i = C i) : ∃ i, i < n ∧ (∀ j, j < i → A j = C j) ∧ ¬ A i = C i := by
  induction n with
  | zero => exact absurd (fun i hi => absurd hi (Nat.not_lt_zero _)) h
  | succ n ih =>
    by_cases h2 : ∀ i, i < n → A i = C i
    · refine ⟨n, Nat.lt_succ_self _, h2, fun e => h (fun i hi => ?_)⟩
      by_cases e2 : i = n
      · rw [e2]; exact e
      · exact h2 i (by omega)
    · obtain ⟨i, a, b, c⟩ := ih h2
      exact ⟨i, by omega, b, c⟩
theorem f_cov_cg {L : Nat → Nat → Option Nat} {m T n : Nat} {A C : Nat → Nat} (h : ∀ i, i < n → A i = C i) (hc : f_cov L m T n A) : f_cov L m T n C := fun k t hk ht hl => by
  obtain ⟨i, h1, h2⟩ := hc k t hk ht hl
  exact ⟨i, h1, by rw [← h i h1]; exact h2⟩
theorem f_least_u {L : Nat → Nat → Option Nat} {m T n n' : Nat} {A C : Nat → Nat} (h1 : f_least L m T n A) (h2 : f_least L m T n' C) : n = n' ∧ ∀ i, i < n → A i = C i := by
  have e : n = n' := by
    rcases Nat.lt_trichotomy n n' with q | q | q
    · exact absurd h1.2.1 (h2.2.2.1 n q A h1.1)
    · exact q
    · exact absurd h2.2.1 (h1.2.2.1 n' q C h2.1)
  subst e
  refine ⟨rfl, Classical.byContradiction fun q => ?_⟩
  obtain ⟨i, hi, hj, hne⟩ := f_dif q
  rcases Nat.lt_or_gt_of_ne hne with w | w
  · exact h2.2.2.2 A h1.1 h1.2.1 ⟨i, hi, hj, w⟩
  · exact h1.2.2.2 C h2.1 h2.2.1 ⟨i, hi, fun j q => (hj j q).symm, w⟩
/-- a row's place has room behind it -/
theorem f_row_le {m n : Nat} {R : Nat → Nat} (h : f_row m n R) : ∀ d i, i + d + 1 = n → R i + d < m
  | 0, i, e => by have := h.1 i (by omega); omega
  | d + 1, i, e => by
    have ih := f_row_le h d (i + 1) (by omega)
    have := h.2 i (i + 1) (by omega) (by omega)
    omega
theorem f_row_ge {m n : Nat} {R : Nat → Nat} (h : f_row m n R) : ∀ i j, i + j < n → R i + j ≤ R (i + j)
  | i, 0, _ => Nat.le_refl _
  | i, j + 1, e => by
    have ih := f_row_ge h i j (by omega)
    have := h.2 (i + j) (i + j + 1) (by omega) (by omega)
    show R i + (j + 1) ≤ R (i + j + 1)
    omega
/-- the next row -/
theorem f_next {L : Nat → Nat → Option Nat} {m T n x : Nat} {R Q : Nat → Nat} (hmn : n ≤ m) (hx : x < n) (h1 : ∀ i, i < x → Q i = R i) (h2 : Q x = R x + 1) (h3 : ∀ i, x < i → i < n → Q i = Q (i - 1) + 1) (h4 : ∀ i, x < i → i < n → R i = m - n + i) (hnc : ¬ f_cov L m T n R) (hall : ∀ C, f_row m n C → f_cov L m T n C → ¬ f_lt n C R) : ∀ C, f_row m n C → f_cov L m T n C → ¬ f_lt n C Q := by
  intro C hr hc ⟨q, hq, q1, q2⟩
  have hd : ¬ ∀ i, i < n → C i = R i := fun w => hnc (f_cov_cg w hc)
  obtain ⟨i, hi, i1, i2⟩ := f_dif hd
  have i3 : R i < C i := by
    rcases Nat.lt_or_gt_of_ne i2 with w | w
    · exact absurd ⟨i, hi, i1, w⟩ (hall C hr hc)
    · exact w
  have hix : i ≤ x := by
    rcases Nat.lt_or_ge x i with w | w
    · have := f_row_le hr (n - 1 - i) i (by omega)
      have := h4 i w hi
      omega
    · exact w
  rcases Nat.lt_trichotomy q x with w | w | w
  · rw [h1 q w] at q2
    rcases Nat.lt_trichotomy q i with v | v | v
    · rw [i1 q v] at q2; omega
    · subst v; omega
    · rw [q1 i v, h1 i (by omega)] at i3; omega
  · subst w
    rw [h2] at q2
    rcases Nat.lt_or_ge i q with v | v
    · rw [q1 i v, h1 i v] at i3; omega
    · have : i = q := by omega
      subst this; omega
  · rw [h3 q w hq, ← q1 (q - 1) (by omega)] at q2
    have := hr.2 (q - 1) q (by omega) hq
    omega
theorem f_lastrow {L : Nat → Nat → Option Nat} {m T n : Nat} {R : Nat → Nat} (hmn : n ≤ m) (h4 : ∀ i, i < n → R i = m - n + i) (hnc : ¬ f_cov L m T n R) (hall : ∀ C, f_row m n C → f_cov L m T n C → ¬ f_lt n C R) : ∀ C, f_row m n C → ¬ f_cov L m T n C := by
  intro C hr hc
  have hd : ¬ ∀ i, i < n → C i = R i := fun w => hnc (f_cov_cg w hc)
  obtain ⟨i, hi, i1, i2⟩ := f_dif hd
  have i3 : R i < C i := by
    rcases Nat.lt_or_gt_of_ne i2 with w | w
    · exact absurd ⟨i, hi, i1, w⟩ (hall C hr hc)
    · exact w
  have := f_row_le hr (n - 1 - i) i (by omega)
  have := h4 i hi
  omega
/-- the first hole that lights something at an hour -/
def f_fi (L : Nat → Nat → Option Nat) (k t : Nat) : Bool := decide (¬ L k t = none ∧ ∀ j, j < k → ¬ L j t = L k t)
def f_nl (L : Nat → Nat → Option Nat) (m T : Nat) : Nat := x_sm (fun k => x_ct (f_fi L k) T) m
noncomputable def f_N (L : Nat → Nat → Option Nat) (m T : Nat) : Nat := @dite Nat (∃ n R, f_least L m T n R) (Classical.propDecidable _) (fun h => Classical.choose h) (fun _ => 0)
noncomputable def f_R (L : Nat → Nat → Option Nat) (m T : Nat) : Nat → Nat := @dite (Nat → Nat) (∃ R, f_least L m T (f_N L m T) R) (Classical.propDecidable _) (fun h => Classical.choose h) (fun _ _ => 0)
theorem f_N_eq {L : Nat → Nat → Option Nat} {m T n : Nat} {R : Nat → Nat} (h : f_least L m T n R) : f_N L m T = n ∧ ∀ i, i < n → f_R L m T i = R i := by
  have hex : ∃ n R, f_least L m T n R := ⟨n, R, h⟩
  have e1 : f_N L m T = Classical.choose hex := by unfold f_N; rw [dif_pos hex]
  obtain ⟨R1, h1⟩ := Classical.choose_spec hex
  rw [← e1] at h1
  have hex2 : ∃ R, f_least L m T (f_N L m T) R := ⟨R1, h1⟩
  have e2 : f_R L m T = Classical.choose hex2 := by unfold f_R; rw [dif_pos hex2]
  have h2 := Classical.choose_spec hex2
  rw [← e2] at h2
  have u := f_least_u h2 h
  exact ⟨u.1, fun i hi => u.2 i (by rw [u.1]; exact hi)⟩
/-- the holes that may be -/
noncomputable def h_mb (Z : x_I) (p c : Nat) : Bool := @decide (r_may Z p c) (Classical.propDecidable _)
theorem h_mb_t {Z : x_I} {p c : Nat} (h : r_may Z p c) : h_mb Z p c = true := by unfold h_mb; exact @decide_eq_true _ (Classical.propDecidable _) h
theorem h_mb_f {Z : x_I} {p c : Nat} (h : ¬ r_may Z p c) : h_mb Z p c = false := by unfold h_mb; exact @decide_eq_false _ (Classical.propDecidable _) h
def h_fd (b : Nat → Bool) (j : Nat) : Nat → Nat
  | 0 => 0
  | n + 1 => if b n = true ∧ x_ct b n = j then n else h_fd b j n
theorem x_ct_mo (p : Nat → Bool) : ∀ {m n : Nat}, m ≤ n → x_ct p m ≤ x_ct p n
  | m, 0, h => by have e : m = 0 := by omega
                  subst e; exact Nat.le_refl _
  | m, n + 1, h => by
    by_cases e : m = n + 1
    · rw [e]; exact Nat.le_refl _
    · have := x_ct_mo p (show m ≤ n by omega)
      rw [x_ct]; omega
theorem h_fd_eq {b : Nat → Bool} {c : Nat} (hb : b c = true) : ∀ n, c < n → h_fd b (x_ct b c) n = c
  | 0, h => absurd h (Nat.not_lt_zero _)
  | n + 1, h => by
    rw [h_fd]
    by_cases e : c = n
    · subst e; rw [if_pos ⟨hb, rfl⟩]
    · rw [if_neg]
      · exact h_fd_eq hb n (by omega)
      · intro q
        have h1 := x_ct_y hb
        have h2 := x_ct_mo b (show c + 1 ≤ n by omega)
        omega
noncomputable def h_ho (Z : x_I) (p j : Nat) : Nat := h_fd (h_mb Z p) j 64
noncomputable def h_m (Z : x_I) (p : Nat) : Nat := x_ct (h_mb Z p) (m_ce Z p).toNat
def h_pl (Z : x_I) (p c t : Nat) : Option Nat := match (r_lit Z p t c).1 with
  | none => none
  | some (s, d) => some (640 * t + 64 * s + d)
noncomputable def h_L (Z : x_I) (p j t : Nat) : Option Nat := h_pl Z p (h_ho Z p j) t
noncomputable def q_fst (Z : x_I) (p : Nat) : Int32 := x_if (16 < h_m Z p) (-6) (x_if (¬ f_nl (h_L Z p) (h_m Z p) (m_nh Z) = m_wm Z) (-9) (nI (f_N (h_L Z p) (h_m Z p) (m_nh Z))))
noncomputable def q_fewest (Z : x_I) : Int32 := x_if ((Z 39 26).toInt = -9) (-3) (q_fst Z (x_k (Z 39 26)))
noncomputable def q_hole (Z : x_I) (c : Int32) : Int32 := x_if ((Z 39 26).toInt = -9) (-3) (x_if (¬ g_ce Z (Z 39 26) c) (-1) (x_if ((q_fst Z (x_k (Z 39 26))).toInt < 0) (q_fst Z (x_k (Z 39 26)))
  (x_if (∃ i, i < f_N (h_L Z (x_k (Z 39 26))) (h_m Z (x_k (Z 39 26))) (m_nh Z) ∧ h_ho Z (x_k (Z 39 26)) (f_R (h_L Z (x_k (Z 39 26))) (h_m Z (x_k (Z 39 26))) (m_nh Z) i) = x_k c) (nI 1) (nI 0))))
/-- what is lit, as the reference keeps it -/
def h_w (o : Option Nat) : Int32 := match o with
  | none => -1
  | some a => nI a
def h_lok (L : Nat → Nat → Option Nat) (m T : Nat) : Prop := ∀ k t a, k < m → t < T → L k t = some a → a / 640 = t ∧ a < 3840
theorem x_ct_rm {p : Nat → Bool} {c : Nat} (hp : p c = true) : ∀ n, c < n → x_ct (fun k => p k && !(decide (k = c))) n + 1 = x_ct p n
  | 0, h => absurd h (Nat.not_lt_zero _)
  | n + 1, h => by
    by_cases e : c = n
    · subst e
      have e1 : x_ct (fun k => p k && !(decide (k = c))) c = x_ct p c := x_ct_cg c (fun k hk => by rw [decide_eq_false (by omega)]; simp)
      rw [x_ct, x_ct, e1]
      simp [hp]
    · have ih := x_ct_rm hp n (by omega)
      have hn : ¬ n = c := fun q => e q.symm
      rw [x_ct, x_ct]
      simp only [hn, decide_false, Bool.not_false, Bool.and_true]
      omega

