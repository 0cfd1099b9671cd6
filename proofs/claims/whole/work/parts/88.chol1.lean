theorem x_on_lo2 {lo hi : Int64} {b c : Nat} (hb : b < 64) : x_on (lo ||| 1 <<< ((nI b).toInt64 &&& 63)) hi c = (x_on lo hi c || decide (c = b)) := by
  unfold x_on
  by_cases w : c < 64
  · rw [if_pos w, if_pos w, x_lb_or, x_lb_1 hb]
  · rw [if_neg w, if_neg w, decide_eq_false (by omega), Bool.or_false]
theorem x_on_hi2 {lo hi : Int64} {b c : Nat} (hb2 : b < 64) : x_on lo (hi ||| 1 <<< ((nI b).toInt64 &&& 63)) c = (x_on lo hi c || decide (c = b + 64)) := by
  unfold x_on
  by_cases w : c < 64
  · rw [if_pos w, if_pos w, decide_eq_false (by omega), Bool.or_false]
  · rw [if_neg w, if_neg w, x_lb_or, x_lb_1 hb2]
    congr 1
    exact decide_eq_decide.mpr ⟨fun q => by omega, fun q => by omega⟩
/-- the bit of hole k at an hour before t -/
def p_b (L : Nat → Nat → Option Nat) (k t b : Nat) : Prop := ∃ u f, u < t ∧ f ≤ k ∧ b = 16 * u + f ∧ ¬ L k u = none ∧ L f u = L k u ∧ ∀ f', f' < f → ¬ L f' u = L k u
theorem p_b_fi {L : Nat → Nat → Option Nat} {m T b : Nat} (hm : m ≤ 16) : (∃ j, j < m ∧ p_b L j T b) ↔ (b / 16 < T ∧ b % 16 < m ∧ f_fi L (b % 16) (b / 16) = true) := by
  unfold f_fi
  rw [decide_eq_true_eq]
  constructor
  · intro ⟨j, j1, u, f, q1, q2, q3, q4, q5, q6⟩
    have e1 : b / 16 = u := by omega
    have e2 : b % 16 = f := by omega
    rw [e1, e2]
    exact ⟨q1, by omega, by rw [q5]; exact q4, fun f' hf' => by rw [q5]; exact q6 f' hf'⟩
  · intro ⟨q1, q2, q3, q4⟩
    exact ⟨b % 16, q2, b / 16, b % 16, q1, Nat.le_refl _, by omega, q3, rfl, q4⟩
theorem x_sm_sw (p : Nat → Nat → Bool) (T : Nat) : ∀ m, x_sm (fun t => x_ct (fun f => p f t) m) T = x_sm (fun f => x_ct (p f) T) m
  | 0 => by
    have : ∀ n, x_sm (fun t => x_ct (fun f => p f t) 0) n = 0 := by
      intro n
      induction n with
      | zero => rfl
      | succ n ih => rw [x_sm, ih]; rfl
    rw [this]; rfl
  | m + 1 => by
    have ih := x_sm_sw p T m
    have : ∀ n, x_sm (fun t => x_ct (fun f => p f t) (m + 1)) n = x_sm (fun t => x_ct (fun f => p f t) m) n + x_ct (p m) n := by
      intro n
      induction n with
      | zero => rfl
      | succ n ih2 => rw [x_sm, x_sm, ih2, x_ct, x_ct]; omega
    rw [this, x_sm, ih]
/-- as many bits as things lit -/
theorem p_nl {L : Nat → Nat → Option Nat} {m T : Nat} {q : Nat → Bool} (hm : m ≤ 16) (hT : T ≤ 6) (h : ∀ b, b < 128 → (q b = true ↔ ∃ j, j < m ∧ p_b L j T b)) : x_ct q 128 = f_nl L m T := by
  unfold f_nl
  rw [← x_sm_sw (f_fi L) T m, show 128 = 16 * 8 by decide, x_ct_blk]
  rw [x_sm_ex (m := T) 8 (by omega) (fun t h1 h2 => x_ct_0 16 (fun f hf => Bool.eq_false_iff.mpr (fun z => by
    have := (p_b_fi hm).mp ((h (16 * t + f) (by omega)).mp z)
    omega)))]
  refine x_sm_cg T (fun t ht => ?_)
  rw [x_ct_ex (m := m) 16 hm (fun f h1 h2 => Bool.eq_false_iff.mpr (fun z => by
    have := (p_b_fi hm).mp ((h (16 * t + f) (by omega)).mp z)
    omega))]
  refine x_ct_cg m (fun f hf => ?_)
  rw [Bool.eq_iff_iff, h (16 * t + f) (by omega), p_b_fi hm, show (16 * t + f) / 16 = t by omega, show (16 * t + f) % 16 = f by omega]
  exact ⟨fun z => z.2.2, fun z => ⟨ht, hf, z⟩⟩
theorem p_cov {L : Nat → Nat → Option Nat} {m T : Nat} {J : x_J} (hm : m ≤ 16) (hT : T ≤ 6) (h : ∀ k b, k < m → b < 128 → (p_on J k b = true ↔ p_b L k T b)) : ∀ n R, (∀ i, i < n → R i < m) → (f_cov L m T n R ↔ ∀ b, b < 128 → (∃ j, j < m ∧ p_on J j b = true) → ∃ i, i < n ∧ p_on J (R i) b = true) := by
  intro n R hr
  have hfst : ∀ k u, k < m → u < T → ¬ L k u = none → ∃ f, f ≤ k ∧ L f u = L k u ∧ ∀ f', f' < f → ¬ L f' u = L k u := fun k u hk hu hl => by
    have : ∀ w, w ≤ k + 1 → (∃ f, f < w ∧ L f u = L k u) → ∃ f, f < w ∧ L f u = L k u ∧ ∀ f', f' < f → ¬ L f' u = L k u := by
      intro w
      induction w with
      | zero => intro _ ⟨f, h1, _⟩; exact absurd h1 (Nat.not_lt_zero _)
      | succ w ih =>
        intro hw ⟨f, h1, h2⟩
        by_cases e : ∃ f, f < w ∧ L f u = L k u
        · obtain ⟨f0, a1, a2, a3⟩ := ih (by omega) e
          exact ⟨f0, by omega, a2, a3⟩
        · have ef : f = w := Nat.le_antisymm (by omega) (Nat.le_of_not_lt (fun q => e ⟨f, q, h2⟩))
          subst ef
          exact ⟨f, h1, h2, fun f' hf' q => e ⟨f', hf', q⟩⟩
    obtain ⟨f, a1, a2, a3⟩ := this (k + 1) (Nat.le_refl _) ⟨k, by omega, rfl⟩
    exact ⟨f, by omega, a2, a3⟩
  constructor
  · intro hc b hb ⟨j, j1, j2⟩
    obtain ⟨u, f, q1, q2, q3, q4, q5, q6⟩ := (h j b j1 hb).mp j2
    obtain ⟨i, i1, i2⟩ := hc j u j1 q1 q4
    refine ⟨i, i1, (h (R i) b (hr i i1) hb).mpr ?_⟩
    refine ⟨u, f, q1, ?_, q3, by rw [i2]; exact q4, by rw [i2]; exact q5, fun f' hf' => by rw [i2]; exact q6 f' hf'⟩
    exact Nat.le_of_not_lt (fun w => q6 (R i) w i2)
  · intro hb k t hk ht hl
    obtain ⟨f, f1, f2, f3⟩ := hfst k t hk ht hl
    obtain ⟨i, i1, i2⟩ := hb (16 * t + f) (by omega) ⟨k, hk, (h k _ hk (by omega)).mpr ⟨t, f, ht, f1, rfl, hl, f2, f3⟩⟩
    obtain ⟨u, f', q1, q2, q3, q4, q5, q6⟩ := (h (R i) _ (hr i i1) (by omega)).mp i2
    have hri := hr i i1
    have e1 : u = t := by omega
    have e2 : f' = f := by omega
    subst e1 e2
    exact ⟨i, i1, by rw [← q5, f2]⟩
theorem f_nl_le {L : Nat → Nat → Option Nat} {m T : Nat} {Z : x_I} (hok : h_lok L m T) (hwl : ∀ k t a, k < m → t < T → L k t = some a → ¬ (Z 54 a).toInt = 0) : f_nl L m T ≤ m_wm Z := by
  have hU : ∀ k t, k < m → t ≤ T → ∀ D, D + x_ct (fun q => decide (¬ (Z 54 q).toInt = 0) && !(h_sb L T k 0 q)) 3840 = m_wm Z → D + x_ct (f_fi L k) t + x_ct (fun q => decide (¬ (Z 54 q).toInt = 0) && !(h_sb L T k t q)) 3840 = m_wm Z := by
    intro k t hk
    induction t with
    | zero => intro _ D hD; exact hD
    | succ t ih =>
      intro ht D hD
      have ih := ih (by omega) D hD
      cases zo : L k t with
      | none =>
        have zf : f_fi L k t = false := by unfold f_fi; exact decide_eq_false (fun q => q.1 zo)
        have zs : ∀ a, h_sb L T k (t + 1) a = h_sb L T k t a := fun a => by
          rw [Bool.eq_iff_iff, h_sb_iff, h_sb_iff, h_sn_s (by omega)]
          exact ⟨fun w => w.resolve_right (fun z => by rw [zo] at z; cases z), Or.inl⟩
        simp only [zs]
        rw [← x_ct_n zf, Nat.add_zero]; exact ih
      | some a =>
        have zin := hok k t a hk (by omega) zo
        cases zl : h_sb L T k t a with
        | true =>
          have zf : f_fi L k t = false := Bool.eq_false_iff.mpr (fun w => (h_sn_f hok hk (by omega) zo).mp w (h_sb_iff.mp zl))
          have zs : ∀ q, h_sb L T k (t + 1) q = h_sb L T k t q := fun q => by
            rw [Bool.eq_iff_iff, h_sb_iff, h_sb_iff, h_sn_s (by omega)]
            refine ⟨fun w => w.elim id (fun z => ?_), Or.inl⟩
            rw [zo] at z
            cases z
            exact h_sb_iff.mp zl
          simp only [zs]
          rw [← x_ct_n zf, Nat.add_zero]; exact ih
        | false =>
          have zf : f_fi L k t = true := (h_sn_f hok hk (by omega) zo).mpr (fun w => by rw [h_sb_iff.mpr w] at zl; cases zl)
          have zs : ∀ q, h_sb L T k (t + 1) q = (h_sb L T k t q || decide (q = a)) := fun q => by
            rw [Bool.eq_iff_iff, h_sb_iff, h_sn_s (by omega), Bool.or_eq_true, h_sb_iff, decide_eq_true_eq, zo]
            exact ⟨fun w => w.imp id (fun z => by cases z; rfl), fun w => w.imp id (fun z => by rw [z])⟩
          have z9 := x_ct_rm (p := fun q => decide (¬ (Z 54 q).toInt = 0) && !(h_sb L T k t q)) (c := a) (by rw [decide_eq_true (hwl k t a hk (by omega) zo), zl]; rfl) 3840 zin.2
          have z8 : x_ct (fun q => decide (¬ (Z 54 q).toInt = 0) && !(h_sb L T k (t + 1) q)) 3840 = x_ct (fun k_1 => (decide (¬ (Z 54 k_1).toInt = 0) && !(h_sb L T k t k_1)) && !(decide (k_1 = a))) 3840 := x_ct_cg 3840 (fun q _ => by
            rw [zs]
            cases decide (¬ (Z 54 q).toInt = 0) <;> cases h_sb L T k t q <;> cases decide (q = a) <;> rfl)
          rw [z8, ← x_ct_y zf]
          omega
  have hA : ∀ k, k ≤ m → x_sm (fun k => x_ct (f_fi L k) T) k + x_ct (fun q => decide (¬ (Z 54 q).toInt = 0) && !(h_sb L T k 0 q)) 3840 = m_wm Z := by
    intro k
    induction k with
    | zero =>
      intro _
      have z0 : ∀ a, h_sb L T 0 0 a = false := fun a => Bool.eq_false_iff.mpr (fun w => by obtain ⟨j, u, q1, q2, q3⟩ := h_sb_iff.mp w; omega)
      simp only [z0, Bool.not_false, Bool.and_true, x_sm, Nat.zero_add]
      rfl
    | succ k ih =>
      intro hk
      have h1 := hU k T (by omega) (Nat.le_refl _) _ (ih (by omega))
      have zs : ∀ a, h_sb L T (k + 1) 0 a = h_sb L T k T a := fun a => by rw [Bool.eq_iff_iff, h_sb_iff, h_sb_iff, h_sn_k]
      simp only [zs]
      exact h1
  have := hA m (Nat.le_refl _)
  unfold f_nl
  omega
/-- ends and places -/
def h_e (Z : x_I) (p k t : Nat) : Int32 := r_ans (r_lit Z p t k).1
theorem h_e_L {Z : x_I} {p c c' t : Nat} (ht : t < 6) (hws : g_ws Z) (hp : m_fo Z p) (hc : (c : Int) < m_ce Z p) (hc' : (c' : Int) < m_ce Z p) (hn : (Z 39 2).toInt ≤ 10) (hfo : ∀ s, s < m_ns Z → m_fo Z s) : ((h_e Z p c t).toInt < 0 ↔ h_pl Z p c t = none) ∧ ((h_e Z p c t).toInt = (h_e Z p c' t).toInt ↔ h_pl Z p c t = h_pl Z p c' t) := by
  have t9 : (-9 : Int32).toInt = -9 := by decide
  unfold h_e h_pl
  cases ho : (r_lit Z p t c).1 with
  | none =>
    refine ⟨⟨fun _ => rfl, fun _ => by show (-9 : Int32).toInt < 0; decide⟩, ?_⟩
    cases ho' : (r_lit Z p t c').1 with
    | none => exact ⟨fun _ => rfl, fun _ => rfl⟩
    | some w =>
      obtain ⟨s, d⟩ := w
      have hl := r_lit_in ht hws hp hc' hfo ho'
      have h1 := hl.1
      have h2 := hl.2.2.1
      unfold m_ns at h1
      refine ⟨fun z => ?_, fun z => by cases z⟩
      have z : (-9 : Int32).toInt = (nI (100 * s + d)).toInt := z
      rw [t9, x_ti (by omega)] at z; omega
  | some w =>
    obtain ⟨s, d⟩ := w
    have hl := r_lit_in ht hws hp hc hfo ho
    have h1 := hl.1
    have h2 := hl.2.2.1
    unfold m_ns at h1
    have e1 : (r_ans (some (s, d))).toInt = ((100 * s + d : Nat) : Int) := x_ti (by omega)
    refine ⟨⟨fun z => by rw [e1] at z; omega, fun z => by cases z⟩, ?_⟩
    cases ho' : (r_lit Z p t c').1 with
    | none =>
      refine ⟨fun z => ?_, fun z => by cases z⟩
      have z : (r_ans (some (s, d))).toInt = (-9 : Int32).toInt := z
      rw [e1, t9] at z; omega
    | some w' =>
      obtain ⟨s', d'⟩ := w'
      have hl' := r_lit_in ht hws hp hc' hfo ho'
      have h1' := hl'.1
      have h2' := hl'.2.2.1
      unfold m_ns at h1'
      have e2 : (r_ans (some (s', d'))).toInt = ((100 * s' + d' : Nat) : Int) := x_ti (by omega)
      rw [e1, e2]
      constructor
      · intro z
        have a1 : s = s' := by omega
        have a2 : d = d' := by omega
        rw [a1, a2]
      · intro z
        have z := Option.some.inj z
        have a1 : s = s' := by omega
        have a2 : d = d' := by omega
        rw [a1, a2]

