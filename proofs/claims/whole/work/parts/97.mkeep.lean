theorem m_I.pi {Z : x_I} {e N : Nat} {g : Nat → Int32} (h : m_I Z) (he4 : e < 4) (hN : N = (m_ce (m_nb Z) 10).toNat) (hg : ∀ j, j < N → 0 ≤ (g j).toInt ∧ (g j).toInt ≤ 9) : m_I (x_fg Z 44 (64 * e) N g) := by
  have hmc := m_ce_in h.bo
  obtain ⟨h1, h2, h3, h4, h5, h6, h7, h8, h9, h10, h11, h12, h13⟩ := h
  have eb : ∀ y0, m_nb (x_fg Z 44 (64 * e) N g) 41 y0 = m_nb Z 41 y0 := fun y0 => m_nb_41 (Z := Z) (Z' := x_fg Z 44 (64 * e) N g) rfl (fun _ => rfl) y0
  refine ⟨h1, h2, h3, m_fo_sm h4 (fun k _ => eb _), h5, h6, fun k hk => ?_, fun e' k he hk hc => ?_, h9, h10, h11, h12, h13⟩
  · show 0 ≤ (if 44 = 44 ∧ 64 * e ≤ k ∧ k < 64 * e + N then g (k - 64 * e) else Z 44 k).toInt ∧ (if 44 = 44 ∧ 64 * e ≤ k ∧ k < 64 * e + N then g (k - 64 * e) else Z 44 k).toInt ≤ 9
    by_cases w : 44 = 44 ∧ 64 * e ≤ k ∧ k < 64 * e + N
    · rw [if_pos w]; exact hg _ (by omega)
    · rw [if_neg w]; exact h7 k hk
  · rw [m_ce_sm (fun k _ => eb _)] at hc
    show (if 44 = 44 ∧ 64 * e ≤ 64 * e' + k ∧ 64 * e' + k < 64 * e + N then g (64 * e' + k - 64 * e) else Z 44 (64 * e' + k)).toInt = 0
    rw [if_neg (by omega)]
    exact h8 e' k he hk hc

set_option maxRecDepth 100000 in
set_option maxHeartbeats 4000000 in
theorem lay_at {Z : x_I} {q : Nat} {a c u v w h : Int32} : m_lay Z q a c u v w h 41 (6 * q) = a ∧ m_lay Z q a c u v w h 41 (6 * q + 1) = c ∧ m_lay Z q a c u v w h 41 (6 * q + 2) = u ∧ m_lay Z q a c u v w h 41 (6 * q + 3) = v ∧ m_lay Z q a c u v w h 41 (6 * q + 4) = w ∧ m_lay Z q a c u v w h 41 (6 * q + 5) = h := by
  unfold m_lay
  simp [x_u2_at]
theorem lay_no {Z : x_I} {q s k : Nat} {a c u v w h : Int32} (hs : s ≠ q) (hk : k < 6) : m_lay Z q a c u v w h 41 (6 * s + k) = Z 41 (6 * s + k) := by
  unfold m_lay
  rw [x_u2_nk _ _ _ _ (by omega), x_u2_nk _ _ _ _ (by omega), x_u2_nk _ _ _ _ (by omega), x_u2_nk _ _ _ _ (by omega), x_u2_nk _ _ _ _ (by omega), x_u2_nk _ _ _ _ (by omega)]
theorem lay_na {Z : x_I} {q b j : Nat} {a c u v w h : Int32} (hb : b ≠ 41) : m_lay Z q a c u v w h b j = Z b j := by
  unfold m_lay
  rw [x_u2_na _ _ _ _ hb, x_u2_na _ _ _ _ hb, x_u2_na _ _ _ _ hb, x_u2_na _ _ _ _ hb, x_u2_na _ _ _ _ hb, x_u2_na _ _ _ _ hb]
theorem lay_fo {Z : x_I} {q : Nat} {a c u v w h : Int32} (hi : m_isf a.toInt c.toInt u.toInt v.toInt w.toInt h.toInt) : m_fo (m_lay Z q a c u v w h) q := by
  obtain ⟨l0, l1, l2, l3, l4, l5⟩ := lay_at (Z := Z) (q := q) (a := a) (c := c) (u := u) (v := v) (w := w) (h := h)
  unfold m_fo
  rw [l0, l1, l2, l3, l4, l5]
  unfold m_isf at hi
  omega
theorem m_I.sf {Z : x_I} {kd a c u v w h : Int32} (hI : m_I Z) (h10 : ¬ (Z 39 2).toInt = 10) (hk : 0 ≤ kd.toInt ∧ kd.toInt ≤ 2) (hi : m_isf a.toInt c.toInt u.toInt v.toInt w.toInt h.toInt) : m_I (x_u2 (x_fi (m_lay (x_u2 Z 40 (m_ns Z) kd) (m_ns Z) a c u v w h) 42 (64 * m_ns Z) 64 0) 39 2 (nI (m_ns Z + 1))) := by
  obtain ⟨h1, h2, h3, h4, h5, h6, h7, h8, h9, h10_, h11, h12, h13⟩ := hI
  have hq : m_ns Z = (Z 39 2).toInt.toNat := rfl
  have et : (nI (m_ns Z + 1)).toInt = ((m_ns Z + 1 : Nat) : Int) := x_ti (by omega)
  generalize hZ' : x_u2 (x_fi (m_lay (x_u2 Z 40 (m_ns Z) kd) (m_ns Z) a c u v w h) 42 (64 * m_ns Z) 64 0) 39 2 (nI (m_ns Z + 1)) = Z'
  have e2 : Z' 39 2 = nI (m_ns Z + 1) := by rw [← hZ']; rfl
  have ens : m_ns Z' = m_ns Z + 1 := by
    show (Z' 39 2).toInt.toNat = _
    rw [e2, et]; omega
  have e40 : ∀ k, Z' 40 k = x_u2 Z 40 (m_ns Z) kd 40 k := fun k => by rw [← hZ']; rfl
  have e41 : ∀ k, Z' 41 k = m_lay (x_u2 Z 40 (m_ns Z) kd) (m_ns Z) a c u v w h 41 k := fun k => by rw [← hZ']; rfl
  have e42 : ∀ k, Z' 42 k = x_fi Z 42 (64 * m_ns Z) 64 0 42 k := fun k => by rw [← hZ']; rfl
  have e39 : ∀ k, k ≠ 2 → Z' 39 k = Z 39 k := fun k hk1 => by rw [← hZ', x_u2_nk _ _ _ _ hk1]; rfl
  have eo : ∀ b k, 43 ≤ b → Z' b k = Z b k := fun b k hb => by
    rw [← hZ', x_u2_na _ _ _ _ (by omega), x_fi_na _ _ _ _ _ (by omega), lay_na (by omega), x_u2_na _ _ _ _ (by omega)]
  have eL : ∀ s k, s ≠ m_ns Z → k < 6 → Z' 41 (6 * s + k) = Z 41 (6 * s + k) := fun s k hs hk6 => by rw [e41, lay_no hs hk6]; rfl
  have eF : m_fo Z' (m_ns Z) := m_fo_sm (lay_fo (Z := x_u2 Z 40 (m_ns Z) kd) hi) (fun k _ => e41 _)
  have eN : ∀ k, k < 6 → m_nb Z' 41 (6 * 10 + k) = m_nb Z 41 (6 * 10 + k) := fun k hk6 => by
    unfold m_nb
    rw [e39 8 (by decide)]
    by_cases z : Z 39 8 = 0
    · rw [if_pos z, if_pos z]
      rcases (show k = 0 ∨ k = 1 ∨ k = 2 ∨ k = 3 ∨ k = 4 ∨ k = 5 by omega) with rfl | rfl | rfl | rfl | rfl | rfl <;> rfl
    · rw [if_neg z, if_neg z]
      exact eL 10 k (by omega) hk6
  refine ⟨by rw [e2, et]; omega, fun s hs => ?_, fun s hs => ?_, m_fo_sm h4 eN, fun k hk6 => ?_, fun k hk6 => by rw [eo 43 k (by decide)]; exact h6 k hk6, fun k hk6 => by rw [eo 44 k (by decide)]; exact h7 k hk6, fun e k he hk6 hc => ?_, by rw [e39 24 (by decide)]; exact h9, fun k hk6 => by rw [eo 53 k (by decide)]; exact h10_ k hk6, ?_, fun t s d ht hs hc => ?_, fun k hk6 => by rw [eo 45 k (by decide), eo 46 k (by decide)]; exact h13 k hk6⟩
  · by_cases e : s = m_ns Z
    · subst e; exact eF
    · exact m_fo_sm (h2 s (by omega)) (fun k hk6 => eL s k e hk6)
  · rw [e40, x_u2_at]
    by_cases e : s = m_ns Z
    · rw [if_pos ⟨rfl, e⟩]; exact hk
    · rw [if_neg (fun z => e z.2)]; exact h3 s (by omega)
  · rw [e42]
    by_cases e : 64 * m_ns Z ≤ k ∧ k < 64 * m_ns Z + 64
    · rw [x_fi_in _ _ e.1 e.2]; decide
    · rw [x_fi_out _ _ (by omega)]; exact h5 k hk6
  · rw [m_ce_sm eN] at hc
    rw [eo 44 _ (by decide)]
    exact h8 e k he hk6 hc
  · unfold g_pt g_sf at h11 ⊢
    rw [e39 26 (by decide), e2, et]
    rcases h11 with z | z
    · exact Or.inl z
    · exact Or.inr (by omega)
  · rw [eo 54 _ (by decide)]
    refine ⟨(h12 t s d ht hs hc).1, fun z => (h12 t s d ht hs hc).2 (fun y => z ?_)⟩
    have enh : m_nh Z' = m_nh Z := by unfold m_nh; rw [e39 24 (by decide)]
    rw [ens, enh, m_ce_sm (fun k hk6 => eL s k (by omega) hk6)]
    exact ⟨y.1, by omega, y.2.2⟩

set_option maxRecDepth 100000 in
set_option maxHeartbeats 4000000 in
theorem m_I.bd {Z : x_I} {a c u v w h : Int32} (hI : m_I Z) (hi : m_isf a.toInt c.toInt u.toInt v.toInt w.toInt h.toInt) : m_I (x_fi (m_lay (x_u2 Z 39 8 (nI 1)) 10 a c u v w h) 44 0 256 0) := by
  obtain ⟨h1, h2, h3, h4, h5, h6, h7, h8, h9, h10_, h11, h12, h13⟩ := hI
  have hq : m_ns Z = (Z 39 2).toInt.toNat := rfl
  generalize hZ' : x_fi (m_lay (x_u2 Z 39 8 (nI 1)) 10 a c u v w h) 44 0 256 0 = Z'
  have e41 : ∀ k, Z' 41 k = m_lay (x_u2 Z 39 8 (nI 1)) 10 a c u v w h 41 k := fun k => by rw [← hZ']; rfl
  have e39 : ∀ k, k ≠ 8 → Z' 39 k = Z 39 k := fun k hk1 => by
    rw [← hZ', x_fi_na _ _ _ _ _ (by decide), lay_na (by decide), x_u2_nk _ _ _ _ hk1]
  have e8 : Z' 39 8 = nI 1 := by rw [← hZ']; rfl
  have e44 : ∀ k, k < 256 → Z' 44 k = 0 := fun k hk1 => by rw [← hZ', x_fi_in _ _ (by omega) (by omega)]
  have eo : ∀ b k, b ≠ 39 → b ≠ 41 → b ≠ 44 → Z' b k = Z b k := fun b k b1 b2 b3 => by
    rw [← hZ', x_fi_na _ _ _ _ _ b3, lay_na b2, x_u2_na _ _ _ _ b1]
  have ens : m_ns Z' = m_ns Z := by unfold m_ns; rw [e39 2 (by decide)]
  have enh : m_nh Z' = m_nh Z := by unfold m_nh; rw [e39 24 (by decide)]
  have eL : ∀ s k, s ≠ 10 → k < 6 → Z' 41 (6 * s + k) = Z 41 (6 * s + k) := fun s k hs hk6 => by rw [e41, lay_no hs hk6]; rfl
  have eN : m_nb Z' = Z' := by unfold m_nb; rw [if_neg (by rw [e8]; decide)]
  have eF : m_fo Z' 10 := m_fo_sm (lay_fo (Z := x_u2 Z 39 8 (nI 1)) hi) (fun k _ => e41 _)
  refine ⟨by rw [e39 2 (by decide)]; exact h1, fun s hs => ?_, fun s hs => by rw [eo 40 s (by decide) (by decide) (by decide)]; exact h3 s (by omega), by rw [eN]; exact eF, fun k hk6 => by rw [eo 42 k (by decide) (by decide) (by decide)]; exact h5 k hk6, fun k hk6 => by rw [eo 43 k (by decide) (by decide) (by decide)]; exact h6 k hk6, fun k hk6 => by rw [e44 k hk6]; decide, fun e k he hk6 hc => by rw [e44 _ (by omega)]; decide, by rw [e39 24 (by decide)]; exact h9, fun k hk6 => by rw [eo 53 k (by decide) (by decide) (by decide)]; exact h10_ k hk6, ?_, fun t s d ht hs hc => ?_, fun k hk6 => by rw [eo 45 k (by decide) (by decide) (by decide), eo 46 k (by decide) (by decide) (by decide)]; exact h13 k hk6⟩
  · exact m_fo_sm (h2 s (by omega)) (fun k hk6 => eL s k (by omega) hk6)
  · unfold g_pt g_sf at h11 ⊢
    rw [e39 26 (by decide), e39 2 (by decide)]
    exact h11
  · rw [eo 54 _ (by decide) (by decide) (by decide), ens, enh, m_ce_sm (fun k hk6 => eL s k (by omega) hk6)]
    exact h12 t s d ht hs hc

theorem z_surface_mi {Z : x_I} {kd a c u v w h0 : Int32} (h : m_I Z) : m_I (z_surface Z kd a c u v w h0) := by
  unfold z_surface
  by_cases y1 : ¬ ((0 ≤ kd.toInt ∧ kd.toInt ≤ 2) ∧ m_isf a.toInt c.toInt u.toInt v.toInt w.toInt h0.toInt)
  · rw [x_if_t y1]; exact h
  · rw [x_if_f y1]
    by_cases y2 : (Z 39 2).toInt = 10
    · rw [x_if_t y2]; exact h
    · rw [x_if_f y2]
      exact h.sf y2 (Classical.byContradiction y1).1 (Classical.byContradiction y1).2

theorem z_board_mi {Z : x_I} {a c u v w h0 : Int32} (h : m_I Z) : m_I (z_board Z a c u v w h0) := by
  unfold z_board
  by_cases y1 : ¬ m_isf a.toInt c.toInt u.toInt v.toInt w.toInt h0.toInt
  · rw [x_if_t y1]; exact h
  · rw [x_if_f y1]
    exact h.bd (Classical.byContradiction y1)

theorem z_eye_mi {Z : x_I} {e x y z : Int32} (h : m_I Z) : m_I (z_eye Z e x y z) := by
  unfold z_eye
  by_cases y1 : ¬ g_ey e
  · rw [x_if_t y1]; exact h
  · rw [x_if_f y1]
    by_cases y2 : ¬ g_pl x y z
    · rw [x_if_t y2]; exact h
    · rw [x_if_f y2]
      exact h.ey (Classical.byContradiction y2)

theorem z_wish_mi {Z : x_I} {e : Int32} (h : m_I Z) : m_I (z_wish Z e) := by
  unfold z_wish
  by_cases y1 : g_ey e
  · rw [x_if_t y1]; exact h.nb
  · rw [x_if_f y1]
    exact h

theorem z_many_mi {Z : x_I} {w : Int32} (h : m_I Z) : m_I (z_many Z w) := by
  unfold z_many
  by_cases y1 : w.toInt = 2
  · rw [x_if_t y1]; exact h.nb
  · rw [x_if_f y1]
    exact h

theorem z_wishes_mi {Z : x_I} {s w : Int32} (h : m_I Z) : m_I (z_wishes Z s w) := by
  unfold z_wishes
  by_cases y1 : (0 ≤ s.toInt ∧ s.toInt ≤ 15) ∧ 0 ≤ w.toInt ∧ w.toInt ≤ 3
  · rw [x_if_t y1]; exact h.nb
  · rw [x_if_f y1]
    exact h

theorem z_idle_mi {Z : x_I} {s : Int32} (h : m_I Z) : m_I (z_idle Z s) := by
  unfold z_idle
  by_cases y1 : 0 ≤ s.toInt ∧ s.toInt ≤ 15
  · rw [x_if_t y1]; exact h.nb
  · rw [x_if_f y1]
    exact h

theorem z_painting_mi {Z : x_I} {s : Int32} (h : m_I Z) : m_I (z_painting Z s) := by
  unfold z_painting
  by_cases y1 : 0 ≤ s.toInt ∧ s.toInt ≤ 15
  · rw [x_if_t y1]; exact h.pa
  · rw [x_if_f y1]
    exact h

theorem z_sway_mi {Z : x_I} {e d w : Int32} (h : m_I Z) : m_I (z_sway Z e d w) := by
  unfold z_sway
  by_cases y1 : ¬ g_ey e
  · rw [x_if_t y1]; exact h
  · rw [x_if_f y1]
    by_cases y2 : ¬ ((1 ≤ d.toInt ∧ d.toInt ≤ 9) ∧ 0 ≤ w.toInt ∧ w.toInt ≤ 3)
    · rw [x_if_t y2]; exact h
    · rw [x_if_f y2]
      exact h.nb

theorem z_lose_mi {Z : x_I} {k : Int32} (h : m_I Z) : m_I (z_lose Z k) := by
  unfold z_lose
  by_cases y1 : ¬ g_ey k
  · rw [x_if_t y1]; exact h
  · rw [x_if_f y1]
    exact h.lo

theorem z_put_mi {Z : x_I} {k i v : Int32} (h : m_I Z) : m_I (z_put Z k i v) := by
  unfold z_put
  by_cases y1 : ¬ g_ey k
  · rw [x_if_t y1]; exact h.f0
  · rw [x_if_f y1]
    by_cases y2 : (Z 45 (x_k k)).toInt = -9
    · rw [x_if_t y2]; exact h.f0.f0
    · rw [x_if_f y2]
      by_cases y3 : ¬ (0 ≤ i.toInt ∧ i.toInt < (Z 46 (x_k k)).toInt)
      · rw [x_if_t y3]; exact h.f0.f0
      · rw [x_if_f y3]
        exact h.f0.s47

theorem z_sheet_mi {Z : x_I} {k l m : Int32} (h : m_I Z) : m_I (z_sheet Z k l m) := by
  unfold z_sheet
  by_cases y1 : ¬ g_ey k
  · rw [x_if_t y1]; exact h.f0
  · rw [x_if_f y1]
    by_cases y2 : ¬ ((0 ≤ l.toInt ∧ l.toInt ≤ 2) ∧ m.toInt ≤ 64)
    · rw [x_if_t y2]; exact h.f0
    · rw [x_if_f y2]
      by_cases y3 : m.toInt < 0
      · rw [x_if_t y3]; exact h.f0.f0
      · rw [x_if_f y3]
        have y4 := (Classical.byContradiction y2)
        exact h.f0.sh y4.1 ⟨by omega, y4.2⟩

theorem z_at_mi {Z : x_I} {k i l : Int32} (h : m_I Z) : m_I (z_at Z k i l) := by
  unfold z_at
  by_cases y1 : ¬ (g_ey k ∧ 0 ≤ l.toInt ∧ l.toInt ≤ 2)
  · rw [x_if_t y1]; exact h.f0
  · rw [x_if_f y1]
    by_cases y2 : ¬ m_ag (Z 45 (x_k k)).toInt (Z 46 (x_k k)).toInt l.toInt i.toInt 1 1 = 0
    · rw [x_if_t y2]; exact h.f0.f0
    · rw [x_if_f y2]
      exact h.f0

theorem z_as_mi {Z : x_I} {s k : Int32} (h : m_I Z) : m_I (z_as Z s k) := by
  unfold z_as
  by_cases y1 : ¬ g_sf Z s
  · rw [x_if_t y1]; exact h.f0
  · rw [x_if_f y1]
    by_cases y2 : ¬ (0 ≤ k.toInt ∧ k.toInt ≤ 2)
    · rw [x_if_t y2]; exact h.f0
    · rw [x_if_f y2]
      by_cases y3 : k.toInt ≤ (Z 40 (x_k s)).toInt
      · rw [x_if_t y3]; exact h.f0
      · rw [x_if_f y3]
        exact h.f0.f0

theorem z_hour_mi {Z : x_I} {a b c : Int32} (h : m_I Z) : m_I (z_hour Z a b c) := by
  unfold z_hour
  by_cases y1 : ¬ g_dr a b c 9
  · rw [x_if_t y1]; exact h
  · rw [x_if_f y1]
    by_cases y2 : (Z 39 24).toInt = 6
    · rw [x_if_t y2]; exact h
    · rw [x_if_f y2]
      exact h.hr (Classical.byContradiction y1) y2

theorem z_plate_mi {Z : x_I} {s : Int32} (h : m_I Z) : m_I (z_plate Z s) := by
  unfold z_plate
  by_cases y1 : ¬ (s.toInt = -1 ∨ g_sf Z s)
  · rw [x_if_t y1]; exact h
  · rw [x_if_f y1]
    refine h.pl ?_
    by_cases y2 : s.toInt = -1
    · rw [x_if_t y2]; exact Or.inl (by decide)
    · rw [x_if_f y2]; exact Or.inr ((Classical.byContradiction y1).resolve_left y2)

theorem z_paint_mi {Z : x_I} {s c v : Int32} (h : m_I Z) : m_I (z_paint Z s c v) := by
  unfold z_paint
  by_cases y1 : ¬ g_ce Z s c
  · rw [x_if_t y1]; exact h
  · rw [x_if_f y1]
    by_cases y2 : ¬ (0 ≤ v.toInt ∧ v.toInt ≤ 9)
    · rw [x_if_t y2]; exact h
    · rw [x_if_f y2]
      by_cases y3 : (Z 40 (x_k s)).toInt = 1
      · rw [x_if_t y3]; exact h
      · rw [x_if_f y3]
        refine h.c42 (fun b j hb => x_u2_na _ _ _ _ hb) (fun k hk => ?_)
        rw [x_u2_at]
        by_cases e : k = 64 * x_k s + x_k c
        · rw [if_pos ⟨rfl, e⟩]; exact (Classical.byContradiction y2)
        · rw [if_neg (fun z => e z.2)]; exact h.co k hk

theorem z_want_mi {Z : x_I} {t s c b : Int32} (h : m_I Z) (hb : b.toInt = 0 ∨ b.toInt = 1) : m_I (z_want Z t s c b) := by
  unfold z_want
  by_cases y1 : ¬ (g_hr Z t ∧ g_ce Z s c)
  · rw [x_if_t y1]; exact h
  · rw [x_if_f y1]
    have y2 := (Classical.byContradiction y1)
    have hn := h.hn
    obtain ⟨⟨z1, z2⟩, ⟨z3, z4⟩, z5, z6⟩ := y2
    have k1 : x_k t = t.toInt.toNat := rfl
    have k2 : x_k s = s.toInt.toNat := rfl
    have k3 : x_k c = c.toInt.toNat := rfl
    have h9 : m_ns Z = (Z 39 2).toInt.toNat := rfl
    have h7 : m_nh Z = (Z 39 24).toInt.toNat := rfl
    have hmc := m_ce_in (h.fo (x_k s) (by omega))
    exact h.c54 (fun b j hb => x_u2_na _ _ _ _ hb) (g_wa_u h.wa (by omega) (by omega) (by omega) (by omega) (by omega) hb)

theorem wash_mi {Z : x_I} (h : m_I Z) : m_I (x_fi Z 42 0 640 0) := h.c42 (fun b j hb => x_fi_na _ _ _ _ _ hb) (fun k hk => by rw [x_fi_in _ _ (by omega) (by omega)]; decide)
theorem z_wan1_mi {Z : x_I} {t s i N : Nat} (h : m_I Z) (ht : t < m_nh Z) : m_I (z_wan1 Z t s i N) := by
  unfold z_wan1
  by_cases y1 : ∃ j, j < N ∧ ¬ g_pair Z s i j
  · rw [x_if_t y1]; exact h
  · rw [x_if_f y1]
    have hn := h.hn
    have hh := h.hh
    have h9 : m_ns Z = (Z 39 2).toInt.toNat := rfl
    have h7 : m_nh Z = (Z 39 24).toInt.toNat := rfl
    have key : ∀ j, j ≤ N → g_wa (z_wr Z t s i j) := by
      intro j
      induction j with
      | zero => intro _; exact g_wa_0 h.wa
      | succ j ih =>
        intro hj
        have gp : g_pair Z s i j := Classical.byContradiction (fun z => y1 ⟨j, by omega, z⟩)
        have mt := m_to_in (t := t) h gp
        obtain ⟨⟨g1, g2⟩, g3, g4⟩ := gp
        have k2 : x_k (Z 47 (64 * s + i + 2 * j)) = (Z 47 (64 * s + i + 2 * j)).toInt.toNat := rfl
        have k3 : x_k (Z 47 (64 * s + i + 2 * j + 1)) = (Z 47 (64 * s + i + 2 * j + 1)).toInt.toNat := rfl
        rw [z_wr, mt.2.2]
        refine g_wa_u (ih (by omega)) ?_ ?_ mt.1 ?_ mt.2.1 (Or.inr (by decide))
        · show t < (z_wr Z t s i j 39 24).toInt.toNat
          rw [z_wr_na Z t s i (by decide)]; exact ht
        · show _ < (z_wr Z t s i j 39 2).toInt.toNat
          rw [z_wr_na Z t s i (by decide)]; omega
        · rw [m_ce_sm (Z := Z) (fun k _ => z_wr_na Z t s i (by decide) _ j)]; omega
    exact h.c54 (fun b j hb => z_wr_na Z t s i hb j N) (key N (Nat.le_refl _))

theorem z_wanted_mi {Z : x_I} {t s l i m : Int32} (h : m_I Z) : m_I (z_wanted Z t s l i m) := by
  unfold z_wanted
  by_cases y1 : ¬ (g_hr Z t ∧ g_ey s)
  · rw [x_if_t y1]; exact h.f0
  · rw [x_if_f y1]
    by_cases y2 : ¬ (0 ≤ l.toInt ∧ l.toInt ≤ 2)
    · rw [x_if_t y2]; exact h.f0
    · rw [x_if_f y2]
      by_cases y3 : ¬ m_ag (Z 45 (x_k s)).toInt (Z 46 (x_k s)).toInt l.toInt i.toInt m.toInt 2 = 0
      · rw [x_if_t y3]; exact h.f0.f0
      · rw [x_if_f y3]
        have y4 := (Classical.byContradiction y1)
        have g1 := y4.1.1
        have g2 := y4.1.2
        exact z_wan1_mi h.f0 (by show t.toInt.toNat < (Z 39 24).toInt.toNat; omega)

theorem z_pic1_mi {Z : x_I} {e s i N : Nat} (h : m_I Z) (he : e < 4) (hN : N = (m_ce (m_nb Z) 10).toNat) : m_I (z_pic1 Z e s i N) := by
  unfold z_pic1
  by_cases y1 : ∃ j, j < N ∧ ¬ g_cl (Z 47 (64 * s + i + j))
  · rw [x_if_t y1]; exact h
  · rw [x_if_f y1]
    exact h.pi he hN (fun j hj => Classical.byContradiction (fun z => y1 ⟨j, hj, z⟩))

theorem z_picture_mi {Z : x_I} {e s l i : Int32} (h : m_I Z) : m_I (z_picture Z e s l i) := by
  unfold z_picture
  by_cases y1 : ¬ (g_ey e ∧ g_ey s)
  · rw [x_if_t y1]; exact h.f0
  · rw [x_if_f y1]
    by_cases y2 : ¬ (0 ≤ l.toInt ∧ l.toInt ≤ 2)
    · rw [x_if_t y2]; exact h.f0
    · rw [x_if_f y2]
      have y4 := (Classical.byContradiction y1)
      have g1 := y4.1.1
      have g2 := y4.1.2
      have k1 : x_k e = e.toInt.toNat := rfl
      have hb := h.f0 (f := nI 0) |>.nb
      unfold z_pic2
      by_cases y3 : ¬ m_ag (m_nb (x_u2 Z 39 0 (nI 0)) 45 (x_k s)).toInt (m_nb (x_u2 Z 39 0 (nI 0)) 46 (x_k s)).toInt l.toInt i.toInt (m_ce (m_nb (x_u2 Z 39 0 (nI 0))) 10) 1 = 0
      · rw [x_if_t y3]; exact hb.f0
      · rw [x_if_f y3]; exact z_pic1_mi hb (by omega) (by rw [m_nb_nb])

