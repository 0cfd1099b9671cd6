def r3 (x y z : Int) : Nat → Int := fun k => if k = 0 then x else if k = 1 then y else z
def r_eq (p p' : Nat → Int) : Prop := ∀ a, a < 3 → p a = p' a
theorem r_o1_lt (a : Nat) : r_o1 a < 3 := by unfold r_o1; split <;> omega
theorem r_o2_lt (a : Nat) : r_o2 a < 3 := by unfold r_o2; split <;> omega
theorem r_a_lt {Z : x_I} {s : Nat} (h : m_fo Z s) : r_a Z s < 3 := by
  obtain ⟨f0, -⟩ := h
  unfold r_a x_k; omega
theorem r_com_cp {Z : x_I} {fine : Int} {p p' q q' : Nat → Int} {lu ld : Int} {s : Nat} (h : m_fo Z s) (hp : r_eq p p') (hq : r_eq q q') : r_com Z fine p q lu ld s = r_com Z fine p' q' lu ld s := by
  have ha := r_a_lt h
  have e1 : r_up Z fine p q s = r_up Z fine p' q' s := by unfold r_up; rw [hp _ ha, hq _ ha]
  have e2 : r_dn Z q s = r_dn Z q' s := by unfold r_dn; rw [hq _ ha]
  have e3 : r_i Z fine p q s = r_i Z fine p' q' s := by unfold r_i r_w; rw [e1, e2, hp _ (r_o1_lt _), hq _ (r_o1_lt _)]
  have e4 : r_jj Z fine p q s = r_jj Z fine p' q' s := by unfold r_jj r_w; rw [e1, e2, hp _ (r_o2_lt _), hq _ (r_o2_lt _)]
  unfold r_com
  rw [e1, e2, e3, e4, hq _ ha]
theorem r_best_cp {Z : x_I} {fine : Int} {p p' q q' : Nat → Int} {lu ld w : Int} (hp : r_eq p p') (hq : r_eq q q') : ∀ n, (∀ s, s < n → m_fo Z s) → r_best Z fine p q lu ld w n = r_best Z fine p' q' lu ld w n
  | 0, _ => rfl
  | n + 1, h => by unfold r_best; rw [r_best_cp hp hq n (fun s hs => h s (by omega)), r_com_cp (h n (by omega)) hp hq]
theorem r_best_s {Z : x_I} {fine : Int} {p q : Nat → Int} {lu ld w : Int} : ∀ (n : Nat) {s c : Nat} {u d : Int}, r_best Z fine p q lu ld w n = some (s, c, u, d) → s < n
  | 0, s, c, u, d, h => by cases h
  | n + 1, s, c, u, d, h => by
    have ih := fun {s c : Nat} {u d : Int} (h : r_best Z fine p q lu ld w n = some (s, c, u, d)) => r_best_s n h
    unfold r_best at h
    generalize (if (n : Int) = w then none else r_com Z fine p q lu ld n) = y at h
    cases y with
    | none => have := ih h; omega
    | some v =>
      obtain ⟨c1, u1, d1⟩ := v
      cases hb : r_best Z fine p q lu ld w n with
      | none => rw [hb] at h; cases h; omega
      | some v2 =>
        obtain ⟨s2, c2, u2, d2⟩ := v2
        rw [hb] at h
        unfold r_pick at h
        simp only at h
        split at h
        · cases h; omega
        · cases h; have := ih hb; omega
theorem r_eq.upd {p p' : Nat → Int} (h : r_eq p p') (a : Nat) {v v' : Int} (hv : v = v') : r_eq (r_upd p a v) (r_upd p' a v') := by
  intro b hb
  unfold r_upd
  rw [hv]
  split
  · rfl
  · exact h b hb
theorem r_end_cp {Z : x_I} {fine w : Int} (hfo : ∀ s, s < m_ns Z → m_fo Z s) : ∀ (k : Nat) {p p' q q' : Nat → Int} {lu ld : Int}, r_eq p p' → r_eq q q' → r_end Z fine w k p q lu ld = r_end Z fine w k p' q' lu ld := by
  intro k
  induction k with
  | zero =>
    intro p p' q q' lu ld hp hq
    rw [r_end, r_end, r_best_cp hp hq _ hfo]
  | succ k ih =>
    intro p p' q q' lu ld hp hq
    rw [r_end, r_end, r_best_cp hp hq _ hfo]
    cases hb : r_best Z fine p' q' lu ld w (m_ns Z) with
    | none => rfl
    | some v =>
      obtain ⟨s, c, u, d⟩ := v
      have ha := r_a_lt (hfo s (r_best_s _ hb))
      simp only
      rw [ih (hp.upd (r_a Z s) (v := 2 * (Z 41 (6 * s + 1)).toInt * fine - p (r_a Z s)) (by rw [hp _ ha])) (hq.upd (r_a Z s) (v := -q (r_a Z s)) (by rw [hq _ ha]))]
theorem m_fo_cg {Z Z' : x_I} (h : ∀ j, Z' 41 j = Z 41 j) {s : Nat} (hf : m_fo Z s) : m_fo Z' s := by
  unfold m_fo at hf ⊢; simp only [h]; exact hf
theorem r_end_cg {Z Z' : x_I} (h : ∀ j, Z' 41 j = Z 41 j) (h0 : ∀ s, s < m_ns Z → Z' 40 s = Z 40 s) (h2 : ∀ s c, s < m_ns Z → c < 64 → Z' 42 (64 * s + c) = Z 42 (64 * s + c)) (hn : Z' 39 2 = Z 39 2) (hfo : ∀ s, s < m_ns Z → m_fo Z s) {fine w : Int} (hf : fine = 1 ∨ fine = 2) : ∀ (k b : Nat), b + k = 3 → ∀ {p q : Nat → Int} {lu ld : Int}, (∀ a, a < 3 → -(90 + 160 * (b : Int)) ≤ p a ∧ p a ≤ 90 + 160 * (b : Int)) → (∀ a, a < 3 → -100 ≤ q a ∧ q a ≤ 100) →
    r_end Z' fine w k p q lu ld = r_end Z fine w k p q lu ld := by
  have hns : m_ns Z' = m_ns Z := by unfold m_ns; rw [hn]
  have htb : ∀ s c, s < m_ns Z → c < 64 → r_tb Z' s c = r_tb Z s c := fun s c hs hc => by unfold r_tb; rw [h0 s hs, h2 s c hs hc]
  have hra : ∀ s, r_a Z' s = r_a Z s := fun s => by unfold r_a; rw [h]
  intro k
  induction k with
  | zero =>
    intro b hb3 p q lu ld hp hq
    rw [r_end, r_end, hns, r_best_cg h]
    cases hb : r_best Z fine p q lu ld w (m_ns Z) with
    | none => rfl
    | some v =>
      obtain ⟨s, c, u, d⟩ := v
      have hin := r_best_in (fun a ha => by have := hp a ha; omega) hq hf _ hfo hb
      simp only
      rw [htb s c hin.1 hin.2.2.1]
  | succ k ih =>
    intro b hb3 p q lu ld hp hq
    rw [r_end, r_end, hns, r_best_cg h]
    cases hb : r_best Z fine p q lu ld w (m_ns Z) with
    | none => rfl
    | some v =>
      obtain ⟨s, c, u, d⟩ := v
      have hin := r_best_in (fun a ha => by have := hp a ha; omega) hq hf _ hfo hb
      have hfs := hfo s hin.1
      have ha := r_a_lt hfs
      obtain ⟨f0, f1, -⟩ := hfs
      have g4 := x_pb (a := 2 * (Z 41 (6 * s + 1)).toInt) (b := fine) (A := 80) (B := 2) (by omega) (by omega) (by omega) (by omega)
      simp only
      rw [htb s c hin.1 hin.2.2.1, hra, h]
      have e := ih (b + 1) (by omega) (p := r_upd p (r_a Z s) (2 * (Z 41 (6 * s + 1)).toInt * fine - p (r_a Z s))) (q := r_upd q (r_a Z s) (-q (r_a Z s))) (lu := u) (ld := d) (fun a2 ha2 => by
        have := hp a2 ha2
        have := hp _ ha
        unfold r_upd
        split <;> omega) (fun a2 ha2 => by
        have := hq a2 ha2
        have := hq _ ha
        unfold r_upd
        split <;> omega)
      rw [e]
