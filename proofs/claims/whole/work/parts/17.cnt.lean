/-! Counts, sums, fills. -/
def x_ct (p : Nat → Bool) : Nat → Nat
  | 0 => 0
  | n + 1 => x_ct p n + (if p n = true then 1 else 0)
theorem x_ct_le (p : Nat → Bool) : ∀ n, x_ct p n ≤ n
  | 0 => Nat.le_refl 0
  | n + 1 => by have := x_ct_le p n; unfold x_ct; split <;> omega
theorem x_ct_y {p : Nat → Bool} {k : Nat} (h : p k = true) : x_ct p k + 1 = x_ct p (k + 1) := by simp [x_ct, h]
theorem x_ct_n {p : Nat → Bool} {k : Nat} (h : p k = false) : x_ct p k + 0 = x_ct p (k + 1) := by simp [x_ct, h]
theorem x_ct_cg {p q : Nat → Bool} : ∀ n, (∀ k, k < n → p k = q k) → x_ct p n = x_ct q n
  | 0, _ => rfl
  | n + 1, h => by rw [x_ct, x_ct, x_ct_cg n (fun k hk => h k (by omega)), h n (by omega)]
def x_sm (f : Nat → Nat) : Nat → Nat
  | 0 => 0
  | n + 1 => x_sm f n + f n
theorem x_sm_cg {f g : Nat → Nat} : ∀ n, (∀ k, k < n → f k = g k) → x_sm f n = x_sm g n
  | 0, _ => rfl
  | n + 1, h => by rw [x_sm, x_sm, x_sm_cg n (fun k hk => h k (by omega)), h n (by omega)]
theorem x_sm_le {f : Nat → Nat} {c : Nat} : ∀ n, (∀ k, k < n → f k ≤ c) → x_sm f n ≤ n * c
  | 0, _ => by simp [x_sm]
  | n + 1, h => by
    have h1 := x_sm_le n (fun k hk => h k (by omega))
    have h2 := h n (by omega)
    rw [x_sm, Nat.succ_mul]; omega
/-- row a from lo on, k places, all v -/
def x_fi {α : Type} (I : Nat → Nat → α) (a lo k : Nat) (v : α) : Nat → Nat → α := fun b j => if b = a ∧ lo ≤ j ∧ j < lo + k then v else I b j
theorem x_fi_0 {α : Type} (I : Nat → Nat → α) (a lo : Nat) (v : α) : x_fi I a lo 0 v = I := by
  funext b j; unfold x_fi; rw [if_neg (by omega)]
theorem x_fi_s {α : Type} (I : Nat → Nat → α) (a lo k : Nat) (v : α) : x_u2 (x_fi I a lo k v) a (lo + k) v = x_fi I a lo (k + 1) v := by
  funext b j
  rw [x_u2_at]
  unfold x_fi
  by_cases h : b = a ∧ j = lo + k
  · rw [if_pos h, if_pos (by omega)]
  · rw [if_neg h]
    by_cases h2 : b = a ∧ lo ≤ j ∧ j < lo + k
    · rw [if_pos h2, if_pos (by omega)]
    · rw [if_neg h2, if_neg (by omega)]
theorem x_fi_s0 {α : Type} (I : Nat → Nat → α) (a k : Nat) (v : α) : x_u2 (x_fi I a 0 k v) a k v = x_fi I a 0 (k + 1) v := by
  have := x_fi_s I a 0 k v
  rw [Nat.zero_add] at this
  exact this
theorem x_fi_na {α : Type} (I : Nat → Nat → α) {a : Nat} (lo k : Nat) (v : α) {b : Nat} (j : Nat) (h : b ≠ a) : x_fi I a lo k v b j = I b j := by unfold x_fi; rw [if_neg (by omega)]
theorem x_fi_in {α : Type} (I : Nat → Nat → α) {a lo k : Nat} (v : α) {j : Nat} (h : lo ≤ j) (h2 : j < lo + k) : x_fi I a lo k v a j = v := by unfold x_fi; rw [if_pos ⟨rfl, h, h2⟩]
theorem x_fi_out {α : Type} (I : Nat → Nat → α) {a lo k : Nat} (v : α) {j : Nat} (h : j < lo ∨ lo + k ≤ j) : x_fi I a lo k v a j = I a j := by unfold x_fi; rw [if_neg (by omega)]
/-- row a from lo on, k places, told by g -/
def x_fg {α : Type} (I : Nat → Nat → α) (a lo k : Nat) (g : Nat → α) : Nat → Nat → α := fun b j => if b = a ∧ lo ≤ j ∧ j < lo + k then g (j - lo) else I b j
theorem x_fg_0 {α : Type} (I : Nat → Nat → α) (a lo : Nat) (g : Nat → α) : x_fg I a lo 0 g = I := by
  funext b j; unfold x_fg; rw [if_neg (by omega)]
theorem x_fg_s {α : Type} (I : Nat → Nat → α) (a lo k : Nat) (g : Nat → α) : x_u2 (x_fg I a lo k g) a (lo + k) (g k) = x_fg I a lo (k + 1) g := by
  funext b j
  rw [x_u2_at]
  unfold x_fg
  by_cases h : b = a ∧ j = lo + k
  · rw [if_pos h, if_pos (by omega)]
    congr 1; omega
  · rw [if_neg h]
    by_cases h2 : b = a ∧ lo ≤ j ∧ j < lo + k
    · rw [if_pos h2, if_pos (by omega)]
    · rw [if_neg h2, if_neg (by omega)]
theorem x_fg_na {α : Type} (I : Nat → Nat → α) {a : Nat} (lo k : Nat) (g : Nat → α) {b : Nat} (j : Nat) (h : b ≠ a) : x_fg I a lo k g b j = I b j := by unfold x_fg; rw [if_neg (by omega)]
theorem x_fg_in {α : Type} (I : Nat → Nat → α) {a lo k : Nat} (g : Nat → α) {j : Nat} (h : lo ≤ j) (h2 : j < lo + k) : x_fg I a lo k g a j = g (j - lo) := by unfold x_fg; rw [if_pos ⟨rfl, h, h2⟩]
theorem x_fg_out {α : Type} (I : Nat → Nat → α) {a lo k : Nat} (g : Nat → α) {j : Nat} (h : j < lo ∨ lo + k ≤ j) : x_fg I a lo k g a j = I a j := by unfold x_fg; rw [if_neg (by omega)]
/-- how many cells of a surface aren't bare -/
def m_pa (I : x_I) (s : Nat) : Nat := x_ct (fun k => decide (0 < (I 42 (64 * s + k)).toInt)) (m_ce I s).toNat
def m_ns (I : x_I) : Nat := (I 39 2).toInt.toNat
