/-! The class's memory (rows 1 .. 38 and those from 63 on), told by the reference's rows Z. -/
def c_kc (z : Int32) : Nat := if z.toInt = 0 then 10 else if z.toInt = 1 then 5 else 0
def c_ok (ci : Nat) : Prop := ci = 10 ∨ ci = 5 ∨ ci = 0
theorem c_kc_ok (z : Int32) : c_ok (c_kc z) := by
  unfold c_kc c_ok
  split
  · exact Or.inl rfl
  · split
    · exact Or.inr (Or.inl rfl)
    · exact Or.inr (Or.inr rfl)
def c_fl (I : x_I) (a : Nat) (Z : x_I) (s : Nat) : Prop := I a 0 = Z 41 (6 * s) ∧ I a 1 = Z 41 (6 * s + 1) ∧ I a 2 = Z 41 (6 * s + 2) ∧ I a 3 = Z 41 (6 * s + 3) ∧ I a 4 = Z 41 (6 * s + 4) ∧ I a 5 = Z 41 (6 * s + 5) ∧ I a 6 = nI (r_o1 (r_a Z s)) ∧ I a 7 = nI (r_o2 (r_a Z s)) ∧ I a 8 = Z 41 (6 * s + 4) * Z 41 (6 * s + 5)
/-- a surface: its flat, its wall, its colours lie one behind the other -/
def c_w (fa : Nat → Nat) (Z : x_I) (S : x_S) (P : x_P) (I : x_I) (n s : Nat) : Prop :=
  (63 ≤ fa s ∧ fa s + 2 ≤ n) ∧ S (fa s) = .inl 1 ∧ S (fa s + 1) = .inl (c_kc (Z 40 s)) ∧ S (fa s + 2) = .inr (0, (m_ce Z s).toNat) ∧ P 4 s = some (fa s + 1) ∧ P (fa s + 1) 1 = some (fa s) ∧ P (fa s + 1) 2 = some (fa s + 2) ∧ I (fa s + 1) 0 = nI s ∧ c_fl I (fa s) Z s ∧ ∀ k, k < (m_ce Z s).toNat → I (fa s + 2) k = Z 42 (64 * s + k)
def c_Wl (fa : Nat → Nat) (Z : x_I) (S : x_S) (P : x_P) (I : x_I) (n : Nat) : Prop := (∀ s, s < m_ns Z → c_w fa Z S P I n s) ∧ (∀ s t, s < t → t < m_ns Z → fa s + 2 < fa t) ∧ I 3 1 = Z 39 2
def c_Bd (bd : Nat) (Z : x_I) (S : x_S) (P : x_P) (I : x_I) (n : Nat) : Prop := (bd = 19 ∨ 63 ≤ bd) ∧ bd ≤ n ∧ P 8 8 = some bd ∧ S bd = .inl 1 ∧ c_fl I bd (m_nb Z) 10
def c_Ey (Z I : x_I) : Prop := ∀ k, k < 12 → I 9 k = Z 43 k
def c_Pi (Z I : x_I) : Prop := ∀ e k, e < 4 → k < 64 → I (11 + e) k = Z 44 (64 * e + k)
def c_pn (z : Int32) : Int32 := if z.toInt = -9 then -1 else z
def c_Li (Z I : x_I) : Prop := I 20 6 = Z 39 24 ∧ I 20 7 = c_pn (Z 39 26) ∧ ∀ k, k < 18 → I 21 k = Z 53 k
def c_Wa (Z : x_I) (J : x_J) : Prop := ∀ t s c, t < 6 → s < 10 → c < 64 → x_lb (J 22 (10 * t + s)) c = decide (¬ (Z 54 (640 * t + 64 * s + c)).toInt = 0)
def c_Sh (Z I : x_I) : Prop := ∀ k, k < 4 → I 37 k = c_pn (Z 45 k) ∧ (¬ (Z 45 k).toInt = -9 → I 38 k = Z 46 k) ∧ ∀ i, i < 64 → I (33 + k) i = Z 47 (64 * k + i)
def c_R (fa : Nat → Nat) (bd : Nat) (Z : x_I) (S : x_S) (P : x_P) (I : x_I) (J : x_J) (n : Nat) : Prop :=
  (x_hS S ∧ x_hP P ∧ 62 ≤ n) ∧ c_Wl fa Z S P I n ∧ c_Bd bd Z S P I n ∧ c_Ey Z I ∧ c_Pi Z I ∧ c_Li Z I ∧ c_Wa Z J ∧ c_Sh Z I ∧ I 31 3 = Z 39 0 ∧ I 2 0 = Z 39 1
def c_S (Z : x_I) (S : x_S) (P : x_P) (I : x_I) (J : x_J) (n : Nat) : Prop := ∃ fa bd, c_R fa bd Z S P I J n
/-- what holds of the reference's rows between calls -/
def g_kd (Z : x_I) : Prop := ∀ s, s < m_ns Z → 0 ≤ (Z 40 s).toInt ∧ (Z 40 s).toInt ≤ 2
def g_co (Z : x_I) : Prop := ∀ k, k < 640 → 0 ≤ (Z 42 k).toInt ∧ (Z 42 k).toInt ≤ 9
def g_pz (Z : x_I) : Prop := ∀ e k : Nat, e < 4 → k < 64 → m_ce (m_nb Z) 10 ≤ (k : Int) → (Z 44 (64 * e + k)).toInt = 0
def g_wa (Z : x_I) : Prop := ∀ t s c : Nat, t < 6 → s < 10 → c < 64 → ((Z 54 (640 * t + 64 * s + c)).toInt = 0 ∨ (Z 54 (640 * t + 64 * s + c)).toInt = 1) ∧ (¬ (t < m_nh Z ∧ s < m_ns Z ∧ (c : Int) < m_ce Z s) → (Z 54 (640 * t + 64 * s + c)).toInt = 0)
def g_la (Z : x_I) : Prop := ∀ k, k < 4 → ((Z 45 k).toInt = -9 ∨ (0 ≤ (Z 45 k).toInt ∧ (Z 45 k).toInt ≤ 2)) ∧ 0 ≤ (Z 46 k).toInt ∧ (Z 46 k).toInt ≤ 64
def m_I (Z : x_I) : Prop := (0 ≤ (Z 39 2).toInt ∧ (Z 39 2).toInt ≤ 10) ∧ (∀ s, s < m_ns Z → m_fo Z s) ∧ g_kd Z ∧ m_fo (m_nb Z) 10 ∧ g_co Z ∧ g_es Z ∧ g_pc Z ∧ g_pz Z ∧ (0 ≤ (Z 39 24).toInt ∧ (Z 39 24).toInt ≤ 6) ∧ g_ws Z ∧ g_pt Z ∧ g_wa Z ∧ g_la Z
/-- the class's scratch; all that isn't the class's state; all of the class's rows -/
def cE (a _k : Nat) : Bool := Nat.beq a 5 || (Nat.beq a 6 || Nat.beq a 7)
def cF (a _k : Nat) : Bool := Nat.beq a 5 || (Nat.beq a 6 || (Nat.beq a 7 || (Nat.beq a 8 || ((Nat.ble 15 a && Nat.ble a 18) || (Nat.ble 23 a && Nat.ble a 30)))))
def cN (a k : Nat) : Bool := cF a k || (Nat.ble 39 a && Nat.ble a 62)
def cC (a _k : Nat) : Bool := (Nat.ble 1 a && Nat.ble a 38) || Nat.ble 63 a
theorem x_blt {a b : Nat} (h : a < b) : Nat.ble b a = false := by
  cases hc : Nat.ble b a with
  | true => exact absurd (Nat.le_of_ble_eq_true hc) (by omega)
  | false => rfl
theorem x_bne {a b : Nat} (h : a ≠ b) : Nat.beq a b = false := by rw [x_bq, decide_eq_false h]
theorem cF_hi {a : Nat} (h : 63 ≤ a) (k : Nat) : cF a k = false := by
  unfold cF
  rw [x_bne (by omega), x_bne (by omega), x_bne (by omega), x_bne (by omega), x_blt (show 18 < a by omega), x_blt (show 30 < a by omega)]
  simp
theorem cN_hi {a : Nat} (h : 63 ≤ a) (k : Nat) : cN a k = false := by
  unfold cN
  rw [cF_hi h, x_blt (show 62 < a by omega)]
  simp
theorem cF_N {a k : Nat} (h : cN a k = false) : cF a k = false := by
  unfold cN at h
  cases hc : cF a k with
  | true => rw [hc] at h; cases h
  | false => rfl
theorem x_ex.FN {I I' : x_I} {J J' : x_J} (h : x_ex cF I I' J J') : x_ex cN I I' J J' := fun a k hk => h a k (cF_N hk)
theorem cF_C {a k : Nat} (h : cC a k = false) : cF a k = false := by
  unfold cC at h
  simp only [Bool.or_eq_false_iff, Bool.and_eq_false_iff] at h
  have h2 : ¬ 63 ≤ a := fun q => by rw [Nat.ble_eq_true_of_le q] at h; cases h.2
  have h3 : a < 1 ∨ 38 < a := by
    rcases h.1 with q | q
    · exact Or.inl (Nat.lt_of_not_le fun z => by rw [Nat.ble_eq_true_of_le z] at q; cases q)
    · exact Or.inr (Nat.lt_of_not_le fun z => by rw [Nat.ble_eq_true_of_le z] at q; cases q)
  unfold cF
  rcases h3 with q | q
  · rw [x_bne (by omega), x_bne (by omega), x_bne (by omega), x_bne (by omega), x_blt (show a < 15 by omega), x_blt (show a < 23 by omega)]
    simp
  · rw [x_bne (by omega), x_bne (by omega), x_bne (by omega), x_bne (by omega), x_blt (show 18 < a by omega), x_blt (show 30 < a by omega)]
    simp
theorem x_ex.FC {I I' : x_I} {J J' : x_J} (h : x_ex cF I I' J J') : x_ex cC I I' J J' := fun a k hk => h a k (cF_C hk)
theorem cE_F {a k : Nat} (h : cF a k = false) : cE a k = false := by
  unfold cF at h
  simp only [Bool.or_eq_false_iff] at h
  unfold cE
  rw [h.1, h.2.1, h.2.2.1]
  rfl
theorem x_ex.EF {I I' : x_I} {J J' : x_J} (h : x_ex cE I I' J J') : x_ex cF I I' J J' := fun a k hk => h a k (cE_F hk)
theorem x_ex.EN {I I' : x_I} {J J' : x_J} (h : x_ex cE I I' J J') : x_ex cN I I' J J' := h.EF.FN
theorem x_ex.EC {I I' : x_I} {J J' : x_J} (h : x_ex cE I I' J J') : x_ex cC I I' J J' := h.EF.FC
/-- references but that of the ray's next wall -/
def p_ex (P P' : x_P) : Prop := ∀ a k, ¬ (a = 5 ∧ k = 5) → P' a k = P a k
theorem p_ex.rf {P : x_P} : p_ex P P := fun _ _ _ => rfl
theorem p_ex.tr {P P' P'' : x_P} (h : p_ex P P') (h2 : p_ex P' P'') : p_ex P P'' := fun a k hk => (h2 a k hk).trans (h a k hk)
theorem p_ex.u {P P' : x_P} {v : Option Nat} (h : p_ex P P') : p_ex P (x_u2 P' 5 5 v) := fun a k hk => by
  rw [x_u2_at, if_neg hk]; exact h a k hk
theorem p_ex.hP {P P' : x_P} (h : p_ex P P') (hP : x_hP P) : x_hP P' := fun a k r hr => by
  by_cases e : a = 5 ∧ k = 5
  · obtain ⟨rfl, rfl⟩ := e
    cases hr
  · rw [h a k e]; exact hP a k r hr
theorem c_fl.cg {I I' : x_I} {a : Nat} {Z : x_I} {s : Nat} (h : c_fl I a Z s) (hI : ∀ k, I' a k = I a k) : c_fl I' a Z s := by
  unfold c_fl at h ⊢; simp only [hI]; exact h
theorem c_fl.cz {I : x_I} {a : Nat} {Z Z' : x_I} {s : Nat} (h : c_fl I a Z s) (hZ : ∀ k, k < 6 → Z' 41 (6 * s + k) = Z 41 (6 * s + k)) : c_fl I a Z' s := by
  have e0 := hZ 0 (by omega)
  rw [Nat.add_zero] at e0
  unfold c_fl r_a at h ⊢
  rw [e0, hZ 1 (by omega), hZ 2 (by omega), hZ 3 (by omega), hZ 4 (by omega), hZ 5 (by omega)]
  exact h
theorem c_w.cg {fa : Nat → Nat} {Z : x_I} {S : x_S} {P P' : x_P} {I I' : x_I} {n s : Nat} (h : c_w fa Z S P I n s) (hI : ∀ a k, 63 ≤ a → I' a k = I a k) (hP : p_ex P P') : c_w fa Z S P' I' n s := by
  obtain ⟨h1, h2, h3, h4, h5, h6, h7, h8, h9, h10⟩ := h
  refine ⟨h1, h2, h3, h4, ?_, ?_, ?_, ?_, ?_, ?_⟩
  · rw [hP _ _ (by omega)]; exact h5
  · rw [hP _ _ (by omega)]; exact h6
  · rw [hP _ _ (by omega)]; exact h7
  · rw [hI _ _ (by omega)]; exact h8
  · exact h9.cg (fun k => hI _ _ h1.1)
  · intro k hk; rw [hI _ _ (by omega)]; exact h10 k hk
theorem c_Wl.cg {fa : Nat → Nat} {Z : x_I} {S : x_S} {P P' : x_P} {I I' : x_I} {n : Nat} (h : c_Wl fa Z S P I n) (hI : ∀ a k, 63 ≤ a → I' a k = I a k) (h3 : I' 3 1 = I 3 1) (hP : p_ex P P') : c_Wl fa Z S P' I' n :=
  ⟨fun s hs => (h.1 s hs).cg hI hP, h.2.1, h3.trans h.2.2⟩
theorem c_Bd.cg {bd : Nat} {Z : x_I} {S : x_S} {P P' : x_P} {I I' : x_I} {n : Nat} (h : c_Bd bd Z S P I n) (hI : ∀ k, I' bd k = I bd k) (hP : p_ex P P') : c_Bd bd Z S P' I' n :=
  ⟨h.1, h.2.1, by rw [hP _ _ (by omega)]; exact h.2.2.1, h.2.2.2.1, h.2.2.2.2.cg hI⟩
theorem c_R.cg {fa : Nat → Nat} {bd : Nat} {Z : x_I} {S : x_S} {P P' : x_P} {I I' : x_I} {J J' : x_J} {n : Nat} (h : c_R fa bd Z S P I J n) (hI : x_ex cN I I' J J') (hP : p_ex P P') : c_R fa bd Z S P' I' J' n := by
  obtain ⟨⟨a1, a2, a3⟩, h1, h2, h3, h4, h5, h6, h7, h8, h9⟩ := h
  refine ⟨⟨a1, hP.hP a2, a3⟩, h1.cg (fun a k ha => hI.i a k (cN_hi ha k)) (hI.i 3 1 rfl) hP, h2.cg (fun k => ?_) hP, ?_, ?_, ?_, ?_, ?_, ?_, ?_⟩
  · rcases h2.1 with e | e
    · subst e; exact hI.i 19 k rfl
    · exact hI.i bd k (cN_hi e k)
  · intro k hk; rw [hI.i 9 k rfl]; exact h3 k hk
  · intro e k he hk
    rw [hI.i (11 + e) k (by rcases (show e = 0 ∨ e = 1 ∨ e = 2 ∨ e = 3 by omega) with rfl | rfl | rfl | rfl <;> rfl)]
    exact h4 e k he hk
  · refine ⟨by rw [hI.i 20 6 rfl]; exact h5.1, by rw [hI.i 20 7 rfl]; exact h5.2.1, fun k hk => by rw [hI.i 21 k rfl]; exact h5.2.2 k hk⟩
  · intro t s c ht hs hc; rw [hI.j 22 _ rfl]; exact h6 t s c ht hs hc
  · intro k hk
    obtain ⟨b1, b2, b3⟩ := h7 k hk
    refine ⟨by rw [hI.i 37 k rfl]; exact b1, fun q => by rw [hI.i 38 k rfl]; exact b2 q, fun i hi => ?_⟩
    rw [hI.i (33 + k) i (by rcases (show k = 0 ∨ k = 1 ∨ k = 2 ∨ k = 3 by omega) with rfl | rfl | rfl | rfl <;> rfl)]
    exact b3 i hi
  · rw [hI.i 31 3 rfl]; exact h8
  · rw [hI.i 2 0 rfl]; exact h9
theorem c_R.cgE {fa : Nat → Nat} {bd : Nat} {Z : x_I} {S : x_S} {P P' : x_P} {I I' : x_I} {J J' : x_J} {n : Nat} (h : c_R fa bd Z S P I J n) (hI : x_ex cE I I' J J') (hP : p_ex P P') : c_R fa bd Z S P' I' J' n := h.cg hI.EN hP
theorem c_R.cgF {fa : Nat → Nat} {bd : Nat} {Z : x_I} {S : x_S} {P P' : x_P} {I I' : x_I} {J J' : x_J} {n : Nat} (h : c_R fa bd Z S P I J n) (hI : x_ex cF I I' J J') (hP : p_ex P P') : c_R fa bd Z S P' I' J' n := h.cg hI.FN hP
/-- what isn't the reference's state -/
def mG (a k : Nat) : Bool := mF a k || (Nat.ble a 38 || Nat.ble 63 a)

