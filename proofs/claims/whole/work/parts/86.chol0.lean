/-! The class's holes. -/
theorem x_ct_sub {p : Nat → Bool} {q : Nat → Nat → Bool} : ∀ (n w : Nat), (∀ b, b < n → p b = true → ∃ i, i < w ∧ q i b = true) → x_ct p n ≤ x_sm (fun i => x_ct (q i) n) w
  | 0, w, _ => Nat.zero_le _
  | n + 1, w, h => by
    have ih := x_ct_sub n w (fun b hb => h b (by omega))
    have e : ∀ w', x_sm (fun i => x_ct (q i) (n + 1)) w' = x_sm (fun i => x_ct (q i) n) w' + x_ct (fun i => q i n) w' := by
      intro w'
      induction w' with
      | zero => rfl
      | succ w' ih2 => rw [x_sm, x_sm, ih2, x_ct, x_ct]; omega
    rw [e, x_ct]
    by_cases hp : p n = true
    · rw [if_pos hp]
      obtain ⟨i, i1, i2⟩ := h n (by omega) hp
      have h1 := x_ct_y (p := fun i => q i n) i2
      have h2 := x_ct_mo (fun i => q i n) (show i + 1 ≤ w by omega)
      omega
    · rw [if_neg hp]; omega
theorem x_on_ext {a b c d : Int64} (h : ∀ k, k < 128 → x_on a b k = x_on c d k) : a = c ∧ b = d := by
  constructor
  · apply Int64.toBitVec_inj.1
    apply BitVec.eq_of_getLsbD_eq
    intro i hi
    have := h i (by omega)
    unfold x_on at this
    rw [if_pos hi, if_pos hi] at this
    exact this
  · apply Int64.toBitVec_inj.1
    apply BitVec.eq_of_getLsbD_eq
    intro i hi
    have := h (i + 64) (by omega)
    unfold x_on at this
    rw [if_neg (by omega), if_neg (by omega), Nat.add_sub_cancel] at this
    exact this
theorem x_on_or (a b c d : Int64) (k : Nat) : x_on (a ||| c) (b ||| d) k = (x_on a b k || x_on c d k) := by
  unfold x_on
  split <;> exact x_lb_or _ _ _
theorem x_lb_m1 {b : Nat} (hb : b < 64) : x_lb (-1) b = true := by
  have : ∀ b : Fin 64, x_lb (-1) b.1 = true := by decide
  exact this ⟨b, hb⟩
theorem x_lb_an (v w : Int64) {b : Nat} (hb : b < 64) : x_lb (v &&& (w ^^^ -1)) b = (x_lb v b && !(x_lb w b)) := by
  have h1 : x_lb (v &&& (w ^^^ -1)) b = (x_lb v b && x_lb (w ^^^ -1) b) := by unfold x_lb; rw [Int64.toBitVec_and, BitVec.getLsbD_and]
  rw [h1, x_lb_xor, x_lb_m1 hb, Bool.xor_true]
theorem x_on_an (a b c d : Int64) {k : Nat} (hk : k < 128) : x_on (a &&& (c ^^^ -1)) (b &&& (d ^^^ -1)) k = (x_on a b k && !(x_on c d k)) := by
  unfold x_on
  split
  · exact x_lb_an _ _ (by omega)
  · exact x_lb_an _ _ (by omega)
theorem x_on_pc (a b : Int64) : x_ct (x_lb a) 64 + x_ct (x_lb b) 64 = x_ct (x_on a b) 128 := by
  have e1 : x_ct (x_lb a) 64 = x_ct (x_on a b) 64 := x_ct_cg 64 (fun k hk => by unfold x_on; rw [if_pos hk])
  have e2 : x_ct (x_lb b) 64 = x_ct (fun j => x_on a b (64 + j)) 64 := x_ct_cg 64 (fun k hk => by unfold x_on; rw [if_neg (by omega), Nat.add_sub_cancel_left])
  rw [e1, e2]
  exact (x_ct_ab (x_on a b) 64 64).symm
/-- the mask of a row -/
def h_mk (R : Nat → Nat) : Nat → Nat
  | 0 => 0
  | g + 1 => h_mk R g + 2 ^ R g
theorem h_mk_cg {R Q : Nat → Nat} : ∀ g, (∀ i, i < g → R i = Q i) → h_mk R g = h_mk Q g
  | 0, _ => rfl
  | g + 1, h => by rw [h_mk, h_mk, h_mk_cg g (fun i hi => h i (by omega)), h g (by omega)]
theorem h_mk_lt {R : Nat → Nat} {w : Nat} : ∀ g, (∀ i j, i < j → j < g → R i < R j) → (∀ i, i < g → R i < w) → h_mk R g < 2 ^ w
  | 0, _, _ => Nat.pow_pos (by decide)
  | g + 1, h, hw => by
    have ih := h_mk_lt (R := R) (w := R g) g (fun i j h1 h2 => h i j h1 (by omega)) (fun i hi => h i g hi (by omega))
    have h1 := hw g (by omega)
    have h2 : 2 ^ (R g + 1) ≤ 2 ^ w := Nat.pow_le_pow_right (by decide) h1
    rw [h_mk]
    rw [Nat.pow_succ] at h2
    omega
theorem f_bi_ad {a k c : Nat} (h : a < 2 ^ k) : f_bi (a + 2 ^ k) c = 1 ↔ (f_bi a c = 1 ∨ c = k) := by
  have hb : ∀ m, f_bi m c = 1 ↔ m.testBit c = true := fun m => by unfold f_bi; rw [Nat.testBit_eq_decide_div_mod_eq, decide_eq_true_eq]
  rw [hb, hb, show a + 2 ^ k = 2 ^ k * 1 + a by omega, Nat.testBit_two_pow_mul_add _ h]
  rcases Nat.lt_trichotomy c k with w | w | w
  · rw [if_pos w]; exact ⟨Or.inl, fun q => q.elim id (fun z => by omega)⟩
  · subst w
    rw [if_neg (Nat.lt_irrefl _), Nat.sub_self]
    exact ⟨fun _ => Or.inr rfl, fun _ => rfl⟩
  · rw [if_neg (by omega)]
    have e1 : Nat.testBit 1 (c - k) = false := Bool.eq_false_iff.mpr (fun z => by have := Nat.testBit_one_eq_true_iff_self_eq_zero.mp z; omega)
    rw [e1, Nat.testBit_lt_two_pow (Nat.lt_of_lt_of_le h (Nat.pow_le_pow_right (by decide) (by omega)))]
    exact ⟨(fun z => by cases z), fun q => q.elim (fun z => by cases z) (fun z => by omega)⟩
theorem h_mk_bi {R : Nat → Nat} {c : Nat} : ∀ g, (∀ i j, i < j → j < g → R i < R j) → (f_bi (h_mk R g) c = 1 ↔ ∃ i, i < g ∧ R i = c)
  | 0, _ => by
    rw [h_mk]
    exact ⟨(fun z => by unfold f_bi at z; rw [Nat.zero_div] at z; cases z), fun ⟨i, h, _⟩ => absurd h (Nat.not_lt_zero _)⟩
  | g + 1, h => by
    have hl := h_mk_lt (R := R) (w := R g) g (fun i j h1 h2 => h i j h1 (by omega)) (fun i hi => h i g hi (by omega))
    rw [h_mk, f_bi_ad hl, h_mk_bi g (fun i j h1 h2 => h i j h1 (by omega))]
    constructor
    · intro w
      rcases w with ⟨i, i1, i2⟩ | w
      · exact ⟨i, by omega, i2⟩
      · exact ⟨g, by omega, w.symm⟩
    · intro ⟨i, i1, i2⟩
      by_cases e : i = g
      · subst e; exact Or.inr i2.symm
      · exact Or.inl ⟨i, by omega, i2⟩
theorem x_ior1 {a k : Nat} (hk : k < 16) (ha : a < 2 ^ k) : nI a ||| nI 1 <<< (nI k &&& 31) = nI (a + 2 ^ k) := by
  have h2 : 2 ^ k ≤ 2 ^ 15 := Nat.pow_le_pow_right (by decide) (by omega)
  have e1 : nI 1 <<< (nI k &&& 31) = nI (2 ^ k) := by
    have : ∀ k : Fin 16, nI 1 <<< (nI k.1 &&& 31) = nI (2 ^ k.1) := by decide
    exact this ⟨k, hk⟩
  have nt : ∀ m, m < 65536 → (nI m).toBitVec.toNat = m := fun m hm => by
    show (BitVec.ofNat 32 m).toNat = m
    rw [BitVec.toNat_ofNat, Nat.mod_eq_of_lt (by omega)]
  rw [e1]
  apply Int32.toBitVec_inj.1
  apply BitVec.eq_of_toNat_eq
  rw [Int32.toBitVec_or, BitVec.toNat_or, nt a (by omega), nt _ (by omega), nt _ (by omega), Nat.add_comm]
  have := Nat.two_pow_add_eq_or_of_lt ha 1
  rw [Nat.mul_one] at this
  rw [this, Nat.or_comm]
def p_on (J : x_J) (k b : Nat) : Bool := x_on (J 27 k) (J 28 k) b
/-- what pick stands on -/
def p_D (L : Nat → Nat → Option Nat) (m T M : Nat) (J : x_J) : Prop := m ≤ 16 ∧ M ≤ 128 ∧ (∀ n R, (∀ i, i < n → R i < m) → (f_cov L m T n R ↔ ∀ b, b < 128 → (∃ j, j < m ∧ p_on J j b = true) → ∃ i, i < n ∧ p_on J (R i) b = true)) ∧ (∀ k b, k ≤ m → b < 128 → (x_on (J 29 k) (J 30 k) b = true ↔ ∃ j, k ≤ j ∧ j < m ∧ p_on J j b = true)) ∧ (∀ k, k < m → x_ct (p_on J k) 128 ≤ M)
/-- rows that go on from a row of g places, from a place on -/
def p_ext (m g w f : Nat) (R C : Nat → Nat) : Prop := f_row m (g + w) C ∧ (∀ i, i < g → C i = R i) ∧ (0 < w → f ≤ C g)
def p_lit (J : x_J) (g : Nat) (R : Nat → Nat) (lo hi : Int64) : Prop := ∀ b, b < 128 → (x_on lo hi b = true ↔ ∃ i, i < g ∧ p_on J (R i) b = true)
/-- too much is missing -/
theorem p_miss {L : Nat → Nat → Option Nat} {m T M g w f : Nat} {J : x_J} {R C : Nat → Nat} {lo hi : Int64} (hD : p_D L m T M J) (hl : p_lit J g R lo hi) (he : p_ext m g w f R C) (hc : f_cov L m T (g + w) C) : x_ct (x_on (J 29 0 &&& (lo ^^^ -1)) (J 30 0 &&& (hi ^^^ -1))) 128 ≤ w * M := by
  have h1 := (hD.2.2.1 (g + w) C he.1.1).mp hc
  have h2 := x_ct_sub (p := x_on (J 29 0 &&& (lo ^^^ -1)) (J 30 0 &&& (hi ^^^ -1))) (q := fun i b => p_on J (C (g + i)) b) 128 w (fun b hb hp => by
    rw [x_on_an _ _ _ _ hb, Bool.and_eq_true] at hp
    obtain ⟨j, -, j1, j2⟩ := (hD.2.2.2.1 0 b (Nat.zero_le _) hb).mp hp.1
    obtain ⟨i, i1, i2⟩ := h1 b hb ⟨j, j1, j2⟩
    rcases Nat.lt_or_ge i g with v | v
    · exfalso
      have := (hl b hb).mpr ⟨i, v, by rw [← he.2.1 i v]; exact i2⟩
      rw [this] at hp
      cases hp.2
    · exact ⟨i - g, by omega, by rw [show g + (i - g) = i by omega]; exact i2⟩)
  refine Nat.le_trans h2 (x_sm_le w (fun i hi => ?_))
  exact hD.2.2.2.2 _ (he.1.1 _ (by omega))
/-- what the rest can't light stays dark -/
theorem p_dark {L : Nat → Nat → Option Nat} {m T M g w k : Nat} {J : x_J} {R C : Nat → Nat} {lo hi : Int64} (hD : p_D L m T M J) (hl : p_lit J g R lo hi) (hR : ∀ i, i < g → R i < m) (hw : 0 < w) (hk : k ≤ m) (he : p_ext m g w k R C) (hc : f_cov L m T (g + w) C) : lo ||| J 29 k = J 29 0 ∧ hi ||| J 30 k = J 30 0 := by
  have h1 := (hD.2.2.1 (g + w) C he.1.1).mp hc
  refine x_on_ext (fun b hb => ?_)
  rw [x_on_or, Bool.eq_iff_iff, Bool.or_eq_true, hl b hb, hD.2.2.2.1 k b hk hb, hD.2.2.2.1 0 b (Nat.zero_le _) hb]
  constructor
  · intro q
    rcases q with ⟨i, i1, i2⟩ | ⟨j, j1, j2, j3⟩
    · exact ⟨R i, Nat.zero_le _, hR i i1, i2⟩
    · exact ⟨j, Nat.zero_le _, j2, j3⟩
  · intro ⟨j, _, j2, j3⟩
    obtain ⟨i, i1, i2⟩ := h1 b hb ⟨j, j2, j3⟩
    rcases Nat.lt_or_ge i g with v | v
    · exact Or.inl ⟨i, v, by rw [← he.2.1 i v]; exact i2⟩
    · refine Or.inr ⟨C i, ?_, he.1.1 i i1, i2⟩
      have h3 := he.2.2 hw
      by_cases e : i = g
      · rw [e]; exact h3
      · have := he.1.2 g i (by omega) i1
        omega

