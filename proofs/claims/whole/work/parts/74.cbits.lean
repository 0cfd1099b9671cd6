/-! How many bits of a long are set. -/
def d_s (m : Nat) (f : Nat → Nat) : Nat → Nat
  | 0 => 0
  | k + 1 => f 0 + 2 ^ m * d_s m (fun i => f (i + 1)) k
theorem d_s_cg {m : Nat} : ∀ (k : Nat) {f g : Nat → Nat}, (∀ i, i < k → f i = g i) → d_s m f k = d_s m g k
  | 0, f, g, _ => rfl
  | k + 1, f, g, h => by rw [d_s, d_s, h 0 (by omega), d_s_cg k (fun i hi => h (i + 1) (by omega))]
theorem d_s_lt {m : Nat} : ∀ (k : Nat) {f : Nat → Nat}, (∀ i, i < k → f i < 2 ^ m) → d_s m f k < 2 ^ (m * k)
  | 0, f, _ => by simp [d_s]
  | k + 1, f, h => by
    have ih := d_s_lt k (f := fun i => f (i + 1)) (fun i hi => h (i + 1) (by omega))
    have h0 := h 0 (by omega)
    rw [d_s, Nat.mul_succ, Nat.add_comm (m * k) m, Nat.pow_add]
    calc f 0 + 2 ^ m * d_s m (fun i => f (i + 1)) k < 2 ^ m + 2 ^ m * d_s m (fun i => f (i + 1)) k := by omega
      _ = 2 ^ m * (d_s m (fun i => f (i + 1)) k + 1) := by rw [Nat.mul_succ, Nat.add_comm]
      _ ≤ 2 ^ m * 2 ^ (m * k) := Nat.mul_le_mul_left _ ih
theorem d_s_add {m : Nat} : ∀ (k : Nat) (f g : Nat → Nat), d_s m f k + d_s m g k = d_s m (fun i => f i + g i) k
  | 0, f, g => rfl
  | k + 1, f, g => by
    have ih := d_s_add (m := m) k (fun i => f (i + 1)) (fun i => g (i + 1))
    rw [d_s, d_s, d_s, ← ih, Nat.mul_add]
    omega
theorem d_s_pair {m : Nat} : ∀ (k : Nat) (f : Nat → Nat), d_s m f (2 * k) = d_s (2 * m) (fun i => f (2 * i) + 2 ^ m * f (2 * i + 1)) k
  | 0, f => rfl
  | k + 1, f => by
    have ih := d_s_pair (m := m) k (fun i => f (i + 1 + 1))
    rw [show 2 * (k + 1) = 2 * k + 1 + 1 by omega, d_s, d_s, ih, d_s, Nat.two_mul m, Nat.pow_add, Nat.mul_add, ← Nat.mul_assoc, ← Nat.add_assoc]
    rfl
theorem d_s_last {m : Nat} : ∀ (k : Nat) (f : Nat → Nat), d_s m f (k + 1) = d_s m f k + 2 ^ (m * k) * f k
  | 0, f => by simp [d_s]
  | k + 1, f => by
    have ih := d_s_last (m := m) k (fun i => f (i + 1))
    rw [d_s, ih, d_s, Nat.mul_add, ← Nat.mul_assoc, ← Nat.pow_add, Nat.add_assoc, show m + m * k = m * (k + 1) by rw [Nat.mul_succ, Nat.add_comm]]
theorem d_s_sh {m k : Nat} {f : Nat → Nat} (h0 : f 0 < 2 ^ m) (hk : f k = 0) : d_s m f k / 2 ^ m = d_s m (fun i => f (i + 1)) k := by
  cases k with
  | zero => simp [d_s]
  | succ k =>
    have hl := d_s_last (m := m) k (fun i => f (i + 1))
    simp only [hk, Nat.mul_zero, Nat.add_zero] at hl
    rw [hl, d_s, Nat.add_mul_div_left _ _ (Nat.pow_pos (by decide)), Nat.div_eq_of_lt h0, Nat.zero_add]
theorem x_ands {n a b c d : Nat} (hb : b < 2 ^ n) (hd : d < 2 ^ n) : (b + 2 ^ n * a) &&& (d + 2 ^ n * c) = (b &&& d) + 2 ^ n * (a &&& c) := by
  have hbd : b &&& d < 2 ^ n := Nat.lt_of_le_of_lt Nat.and_le_left hb
  apply Nat.eq_of_testBit_eq
  intro j
  rw [Nat.testBit_and, Nat.add_comm b, Nat.add_comm d, Nat.add_comm (b &&& d), Nat.testBit_two_pow_mul_add _ hb, Nat.testBit_two_pow_mul_add _ hd, Nat.testBit_two_pow_mul_add _ hbd]
  split
  · rw [Nat.testBit_and]
  · rw [Nat.testBit_and]
theorem d_s_mask {m : Nat} (hm : 0 < m) : ∀ (k : Nat) {g : Nat → Nat}, (∀ i, i < k → g i < 2 ^ (2 * m)) → d_s (2 * m) g k &&& d_s (2 * m) (fun _ => 2 ^ m - 1) k = d_s (2 * m) (fun i => g i % 2 ^ m) k
  | 0, g, _ => by simp [d_s]
  | k + 1, g, h => by
    have ih := d_s_mask hm k (g := fun i => g (i + 1)) (fun i hi => h (i + 1) (by omega))
    have h1 : 2 ^ m - 1 < 2 ^ (2 * m) := by
      have h2 : 2 ^ m ≤ 2 ^ (2 * m) := Nat.pow_le_pow_right (by decide) (by omega)
      have h3 : 0 < 2 ^ m := Nat.pow_pos (by decide)
      omega
    rw [d_s, d_s, d_s, x_ands (h 0 (by omega)) h1, ih, Nat.and_two_pow_sub_one_eq_mod]
/-- even and odd digits, taken out -/
theorem d_s_ev {m k : Nat} (hm : 0 < m) {f : Nat → Nat} (hf : ∀ i, f i < 2 ^ m) : d_s m f (2 * k) &&& d_s (2 * m) (fun _ => 2 ^ m - 1) k = d_s (2 * m) (fun i => f (2 * i)) k := by
  have hlt : ∀ i, f (2 * i) + 2 ^ m * f (2 * i + 1) < 2 ^ (2 * m) := fun i => by
    have h1 := hf (2 * i)
    have h2 := hf (2 * i + 1)
    rw [Nat.two_mul m, Nat.pow_add]
    calc f (2 * i) + 2 ^ m * f (2 * i + 1) < 2 ^ m + 2 ^ m * f (2 * i + 1) := by omega
      _ = 2 ^ m * (f (2 * i + 1) + 1) := by rw [Nat.mul_succ, Nat.add_comm]
      _ ≤ 2 ^ m * 2 ^ m := Nat.mul_le_mul_left _ h2
  rw [d_s_pair, d_s_mask hm k (fun i _ => hlt i)]
  refine d_s_cg k (fun i _ => ?_)
  rw [Nat.add_mul_mod_self_left, Nat.mod_eq_of_lt (hf _)]
theorem d_s_od {m k : Nat} (hm : 0 < m) {f : Nat → Nat} (hf : ∀ i, f i < 2 ^ m) (h0 : f (2 * k) = 0) : d_s m f (2 * k) / 2 ^ m &&& d_s (2 * m) (fun _ => 2 ^ m - 1) k = d_s (2 * m) (fun i => f (2 * i + 1)) k := by
  rw [d_s_sh (hf 0) h0, d_s_ev hm (fun i => hf (i + 1))]
def d_bi (v i : Nat) : Nat := if v.testBit i then 1 else 0
theorem d_bi_le (v i : Nat) : d_bi v i ≤ 1 := by unfold d_bi; split <;> omega
theorem d_bits : ∀ (k v : Nat), v < 2 ^ k → d_s 1 (d_bi v) k = v
  | 0, v, h => by simp at h; subst h; rfl
  | k + 1, v, h => by
    have ih := d_bits k (v / 2) (by rw [Nat.pow_succ] at h; omega)
    have e1 : (fun i => d_bi v (i + 1)) = d_bi (v / 2) := by
      funext i
      unfold d_bi
      rw [Nat.testBit_succ]
    rw [d_s, e1, ih]
    unfold d_bi
    rw [Nat.testBit_zero]
    by_cases h2 : v % 2 = 1
    · rw [decide_eq_true h2]; simp; omega
    · rw [decide_eq_false h2]; simp; omega
theorem d_bi_hi {v k i : Nat} (h : v < 2 ^ k) (hi : k ≤ i) : d_bi v i = 0 := by
  unfold d_bi
  rw [Nat.testBit_lt_two_pow (Nat.lt_of_lt_of_le h (Nat.pow_le_pow_right (by decide) hi))]
  rfl
def p_f1 (v i : Nat) : Nat := d_bi v (2 * i) + d_bi v (2 * i + 1)
def p_f2 (v i : Nat) : Nat := p_f1 v (2 * i) + p_f1 v (2 * i + 1)
def p_f3 (v i : Nat) : Nat := p_f2 v (2 * i) + p_f2 v (2 * i + 1)
def p_g1 (v i : Nat) : Nat := p_f3 v i + p_f3 v (i + 1)
def p_g2 (v i : Nat) : Nat := p_g1 v i + p_g1 v (i + 2)
def p_g3 (v i : Nat) : Nat := p_g2 v i + p_g2 v (i + 4)
theorem p_b1 (v i : Nat) : p_f1 v i ≤ 2 := by have := d_bi_le v (2 * i); have := d_bi_le v (2 * i + 1); unfold p_f1; omega
theorem p_b2 (v i : Nat) : p_f2 v i ≤ 4 := by have := p_b1 v (2 * i); have := p_b1 v (2 * i + 1); unfold p_f2; omega
theorem p_b3 (v i : Nat) : p_f3 v i ≤ 8 := by have := p_b2 v (2 * i); have := p_b2 v (2 * i + 1); unfold p_f3; omega
theorem p_c1 (v i : Nat) : p_g1 v i ≤ 16 := by have := p_b3 v i; have := p_b3 v (i + 1); unfold p_g1; omega
theorem p_c2 (v i : Nat) : p_g2 v i ≤ 32 := by have := p_c1 v i; have := p_c1 v (i + 2); unfold p_g2; omega
theorem p_c3 (v i : Nat) : p_g3 v i ≤ 64 := by have := p_c2 v i; have := p_c2 v (i + 4); unfold p_g3; omega
theorem p_z1 {v : Nat} (h : v < 2 ^ 64) {i : Nat} (hi : 32 ≤ i) : p_f1 v i = 0 := by unfold p_f1; rw [d_bi_hi h (by omega), d_bi_hi h (by omega)]
theorem p_z2 {v : Nat} (h : v < 2 ^ 64) {i : Nat} (hi : 16 ≤ i) : p_f2 v i = 0 := by unfold p_f2; rw [p_z1 h (by omega), p_z1 h (by omega)]
theorem p_z3 {v : Nat} (h : v < 2 ^ 64) {i : Nat} (hi : 8 ≤ i) : p_f3 v i = 0 := by unfold p_f3; rw [p_z2 h (by omega), p_z2 h (by omega)]
theorem p_y1 {v : Nat} (h : v < 2 ^ 64) {i : Nat} (hi : 8 ≤ i) : p_g1 v i = 0 := by unfold p_g1; rw [p_z3 h (by omega), p_z3 h (by omega)]
theorem p_y2 {v : Nat} (h : v < 2 ^ 64) {i : Nat} (hi : 8 ≤ i) : p_g2 v i = 0 := by unfold p_g2; rw [p_y1 h (by omega), p_y1 h (by omega)]
theorem p_m1 : d_s (2 * 1) (fun _ => 2 ^ 1 - 1) 32 = 6148914691236517205 := by decide +kernel
theorem p_m2 : d_s (2 * 2) (fun _ => 2 ^ 2 - 1) 16 = 3689348814741910323 := by decide +kernel
theorem p_m3 : d_s (2 * 4) (fun _ => 2 ^ 4 - 1) 8 = 1085102592571150095 := by decide +kernel
theorem p_s1 {v : Nat} (h : v < 2 ^ 64) : (v / 2 ^ 1 &&& 6148914691236517205) = d_s 2 (fun i => d_bi v (2 * i + 1)) 32 ∧ v = d_s 2 (p_f1 v) 32 + d_s 2 (fun i => d_bi v (2 * i + 1)) 32 := by
  have hb := d_bits 64 v h
  have hl : ∀ i, d_bi v i < 2 ^ 1 := fun i => by have := d_bi_le v i; omega
  constructor
  · have := d_s_od (m := 1) (k := 32) (by decide) (f := d_bi v) hl (d_bi_hi h (by decide))
    rw [show 2 * 32 = 64 by decide, hb, p_m1] at this
    exact this
  · rw [d_s_add]
    have := d_s_pair (m := 1) 32 (d_bi v)
    rw [show 2 * 32 = 64 by decide, hb] at this
    refine this.trans (d_s_cg 32 (fun i _ => ?_))
    show d_bi v (2 * i) + 2 ^ 1 * d_bi v (2 * i + 1) = p_f1 v i + d_bi v (2 * i + 1)
    unfold p_f1
    omega
theorem p_s2 {v : Nat} (h : v < 2 ^ 64) : (d_s 2 (p_f1 v) 32 &&& 3689348814741910323) + (d_s 2 (p_f1 v) 32 / 2 ^ 2 &&& 3689348814741910323) = d_s 4 (p_f2 v) 16 := by
  have hl : ∀ i, p_f1 v i < 2 ^ 2 := fun i => by have := p_b1 v i; omega
  have e1 := d_s_ev (m := 2) (k := 16) (by decide) (f := p_f1 v) hl
  have e2 := d_s_od (m := 2) (k := 16) (by decide) (f := p_f1 v) hl (p_z1 h (by decide))
  rw [p_m2] at e1 e2
  rw [show 32 = 2 * 16 by decide, e1, e2, d_s_add]
  rfl
theorem p_s3 {v : Nat} (h : v < 2 ^ 64) : d_s 4 (p_f2 v) 16 + d_s 4 (p_f2 v) 16 / 2 ^ 4 < 2 ^ 64 ∧ ((d_s 4 (p_f2 v) 16 + d_s 4 (p_f2 v) 16 / 2 ^ 4) &&& 1085102592571150095) = d_s 8 (p_f3 v) 8 := by
  have e1 := d_s_sh (m := 4) (k := 16) (f := p_f2 v) (by have := p_b2 v 0; omega) (p_z2 h (by decide))
  rw [e1, d_s_add]
  have hl : ∀ i, p_f2 v i + p_f2 v (i + 1) < 2 ^ 4 := fun i => by have := p_b2 v i; have := p_b2 v (i + 1); omega
  refine ⟨d_s_lt 16 (fun i _ => hl i), ?_⟩
  have e2 := d_s_ev (m := 4) (k := 8) (by decide) (f := fun i => p_f2 v i + p_f2 v (i + 1)) hl
  rw [p_m3] at e2
  exact e2
theorem p_s4 {v : Nat} (h : v < 2 ^ 64) : d_s 8 (p_f3 v) 8 + d_s 8 (p_f3 v) 8 / 2 ^ 8 = d_s 8 (p_g1 v) 8 := by
  rw [d_s_sh (m := 8) (k := 8) (f := p_f3 v) (by have := p_b3 v 0; omega) (p_z3 h (by decide)), d_s_add]
  rfl
theorem p_s5 {v : Nat} (h : v < 2 ^ 64) : d_s 8 (p_g1 v) 8 + d_s 8 (p_g1 v) 8 / 2 ^ 16 = d_s 8 (p_g2 v) 8 := by
  rw [show (2 : Nat) ^ 16 = 2 ^ 8 * 2 ^ 8 by decide, ← Nat.div_div_eq_div_mul, d_s_sh (m := 8) (k := 8) (f := p_g1 v) (by have := p_c1 v 0; omega) (p_y1 h (by decide)), d_s_sh (m := 8) (k := 8) (f := fun i => p_g1 v (i + 1)) (by have := p_c1 v (0 + 1); omega) (p_y1 h (by decide)), d_s_add]
  rfl
theorem p_s6 {v : Nat} (h : v < 2 ^ 64) : d_s 8 (p_g2 v) 8 + d_s 8 (p_g2 v) 8 / 2 ^ 32 = d_s 8 (p_g3 v) 8 := by
  rw [show (2 : Nat) ^ 32 = 2 ^ 8 * 2 ^ 8 * 2 ^ 8 * 2 ^ 8 by decide, ← Nat.div_div_eq_div_mul, ← Nat.div_div_eq_div_mul, ← Nat.div_div_eq_div_mul, d_s_sh (m := 8) (k := 8) (f := p_g2 v) (by have := p_c2 v 0; omega) (p_y2 h (by decide)), d_s_sh (m := 8) (k := 8) (f := fun i => p_g2 v (i + 1)) (by have := p_c2 v (0 + 1); omega) (p_y2 h (by decide)), d_s_sh (m := 8) (k := 8) (f := fun i => p_g2 v (i + 1 + 1)) (by have := p_c2 v (0 + 1 + 1); omega) (p_y2 h (by decide)), d_s_sh (m := 8) (k := 8) (f := fun i => p_g2 v (i + 1 + 1 + 1)) (by have := p_c2 v (0 + 1 + 1 + 1); omega) (p_y2 h (by decide)), d_s_add]
  rfl
theorem p_s7 (v : Nat) : d_s 8 (p_g3 v) 8 % 128 = x_sm (d_bi v) 64 := by
  have h0 := p_c3 v 0
  have e1 : d_s 8 (p_g3 v) 8 % 128 = p_g3 v 0 := by
    rw [d_s]
    omega
  rw [e1]
  simp only [p_g3, p_g2, p_g1, p_f3, p_f2, p_f1, x_sm, Nat.zero_add, Nat.mul_zero, Nat.reduceMul, Nat.reduceAdd]
  omega
/-- words of 64 bits as numbers -/
abbrev x_N (v : Int64) : Nat := v.toBitVec.toNat
theorem x_N_lt (v : Int64) : x_N v < 2 ^ 64 := v.toBitVec.isLt
theorem x_N_and (v w : Int64) : x_N (v &&& w) = (x_N v &&& x_N w) := by unfold x_N; rw [Int64.toBitVec_and, BitVec.toNat_and]
theorem x_N_add {v w : Int64} (h : x_N v + x_N w < 2 ^ 64) : x_N (v + w) = x_N v + x_N w := by unfold x_N at h ⊢; rw [Int64.toBitVec_add, BitVec.toNat_add, Nat.mod_eq_of_lt h]
theorem x_N_sub {v w : Int64} (h : x_N w ≤ x_N v) : x_N (v - w) = x_N v - x_N w := by unfold x_N at h ⊢; rw [Int64.toBitVec_sub, BitVec.toNat_sub_of_le h]
theorem x_N_sr {v : Int64} {u : UInt64} (k : Nat) (hk : u.toNat % 64 = k) : x_N ((v.toUInt64 >>> u).toInt64) = x_N v / 2 ^ k := by
  show (v.toUInt64 >>> u).toNat = _
  rw [UInt64.toNat_shiftRight, hk, Nat.shiftRight_eq_div_pow]
  rfl
theorem x_N_bi (v : Int64) : x_sm (d_bi (x_N v)) 64 = x_ct (x_lb v) 64 := by
  have : ∀ k, x_sm (d_bi (x_N v)) k = x_ct (x_lb v) k := by
    intro k
    induction k with
    | zero => rfl
    | succ k ih =>
      rw [x_sm, x_ct, ih]
      rfl
  exact this 64
theorem x_N_fin {w : Int64} {c : Nat} (h : x_N w % 128 = c) (hc : c ≤ 64) : w.toInt32 &&& nI 127 = nI c := by
  apply Int32.toBitVec_inj.1
  apply BitVec.eq_of_toNat_eq
  rw [Int32.toBitVec_and, BitVec.toNat_and]
  have e1 : w.toInt32.toBitVec.toNat = x_N w % 2 ^ 32 := by
    show (w.toBitVec.signExtend 32).toNat = _
    rw [BitVec.signExtend_eq_setWidth_of_le _ (by decide), BitVec.toNat_setWidth]
  have e2 : (nI 127).toBitVec.toNat = 2 ^ 7 - 1 := by decide
  have e3 : (nI c).toBitVec.toNat = c := by
    have : ∀ c : Fin 65, (nI c.1).toBitVec.toNat = c.1 := by decide
    exact this ⟨c, by omega⟩
  rw [e1, e2, e3, Nat.and_two_pow_sub_one_eq_mod, ← h]
  exact Nat.mod_mod_of_dvd _ (by decide)

set_option maxRecDepth 100000 in
set_option maxHeartbeats 4000000 in
theorem t_bitL {K : x_K} {S : x_S} {P : x_P} {I : x_I} {J : x_J} {n : Nat} {v : Int64} (hK : K (some (.int (nI (x_ct (x_lb v) 64)))) S P I J n) : x_Call f_J13_bitCount_95d88 [.long v] K S P I J n := by
  have hv := x_N_lt v
  have q1 := p_s1 hv
  have q2 := p_s2 hv
  have q3 := p_s3 hv
  have q4 := p_s4 hv
  have q5 := p_s5 hv
  have q6 := p_s6 hv
  have q7 := p_s7 (x_N v)
  have l3 : d_s 8 (p_f3 (x_N v)) 8 + d_s 8 (p_f3 (x_N v)) 8 / 2 ^ 8 < 2 ^ 64 := by rw [q4]; exact d_s_lt 8 (fun i _ => by have := p_c1 (x_N v) i; omega)
  have l4 : d_s 8 (p_g1 (x_N v)) 8 + d_s 8 (p_g1 (x_N v)) 8 / 2 ^ 16 < 2 ^ 64 := by rw [q5]; exact d_s_lt 8 (fun i _ => by have := p_c2 (x_N v) i; omega)
  have l5 : d_s 8 (p_g2 (x_N v)) 8 + d_s 8 (p_g2 (x_N v)) 8 / 2 ^ 32 < 2 ^ 64 := by rw [q6]; exact d_s_lt 8 (fun i _ => by have := p_c3 (x_N v) i; omega)
  have l2 : (d_s 2 (p_f1 (x_N v)) 32 &&& 3689348814741910323) + (d_s 2 (p_f1 (x_N v)) 32 / 2 ^ 2 &&& 3689348814741910323) < 2 ^ 64 := by rw [q2]; exact d_s_lt 16 (fun i _ => by have := p_b2 (x_N v) i; omega)
  refine x_intro (by decide) 0 (ls := [_, _]) rfl (Nat.le_of_ble_eq_true rfl) ?_
  refine v_lload_n d_J13_bitCount_95d88_0 rfl ?_
  refine v_lload_n d_J13_bitCount_95d88_1 rfl ?_
  refine v_iconst (v := nI 1) d_J13_bitCount_95d88_2 x_ic_1 ?_
  refine v_lushr d_J13_bitCount_95d88_3 ?_
  refine v_ldc2 d_J13_bitCount_95d88_4 lk_J13_314 ?_
  refine v_land d_J13_bitCount_95d88_7 ?_
  refine v_lsub d_J13_bitCount_95d88_8 ?_
  have e1 : x_N (v - ((v.toUInt64 >>> ((nI 1).toInt64.toUInt64 &&& Int64.toUInt64 63)).toInt64 &&& 6148914691236517205)) = d_s 2 (p_f1 (x_N v)) 32 := by
    have ea : x_N ((v.toUInt64 >>> ((nI 1).toInt64.toUInt64 &&& Int64.toUInt64 63)).toInt64 &&& 6148914691236517205) = d_s 2 (fun i => d_bi (x_N v) (2 * i + 1)) 32 := by rw [x_N_and, x_N_sr 1 (by decide)]; exact q1.1
    rw [x_N_sub (by rw [ea]; omega), ea]; omega
  generalize (v - ((v.toUInt64 >>> ((nI 1).toInt64.toUInt64 &&& Int64.toUInt64 63)).toInt64 &&& 6148914691236517205)) = w1 at e1 ⊢
  refine v_lstore_n (ls' := [_, _]) d_J13_bitCount_95d88_9 (by decide) rfl ?_
  refine v_lload_n d_J13_bitCount_95d88_10 rfl ?_
  refine v_ldc2 d_J13_bitCount_95d88_11 lk_J13_316 ?_
  refine v_land d_J13_bitCount_95d88_14 ?_
  refine v_lload_n d_J13_bitCount_95d88_15 rfl ?_
  refine v_iconst (v := nI 2) d_J13_bitCount_95d88_16 x_ic_2 ?_
  refine v_lushr d_J13_bitCount_95d88_17 ?_
  refine v_ldc2 d_J13_bitCount_95d88_18 lk_J13_316 ?_
  refine v_land d_J13_bitCount_95d88_21 ?_
  refine v_ladd d_J13_bitCount_95d88_22 ?_
  have e2 : x_N ((w1 &&& 3689348814741910323) + ((w1.toUInt64 >>> ((nI 2).toInt64.toUInt64 &&& Int64.toUInt64 63)).toInt64 &&& 3689348814741910323)) = d_s 4 (p_f2 (x_N v)) 16 := by
    have ea : x_N (w1 &&& 3689348814741910323) = (d_s 2 (p_f1 (x_N v)) 32 &&& 3689348814741910323) := by rw [x_N_and, e1]; rfl
    have eb : x_N ((w1.toUInt64 >>> ((nI 2).toInt64.toUInt64 &&& Int64.toUInt64 63)).toInt64 &&& 3689348814741910323) = (d_s 2 (p_f1 (x_N v)) 32 / 2 ^ 2 &&& 3689348814741910323) := by rw [x_N_and, x_N_sr 2 (by decide), e1]; rfl
    rw [x_N_add (by rw [ea, eb]; exact l2), ea, eb, q2]
  generalize ((w1 &&& 3689348814741910323) + ((w1.toUInt64 >>> ((nI 2).toInt64.toUInt64 &&& Int64.toUInt64 63)).toInt64 &&& 3689348814741910323)) = w2 at e2 ⊢
  refine v_lstore_n (ls' := [_, _]) d_J13_bitCount_95d88_23 (by decide) rfl ?_
  refine v_lload_n d_J13_bitCount_95d88_24 rfl ?_
  refine v_lload_n d_J13_bitCount_95d88_25 rfl ?_
  refine v_iconst (v := nI 4) d_J13_bitCount_95d88_26 x_ic_4 ?_
  refine v_lushr d_J13_bitCount_95d88_27 ?_
  refine v_ladd d_J13_bitCount_95d88_28 ?_
  refine v_ldc2 d_J13_bitCount_95d88_29 lk_J13_318 ?_
  refine v_land d_J13_bitCount_95d88_32 ?_
  have e3 : x_N ((w2 + (w2.toUInt64 >>> ((nI 4).toInt64.toUInt64 &&& Int64.toUInt64 63)).toInt64) &&& 1085102592571150095) = d_s 8 (p_f3 (x_N v)) 8 := by
    have ea : x_N ((w2.toUInt64 >>> ((nI 4).toInt64.toUInt64 &&& Int64.toUInt64 63)).toInt64) = d_s 4 (p_f2 (x_N v)) 16 / 2 ^ 4 := by rw [x_N_sr 4 (by decide), e2]
    rw [x_N_and, x_N_add (by rw [ea, e2]; exact q3.1), ea, e2]; exact q3.2
  generalize ((w2 + (w2.toUInt64 >>> ((nI 4).toInt64.toUInt64 &&& Int64.toUInt64 63)).toInt64) &&& 1085102592571150095) = w3 at e3 ⊢
  refine v_lstore_n (ls' := [_, _]) d_J13_bitCount_95d88_33 (by decide) rfl ?_
  refine v_lload_n d_J13_bitCount_95d88_34 rfl ?_
  refine v_lload_n d_J13_bitCount_95d88_35 rfl ?_
  refine v_bipush (v := nI 8) d_J13_bitCount_95d88_36 x_bp_8 ?_
  refine v_lushr d_J13_bitCount_95d88_38 ?_
  refine v_ladd d_J13_bitCount_95d88_39 ?_
  have e4 : x_N (w3 + (w3.toUInt64 >>> ((nI 8).toInt64.toUInt64 &&& Int64.toUInt64 63)).toInt64) = d_s 8 (p_g1 (x_N v)) 8 := by
    have ea : x_N ((w3.toUInt64 >>> ((nI 8).toInt64.toUInt64 &&& Int64.toUInt64 63)).toInt64) = d_s 8 (p_f3 (x_N v)) 8 / 2 ^ 8 := by rw [x_N_sr 8 (by decide), e3]
    rw [x_N_add (by rw [ea, e3]; exact l3), ea, e3, q4]
  generalize (w3 + (w3.toUInt64 >>> ((nI 8).toInt64.toUInt64 &&& Int64.toUInt64 63)).toInt64) = w4 at e4 ⊢
  refine v_lstore_n (ls' := [_, _]) d_J13_bitCount_95d88_40 (by decide) rfl ?_
  refine v_lload_n d_J13_bitCount_95d88_41 rfl ?_
  refine v_lload_n d_J13_bitCount_95d88_42 rfl ?_
  refine v_bipush (v := nI 16) d_J13_bitCount_95d88_43 x_bp_16 ?_
  refine v_lushr d_J13_bitCount_95d88_45 ?_
  refine v_ladd d_J13_bitCount_95d88_46 ?_
  have e5 : x_N (w4 + (w4.toUInt64 >>> ((nI 16).toInt64.toUInt64 &&& Int64.toUInt64 63)).toInt64) = d_s 8 (p_g2 (x_N v)) 8 := by
    have ea : x_N ((w4.toUInt64 >>> ((nI 16).toInt64.toUInt64 &&& Int64.toUInt64 63)).toInt64) = d_s 8 (p_g1 (x_N v)) 8 / 2 ^ 16 := by rw [x_N_sr 16 (by decide), e4]
    rw [x_N_add (by rw [ea, e4]; exact l4), ea, e4, q5]
  generalize (w4 + (w4.toUInt64 >>> ((nI 16).toInt64.toUInt64 &&& Int64.toUInt64 63)).toInt64) = w5 at e5 ⊢
  refine v_lstore_n (ls' := [_, _]) d_J13_bitCount_95d88_47 (by decide) rfl ?_
  refine v_lload_n d_J13_bitCount_95d88_48 rfl ?_
  refine v_lload_n d_J13_bitCount_95d88_49 rfl ?_
  refine v_bipush (v := nI 32) d_J13_bitCount_95d88_50 x_bp_32 ?_
  refine v_lushr d_J13_bitCount_95d88_52 ?_
  refine v_ladd d_J13_bitCount_95d88_53 ?_
  have e6 : x_N (w5 + (w5.toUInt64 >>> ((nI 32).toInt64.toUInt64 &&& Int64.toUInt64 63)).toInt64) = d_s 8 (p_g3 (x_N v)) 8 := by
    have ea : x_N ((w5.toUInt64 >>> ((nI 32).toInt64.toUInt64 &&& Int64.toUInt64 63)).toInt64) = d_s 8 (p_g2 (x_N v)) 8 / 2 ^ 32 := by rw [x_N_sr 32 (by decide), e5]
    rw [x_N_add (by rw [ea, e5]; exact l5), ea, e5, q6]
  generalize (w5 + (w5.toUInt64 >>> ((nI 32).toInt64.toUInt64 &&& Int64.toUInt64 63)).toInt64) = w6 at e6 ⊢
  refine v_lstore_n (ls' := [_, _]) d_J13_bitCount_95d88_54 (by decide) rfl ?_
  refine v_lload_n d_J13_bitCount_95d88_55 rfl ?_
  refine v_l2i d_J13_bitCount_95d88_56 ?_
  refine v_bipush (v := nI 127) d_J13_bitCount_95d88_57 x_bp_127 ?_
  refine v_iand d_J13_bitCount_95d88_59 ?_
  rw [x_N_fin (w := w6) (c := x_ct (x_lb v) 64) (by rw [e6, q7, x_N_bi]) (x_ct_le _ _)]
  refine v_ret (v := some (.int _)) d_J13_bitCount_95d88_60 rfl ⟨rfl, _, rfl, rfl⟩ (by decide) (by decide) ?_
  exact hK

def p_i1 (v : Int32) : Int32 := v - ((v.toUInt32 >>> ((nI 1).toUInt32 &&& Int32.toUInt32 31)).toInt32 &&& 1431655765)
def p_i2 (v : Int32) : Int32 := (v &&& 858993459) + ((v.toUInt32 >>> ((nI 2).toUInt32 &&& Int32.toUInt32 31)).toInt32 &&& 858993459)
def p_i3 (v : Int32) : Int32 := (v + (v.toUInt32 >>> ((nI 4).toUInt32 &&& Int32.toUInt32 31)).toInt32) &&& 252645135
def p_i4 (v : Int32) : Int32 := v + (v.toUInt32 >>> ((nI 8).toUInt32 &&& Int32.toUInt32 31)).toInt32
def p_i5 (v : Int32) : Int32 := v + (v.toUInt32 >>> ((nI 16).toUInt32 &&& Int32.toUInt32 31)).toInt32
theorem p_iall : ∀ m : Fin 1024, p_i5 (p_i4 (p_i3 (p_i2 (p_i1 (nI m.1))))) &&& nI 63 = nI (f_sz m.1 + m.1 % 2) := by decide +kernel

set_option maxRecDepth 100000 in
set_option maxHeartbeats 4000000 in
theorem t_bitI {K : x_K} {S : x_S} {P : x_P} {I : x_I} {J : x_J} {n : Nat} {x : Int32} (m : Nat) (hx : x = nI m) (hm : m < 1024) (hK : K (some (.int (nI (f_sz m + m % 2)))) S P I J n) : x_Call f_J6_bitCount_0f7a4 [.int x] K S P I J n := by
  subst hx
  have hp := p_iall ⟨m, hm⟩
  refine x_intro (by decide) 0 (ls := [_]) rfl (Nat.le_of_ble_eq_true rfl) ?_
  refine v_iload_n d_J6_bitCount_0f7a4_0 rfl ?_
  refine v_iload_n d_J6_bitCount_0f7a4_1 rfl ?_
  refine v_iconst (v := nI 1) d_J6_bitCount_0f7a4_2 x_ic_1 ?_
  refine v_iushr d_J6_bitCount_0f7a4_3 ?_
  refine v_ldcw d_J6_bitCount_0f7a4_4 lk_J6_265 ?_
  refine v_iand d_J6_bitCount_0f7a4_7 ?_
  refine v_isub d_J6_bitCount_0f7a4_8 ?_
  change x_V _ _ _ _ (.int (p_i1 (nI m)) :: _) _ _ _ _ _ _ _
  refine v_istore_n (ls' := [_]) d_J6_bitCount_0f7a4_9 (by decide) rfl ?_
  refine v_iload_n d_J6_bitCount_0f7a4_10 rfl ?_
  refine v_ldcw d_J6_bitCount_0f7a4_11 lk_J6_266 ?_
  refine v_iand d_J6_bitCount_0f7a4_14 ?_
  refine v_iload_n d_J6_bitCount_0f7a4_15 rfl ?_
  refine v_iconst (v := nI 2) d_J6_bitCount_0f7a4_16 x_ic_2 ?_
  refine v_iushr d_J6_bitCount_0f7a4_17 ?_
  refine v_ldcw d_J6_bitCount_0f7a4_18 lk_J6_266 ?_
  refine v_iand d_J6_bitCount_0f7a4_21 ?_
  refine v_iadd d_J6_bitCount_0f7a4_22 ?_
  change x_V _ _ _ _ (.int (p_i2 (p_i1 (nI m))) :: _) _ _ _ _ _ _ _
  refine v_istore_n (ls' := [_]) d_J6_bitCount_0f7a4_23 (by decide) rfl ?_
  refine v_iload_n d_J6_bitCount_0f7a4_24 rfl ?_
  refine v_iload_n d_J6_bitCount_0f7a4_25 rfl ?_
  refine v_iconst (v := nI 4) d_J6_bitCount_0f7a4_26 x_ic_4 ?_
  refine v_iushr d_J6_bitCount_0f7a4_27 ?_
  refine v_iadd d_J6_bitCount_0f7a4_28 ?_
  refine v_ldcw d_J6_bitCount_0f7a4_29 lk_J6_267 ?_
  refine v_iand d_J6_bitCount_0f7a4_32 ?_
  change x_V _ _ _ _ (.int (p_i3 (p_i2 (p_i1 (nI m)))) :: _) _ _ _ _ _ _ _
  refine v_istore_n (ls' := [_]) d_J6_bitCount_0f7a4_33 (by decide) rfl ?_
  refine v_iload_n d_J6_bitCount_0f7a4_34 rfl ?_
  refine v_iload_n d_J6_bitCount_0f7a4_35 rfl ?_
  refine v_bipush (v := nI 8) d_J6_bitCount_0f7a4_36 x_bp_8 ?_
  refine v_iushr d_J6_bitCount_0f7a4_38 ?_
  refine v_iadd d_J6_bitCount_0f7a4_39 ?_
  change x_V _ _ _ _ (.int (p_i4 (p_i3 (p_i2 (p_i1 (nI m))))) :: _) _ _ _ _ _ _ _
  refine v_istore_n (ls' := [_]) d_J6_bitCount_0f7a4_40 (by decide) rfl ?_
  refine v_iload_n d_J6_bitCount_0f7a4_41 rfl ?_
  refine v_iload_n d_J6_bitCount_0f7a4_42 rfl ?_
  refine v_bipush (v := nI 16) d_J6_bitCount_0f7a4_43 x_bp_16 ?_
  refine v_iushr d_J6_bitCount_0f7a4_45 ?_
  refine v_iadd d_J6_bitCount_0f7a4_46 ?_
  change x_V _ _ _ _ (.int (p_i5 (p_i4 (p_i3 (p_i2 (p_i1 (nI m)))))) :: _) _ _ _ _ _ _ _
  refine v_istore_n (ls' := [_]) d_J6_bitCount_0f7a4_47 (by decide) rfl ?_
  refine v_iload_n d_J6_bitCount_0f7a4_48 rfl ?_
  refine v_bipush (v := nI 63) d_J6_bitCount_0f7a4_49 x_bp_63 ?_
  refine v_iand d_J6_bitCount_0f7a4_51 ?_
  rw [hp]
  refine v_ret (v := some (.int _)) d_J6_bitCount_0f7a4_52 rfl ⟨rfl, _, rfl, rfl⟩ (by decide) (by decide) ?_
  exact hK

