/-! Numbers: Int32 and Int64 as whole numbers. -/
theorem x_of {x : Int32} (h : 0 ≤ x.toInt) : x = nI x.toInt.toNat := by
  apply Int32.toInt_inj.mp
  have h2 := Int32.toInt_lt x
  rw [x_ti (by omega)]
  omega
theorem x_of' {x : Int32} {k : Nat} (h : x.toInt = (k : Int)) : x = nI k := by
  have := x_of (x := x) (by omega)
  rw [this]; congr 1; omega
theorem x_32 (x : Int32) : -2147483648 ≤ x.toInt ∧ x.toInt < 2147483648 := ⟨Int32.le_toInt x, Int32.toInt_lt x⟩
theorem x_64 (x : Int64) : -9223372036854775808 ≤ x.toInt ∧ x.toInt < 9223372036854775808 := ⟨Int64.le_toInt x, Int64.toInt_lt x⟩
theorem x_bm {z : Int} (h1 : -2147483648 ≤ z) (h2 : z < 2147483648) : z.bmod 4294967296 = z := by
  rw [Int.bmod_def]; omega
theorem x_bm6 {z : Int} (h1 : -9223372036854775808 ≤ z) (h2 : z < 9223372036854775808) : z.bmod 18446744073709551616 = z := by
  rw [Int.bmod_def]; omega
theorem x_add {x y : Int32} (h1 : -2147483648 ≤ x.toInt + y.toInt) (h2 : x.toInt + y.toInt < 2147483648) : (x + y).toInt = x.toInt + y.toInt := by
  rw [Int32.toInt_add]; exact x_bm h1 h2
theorem x_sub {x y : Int32} (h1 : -2147483648 ≤ x.toInt - y.toInt) (h2 : x.toInt - y.toInt < 2147483648) : (x - y).toInt = x.toInt - y.toInt := by
  rw [Int32.toInt_sub]; exact x_bm h1 h2
theorem x_mul {x y : Int32} (h1 : -2147483648 ≤ x.toInt * y.toInt) (h2 : x.toInt * y.toInt < 2147483648) : (x * y).toInt = x.toInt * y.toInt := by
  rw [Int32.toInt_mul]; exact x_bm h1 h2
theorem x_neg {x : Int32} (h1 : -2147483648 < x.toInt) : (-x).toInt = -x.toInt := by
  have := x_32 x
  rw [Int32.toInt_neg]; exact x_bm (by omega) (by omega)
theorem x_addL {x y : Int64} (h1 : -9223372036854775808 ≤ x.toInt + y.toInt) (h2 : x.toInt + y.toInt < 9223372036854775808) : (x + y).toInt = x.toInt + y.toInt := by
  rw [Int64.toInt_add]; exact x_bm6 h1 h2
theorem x_subL {x y : Int64} (h1 : -9223372036854775808 ≤ x.toInt - y.toInt) (h2 : x.toInt - y.toInt < 9223372036854775808) : (x - y).toInt = x.toInt - y.toInt := by
  rw [Int64.toInt_sub]; exact x_bm6 h1 h2
theorem x_mulL {x y : Int64} (h1 : -9223372036854775808 ≤ x.toInt * y.toInt) (h2 : x.toInt * y.toInt < 9223372036854775808) : (x * y).toInt = x.toInt * y.toInt := by
  rw [Int64.toInt_mul]; exact x_bm6 h1 h2
theorem x_negL {x : Int64} (h1 : -9223372036854775808 < x.toInt) : (-x).toInt = -x.toInt := by
  have := x_64 x
  rw [Int64.toInt_neg]; exact x_bm6 (by omega) (by omega)
theorem x_il (x : Int32) : x.toInt64.toInt = x.toInt := Int32.toInt_toInt64 x
/-- a product of two small ones -/
theorem x_pb {a b A B : Int} (ha : -A ≤ a) (ha2 : a ≤ A) (hb : -B ≤ b) (hb2 : b ≤ B) : -(A * B) ≤ a * b ∧ a * b ≤ A * B := by
  have hA : 0 ≤ A := by omega
  have hB : 0 ≤ B := by omega
  have h1 : a.natAbs * b.natAbs ≤ A.natAbs * B.natAbs := Nat.mul_le_mul (by omega) (by omega)
  rw [← Int.natAbs_mul, ← Int.natAbs_mul] at h1
  have h2 : 0 ≤ A * B := Int.mul_nonneg hA hB
  omega
theorem x_div {x y : Int32} (hx : 0 ≤ x.toInt) (hy : 0 < y.toInt) : (x / y).toInt = x.toInt / y.toInt := by
  rw [Int32.toInt_div]
  have h1 := x_32 x
  have h3 : x.toInt.tdiv y.toInt = x.toInt / y.toInt := Int.tdiv_eq_ediv_of_nonneg hx
  rw [h3]
  have h4 : x.toInt / y.toInt ≤ x.toInt := Int.ediv_le_self _ hx
  have h5 : 0 ≤ x.toInt / y.toInt := Int.ediv_nonneg hx (by omega)
  exact x_bm (by omega) (by omega)
theorem x_rem {x y : Int32} (hx : 0 ≤ x.toInt) (hy : 0 < y.toInt) : (x - x / y * y).toInt = x.toInt % y.toInt := by
  have hd := x_div hx hy
  have h1 := x_32 x
  have h5 : 0 ≤ x.toInt / y.toInt := Int.ediv_nonneg hx (by omega)
  have h6 : x.toInt / y.toInt * y.toInt ≤ x.toInt := Int.ediv_mul_le _ (by omega)
  have h7 : 0 ≤ x.toInt / y.toInt * y.toInt := Int.mul_nonneg h5 (by omega)
  have hm : (x / y * y).toInt = x.toInt / y.toInt * y.toInt := by
    rw [x_mul (by rw [hd]; omega) (by rw [hd]; omega), hd]
  rw [x_sub (by rw [hm]; omega) (by rw [hm]; omega), hm, Int.emod_def, Int.mul_comm]
theorem x_divN {a d : Nat} (ha : a < 2147483648) (h0 : 0 < d) (hd : d < 2147483648) : nI a / nI d = nI (a / d) := pk_div ha h0 hd
theorem x_remN {a d : Nat} (ha : a < 2147483648) (h0 : 0 < d) (hd : d < 2147483648) : nI a - nI a / nI d * nI d = nI (a % d) := pk_rem ha h0 hd
theorem x_subN {a b : Nat} (h : b ≤ a) : nI a - nI b = nI (a - b) := pk_sub h
/-- memories that agree but at the places of E -/
def x_ex (E : Nat → Nat → Bool) (I I' : x_I) (J J' : x_J) : Prop := ∀ a k : Nat, E a k = false → I' a k = I a k ∧ J' a k = J a k
theorem x_ex.rf {E : Nat → Nat → Bool} {I : x_I} {J : x_J} : x_ex E I I J J := fun _ _ _ => ⟨rfl, rfl⟩
theorem x_ex.tr {E : Nat → Nat → Bool} {I I' I'' : x_I} {J J' J'' : x_J} (h : x_ex E I I' J J') (h2 : x_ex E I' I'' J' J'') : x_ex E I I'' J J'' := fun a k hk => ⟨((h2 a k hk).1).trans (h a k hk).1, ((h2 a k hk).2).trans (h a k hk).2⟩
theorem x_ex.ui {E : Nat → Nat → Bool} {I I' : x_I} {J J' : x_J} {a k : Nat} {v : Int32} (h : x_ex E I I' J J') (he : E a k = true) : x_ex E I (x_u2 I' a k v) J J' := fun b j hj => by
  have hne : ¬ (b = a ∧ j = k) := fun ⟨q1, q2⟩ => by subst q1; subst q2; rw [he] at hj; cases hj
  rw [x_u2_at, if_neg hne]
  exact h b j hj
theorem x_ex.uj {E : Nat → Nat → Bool} {I I' : x_I} {J J' : x_J} {a k : Nat} {v : Int64} (h : x_ex E I I' J J') (he : E a k = true) : x_ex E I I' J (x_u2 J' a k v) := fun b j hj => by
  have hne : ¬ (b = a ∧ j = k) := fun ⟨q1, q2⟩ => by subst q1; subst q2; rw [he] at hj; cases hj
  rw [x_u2_at, if_neg hne]
  exact h b j hj
theorem x_ex.i {E : Nat → Nat → Bool} {I I' : x_I} {J J' : x_J} (h : x_ex E I I' J J') (a k : Nat) (he : E a k = false) : I' a k = I a k := (h a k he).1
theorem x_ex.j {E : Nat → Nat → Bool} {I I' : x_I} {J J' : x_J} (h : x_ex E I I' J J') (a k : Nat) (he : E a k = false) : J' a k = J a k := (h a k he).2
abbrev x_k (s : Int32) : Nat := s.toInt.toNat
theorem x_kn {k : Nat} (h : k < 2147483648) : x_k (nI k) = k := by unfold x_k; rw [x_ti h]; rfl
theorem x_ex1 {s : Int32} (h : 0 ≤ s.toInt) : ∃ k : Nat, s = nI k ∧ k < 2147483648 ∧ s.toInt = (k : Int) ∧ x_k s = k := ⟨x_k s, x_of h, by have := x_32 s; unfold x_k; omega, by unfold x_k; omega, rfl⟩
