/-! The fixed cells: their shapes and their fixed references. -/
def x_S0 (a : Nat) : Option x_Sh := bif Nat.blt a 63 then (bif Nat.blt a 32 then (bif Nat.blt a 16 then (bif Nat.blt a 8 then (bif Nat.blt a 4 then (bif Nat.blt a 2 then (bif Nat.beq a 1 then some (.inl 11) else none) else (bif Nat.blt a 3 then (bif Nat.beq a 2 then some (.inl 9) else none) else (bif Nat.beq a 3 then some (.inl 8) else none))) else (bif Nat.blt a 6 then (bif Nat.blt a 5 then (bif Nat.beq a 4 then some (.inr (3, 10)) else none) else (bif Nat.beq a 5 then some (.inl 6) else none)) else (bif Nat.blt a 7 then (bif Nat.beq a 6 then some (.inr (0, 3)) else none) else (bif Nat.beq a 7 then some (.inr (0, 3)) else none)))) else (bif Nat.blt a 12 then (bif Nat.blt a 10 then (bif Nat.blt a 9 then (bif Nat.beq a 8 then some (.inl 2) else none) else (bif Nat.beq a 9 then some (.inr (0, 12)) else none)) else (bif Nat.blt a 11 then (bif Nat.beq a 10 then some (.inr (4, 4)) else none) else (bif Nat.beq a 11 then some (.inr (0, 64)) else none))) else (bif Nat.blt a 14 then (bif Nat.blt a 13 then (bif Nat.beq a 12 then some (.inr (0, 64)) else none) else (bif Nat.beq a 13 then some (.inr (0, 64)) else none)) else (bif Nat.blt a 15 then (bif Nat.beq a 14 then some (.inr (0, 64)) else none) else (bif Nat.beq a 15 then some (.inr (0, 256)) else none))))) else (bif Nat.blt a 24 then (bif Nat.blt a 20 then (bif Nat.blt a 17 then (bif Nat.beq a 16 then some (.inr (0, 640)) else none) else (bif Nat.blt a 18 then (bif Nat.beq a 17 then some (.inr (1, 10)) else none) else (bif Nat.beq a 18 then some (.inr (0, 10)) else none))) else (bif Nat.blt a 22 then (bif Nat.blt a 21 then (bif Nat.beq a 20 then some (.inl 4) else none) else (bif Nat.beq a 21 then some (.inr (0, 18)) else none)) else (bif Nat.blt a 23 then (bif Nat.beq a 22 then some (.inr (1, 60)) else none) else (bif Nat.beq a 23 then some (.inr (0, 6)) else none)))) else (bif Nat.blt a 28 then (bif Nat.blt a 26 then (bif Nat.blt a 25 then (bif Nat.beq a 24 then some (.inl 3) else none) else (bif Nat.beq a 25 then some (.inr (0, 16)) else none)) else (bif Nat.blt a 27 then (bif Nat.beq a 26 then some (.inr (0, 96)) else none) else (bif Nat.beq a 27 then some (.inr (1, 16)) else none))) else (bif Nat.blt a 30 then (bif Nat.blt a 29 then (bif Nat.beq a 28 then some (.inr (1, 16)) else none) else (bif Nat.beq a 29 then some (.inr (1, 17)) else none)) else (bif Nat.blt a 31 then (bif Nat.beq a 30 then some (.inr (1, 17)) else none) else (bif Nat.beq a 31 then some (.inl 7) else none)))))) else (bif Nat.blt a 47 then (bif Nat.blt a 39 then (bif Nat.blt a 35 then (bif Nat.blt a 33 then (bif Nat.beq a 32 then some (.inr (4, 4)) else none) else (bif Nat.blt a 34 then (bif Nat.beq a 33 then some (.inr (0, 64)) else none) else (bif Nat.beq a 34 then some (.inr (0, 64)) else none))) else (bif Nat.blt a 37 then (bif Nat.blt a 36 then (bif Nat.beq a 35 then some (.inr (0, 64)) else none) else (bif Nat.beq a 36 then some (.inr (0, 64)) else none)) else (bif Nat.blt a 38 then (bif Nat.beq a 37 then some (.inr (0, 4)) else none) else (bif Nat.beq a 38 then some (.inr (0, 4)) else none)))) else (bif Nat.blt a 43 then (bif Nat.blt a 41 then (bif Nat.blt a 40 then (bif Nat.beq a 39 then some (.inl 12) else none) else (bif Nat.beq a 40 then some (.inr (0, 10)) else none)) else (bif Nat.blt a 42 then (bif Nat.beq a 41 then some (.inr (0, 66)) else none) else (bif Nat.beq a 42 then some (.inr (0, 640)) else none))) else (bif Nat.blt a 45 then (bif Nat.blt a 44 then (bif Nat.beq a 43 then some (.inr (0, 12)) else none) else (bif Nat.beq a 44 then some (.inr (0, 256)) else none)) else (bif Nat.blt a 46 then (bif Nat.beq a 45 then some (.inr (0, 4)) else none) else (bif Nat.beq a 46 then some (.inr (0, 4)) else none))))) else (bif Nat.blt a 55 then (bif Nat.blt a 51 then (bif Nat.blt a 49 then (bif Nat.blt a 48 then (bif Nat.beq a 47 then some (.inr (0, 256)) else none) else (bif Nat.beq a 48 then some (.inr (0, 3)) else none)) else (bif Nat.blt a 50 then (bif Nat.beq a 49 then some (.inr (0, 3)) else none) else (bif Nat.beq a 50 then some (.inr (0, 3)) else none))) else (bif Nat.blt a 53 then (bif Nat.blt a 52 then (bif Nat.beq a 51 then some (.inr (0, 6400)) else none) else (bif Nat.beq a 52 then some (.inr (2, 640)) else none)) else (bif Nat.blt a 54 then (bif Nat.beq a 53 then some (.inr (0, 18)) else none) else (bif Nat.beq a 54 then some (.inr (2, 3840)) else none)))) else (bif Nat.blt a 59 then (bif Nat.blt a 57 then (bif Nat.blt a 56 then (bif Nat.beq a 55 then some (.inr (0, 16)) else none) else (bif Nat.beq a 56 then some (.inr (0, 96)) else none)) else (bif Nat.blt a 58 then (bif Nat.beq a 57 then some (.inr (2, 3840)) else none) else (bif Nat.beq a 58 then some (.inr (0, 16)) else none))) else (bif Nat.blt a 61 then (bif Nat.blt a 60 then (bif Nat.beq a 59 then some (.inr (1, 16)) else none) else (bif Nat.beq a 60 then some (.inr (1, 16)) else none)) else (bif Nat.blt a 62 then (bif Nat.beq a 61 then some (.inr (0, 3840)) else none) else (bif Nat.beq a 62 then some (.inr (0, 10)) else none))))))) else none
def x_P0_1 (k : Nat) : Option Nat := bif Nat.blt k 3 then (bif Nat.blt k 1 then (bif Nat.beq k 0 then some 2 else none) else (bif Nat.blt k 2 then (bif Nat.beq k 1 then some 3 else none) else (bif Nat.beq k 2 then some 5 else none))) else (bif Nat.blt k 4 then (bif Nat.beq k 3 then some 8 else none) else (bif Nat.blt k 5 then (bif Nat.beq k 4 then some 20 else none) else (bif Nat.beq k 5 then some 31 else none)))
def x_P0_3 (k : Nat) : Option Nat := bif Nat.beq k 0 then some 4 else none
def x_P0_5 (k : Nat) : Option Nat := bif Nat.blt k 1 then (bif Nat.beq k 0 then some 3 else none) else (bif Nat.blt k 2 then (bif Nat.beq k 1 then some 6 else none) else (bif Nat.beq k 2 then some 7 else none))
def x_P0_8 (k : Nat) : Option Nat := bif Nat.blt k 4 then (bif Nat.blt k 2 then (bif Nat.blt k 1 then (bif Nat.beq k 0 then some 3 else none) else (bif Nat.beq k 1 then some 5 else none)) else (bif Nat.blt k 3 then (bif Nat.beq k 2 then some 9 else none) else (bif Nat.beq k 3 then some 10 else none))) else (bif Nat.blt k 6 then (bif Nat.blt k 5 then (bif Nat.beq k 4 then some 15 else none) else (bif Nat.beq k 5 then some 16 else none)) else (bif Nat.blt k 7 then (bif Nat.beq k 6 then some 17 else none) else (bif Nat.beq k 7 then some 18 else none)))
def x_P0_20 (k : Nat) : Option Nat := bif Nat.blt k 3 then (bif Nat.blt k 1 then (bif Nat.beq k 0 then some 3 else none) else (bif Nat.blt k 2 then (bif Nat.beq k 1 then some 5 else none) else (bif Nat.beq k 2 then some 21 else none))) else (bif Nat.blt k 4 then (bif Nat.beq k 3 then some 22 else none) else (bif Nat.blt k 5 then (bif Nat.beq k 4 then some 23 else none) else (bif Nat.beq k 5 then some 24 else none)))
def x_P0_31 (k : Nat) : Option Nat := bif Nat.blt k 1 then (bif Nat.beq k 0 then some 32 else none) else (bif Nat.blt k 2 then (bif Nat.beq k 1 then some 37 else none) else (bif Nat.beq k 2 then some 38 else none))
def x_P0_10 (k : Nat) : Option Nat := bif Nat.blt k 2 then (bif Nat.blt k 1 then (bif Nat.beq k 0 then some 11 else none) else (bif Nat.beq k 1 then some 12 else none)) else (bif Nat.blt k 3 then (bif Nat.beq k 2 then some 13 else none) else (bif Nat.beq k 3 then some 14 else none))
def x_P0_32 (k : Nat) : Option Nat := bif Nat.blt k 2 then (bif Nat.blt k 1 then (bif Nat.beq k 0 then some 33 else none) else (bif Nat.beq k 1 then some 34 else none)) else (bif Nat.blt k 3 then (bif Nat.beq k 2 then some 35 else none) else (bif Nat.beq k 3 then some 36 else none))
def x_P0_24 (k : Nat) : Option Nat := bif Nat.blt k 3 then (bif Nat.blt k 1 then (bif Nat.beq k 0 then some 25 else none) else (bif Nat.blt k 2 then (bif Nat.beq k 1 then some 26 else none) else (bif Nat.beq k 2 then some 27 else none))) else (bif Nat.blt k 4 then (bif Nat.beq k 3 then some 28 else none) else (bif Nat.blt k 5 then (bif Nat.beq k 4 then some 29 else none) else (bif Nat.beq k 5 then some 30 else none)))
def x_P0_39 (k : Nat) : Option Nat := bif Nat.blt k 22 then (bif Nat.blt k 9 then (bif Nat.blt k 5 then (bif Nat.blt k 4 then (bif Nat.beq k 3 then some 40 else none) else (bif Nat.beq k 4 then some 41 else none)) else (bif Nat.blt k 6 then (bif Nat.beq k 5 then some 42 else none) else (bif Nat.blt k 7 then (bif Nat.beq k 6 then some 43 else none) else (bif Nat.beq k 7 then some 44 else none)))) else (bif Nat.blt k 12 then (bif Nat.blt k 10 then (bif Nat.beq k 9 then some 45 else none) else (bif Nat.blt k 11 then (bif Nat.beq k 10 then some 46 else none) else (bif Nat.beq k 11 then some 47 else none))) else (bif Nat.blt k 13 then (bif Nat.beq k 12 then some 48 else none) else (bif Nat.blt k 21 then (bif Nat.beq k 13 then some 49 else none) else (bif Nat.beq k 21 then some 50 else none))))) else (bif Nat.blt k 31 then (bif Nat.blt k 27 then (bif Nat.blt k 23 then (bif Nat.beq k 22 then some 51 else none) else (bif Nat.blt k 25 then (bif Nat.beq k 23 then some 52 else none) else (bif Nat.beq k 25 then some 53 else none))) else (bif Nat.blt k 29 then (bif Nat.beq k 27 then some 54 else none) else (bif Nat.blt k 30 then (bif Nat.beq k 29 then some 55 else none) else (bif Nat.beq k 30 then some 56 else none)))) else (bif Nat.blt k 34 then (bif Nat.blt k 32 then (bif Nat.beq k 31 then some 57 else none) else (bif Nat.blt k 33 then (bif Nat.beq k 32 then some 58 else none) else (bif Nat.beq k 33 then some 59 else none))) else (bif Nat.blt k 35 then (bif Nat.beq k 34 then some 60 else none) else (bif Nat.blt k 36 then (bif Nat.beq k 35 then some 61 else none) else (bif Nat.beq k 36 then some 62 else none)))))
def x_P0 (a k : Nat) : Option Nat := bif Nat.blt a 20 then (bif Nat.blt a 5 then (bif Nat.blt a 3 then (bif Nat.beq a 1 then x_P0_1 k else none) else (bif Nat.beq a 3 then x_P0_3 k else none)) else (bif Nat.blt a 8 then (bif Nat.beq a 5 then x_P0_5 k else none) else (bif Nat.blt a 10 then (bif Nat.beq a 8 then x_P0_8 k else none) else (bif Nat.beq a 10 then x_P0_10 k else none)))) else (bif Nat.blt a 31 then (bif Nat.blt a 24 then (bif Nat.beq a 20 then x_P0_20 k else none) else (bif Nat.beq a 24 then x_P0_24 k else none)) else (bif Nat.blt a 32 then (bif Nat.beq a 31 then x_P0_31 k else none) else (bif Nat.blt a 39 then (bif Nat.beq a 32 then x_P0_32 k else none) else (bif Nat.beq a 39 then x_P0_39 k else none))))
def x_hS (S : x_S) : Prop := ∀ (a : Nat) (z : x_Sh), x_S0 a = some z → S a = z
def x_hP (P : x_P) : Prop := ∀ a k r : Nat, x_P0 a k = some r → P a k = some r
theorem x_bp_m99 : (Int8.ofInt (-99)).toInt32 = (-99) := by decide +kernel
theorem x_bp_m10 : (Int8.ofInt (-10)).toInt32 = (-10) := by decide +kernel
theorem x_bp_m9 : (Int8.ofInt (-9)).toInt32 = (-9) := by decide +kernel
theorem x_bp_m6 : (Int8.ofInt (-6)).toInt32 = (-6) := by decide +kernel
theorem x_bp_m4 : (Int8.ofInt (-4)).toInt32 = (-4) := by decide +kernel
theorem x_bp_m3 : (Int8.ofInt (-3)).toInt32 = (-3) := by decide +kernel
theorem x_bp_m2 : (Int8.ofInt (-2)).toInt32 = (-2) := by decide +kernel
theorem x_bp_6 : (Int8.ofInt 6).toInt32 = nI 6 := by decide +kernel
theorem x_bp_7 : (Int8.ofInt 7).toInt32 = nI 7 := by decide +kernel
theorem x_bp_8 : (Int8.ofInt 8).toInt32 = nI 8 := by decide +kernel
theorem x_bp_9 : (Int8.ofInt 9).toInt32 = nI 9 := by decide +kernel
theorem x_bp_10 : (Int8.ofInt 10).toInt32 = nI 10 := by decide +kernel
theorem x_bp_12 : (Int8.ofInt 12).toInt32 = nI 12 := by decide +kernel
theorem x_bp_15 : (Int8.ofInt 15).toInt32 = nI 15 := by decide +kernel
theorem x_bp_16 : (Int8.ofInt 16).toInt32 = nI 16 := by decide +kernel
theorem x_bp_17 : (Int8.ofInt 17).toInt32 = nI 17 := by decide +kernel
theorem x_bp_18 : (Int8.ofInt 18).toInt32 = nI 18 := by decide +kernel
theorem x_bp_20 : (Int8.ofInt 20).toInt32 = nI 20 := by decide +kernel
theorem x_bp_27 : (Int8.ofInt 27).toInt32 = nI 27 := by decide +kernel
theorem x_bp_31 : (Int8.ofInt 31).toInt32 = nI 31 := by decide +kernel
theorem x_bp_32 : (Int8.ofInt 32).toInt32 = nI 32 := by decide +kernel
theorem x_bp_40 : (Int8.ofInt 40).toInt32 = nI 40 := by decide +kernel
theorem x_bp_60 : (Int8.ofInt 60).toInt32 = nI 60 := by decide +kernel
theorem x_bp_63 : (Int8.ofInt 63).toInt32 = nI 63 := by decide +kernel
theorem x_bp_64 : (Int8.ofInt 64).toInt32 = nI 64 := by decide +kernel
theorem x_bp_66 : (Int8.ofInt 66).toInt32 = nI 66 := by decide +kernel
theorem x_bp_96 : (Int8.ofInt 96).toInt32 = nI 96 := by decide +kernel
theorem x_bp_99 : (Int8.ofInt 99).toInt32 = nI 99 := by decide +kernel
theorem x_bp_100 : (Int8.ofInt 100).toInt32 = nI 100 := by decide +kernel
theorem x_bp_127 : (Int8.ofInt 127).toInt32 = nI 127 := by decide +kernel
theorem x_ic_m1 : Int32.ofInt (-1) = (-1) := by decide +kernel
theorem x_ic_0 : Int32.ofInt 0 = nI 0 := by decide +kernel
theorem x_ic_1 : Int32.ofInt 1 = nI 1 := by decide +kernel
theorem x_ic_2 : Int32.ofInt 2 = nI 2 := by decide +kernel
theorem x_ic_3 : Int32.ofInt 3 = nI 3 := by decide +kernel
theorem x_ic_4 : Int32.ofInt 4 = nI 4 := by decide +kernel
theorem x_ic_5 : Int32.ofInt 5 = nI 5 := by decide +kernel
theorem x_sp_256 : (Int16.ofInt 256).toInt32 = nI 256 := by decide +kernel
theorem x_sp_640 : (Int16.ofInt 640).toInt32 = nI 640 := by decide +kernel
theorem x_sp_1024 : (Int16.ofInt 1024).toInt32 = nI 1024 := by decide +kernel
theorem x_sp_3840 : (Int16.ofInt 3840).toInt32 = nI 3840 := by decide +kernel
theorem x_sp_6400 : (Int16.ofInt 6400).toInt32 = nI 6400 := by decide +kernel
theorem x_inc_1 (k : Nat) : nI k + Int32.ofInt 1 = nI (k + 1) := by rw [show Int32.ofInt 1 = nI 1 by decide +kernel, nI_add]
theorem x_inc_2 (k : Nat) : nI k + Int32.ofInt 2 = nI (k + 2) := by rw [show Int32.ofInt 2 = nI 2 by decide +kernel, nI_add]
theorem x_inc_8 (k : Nat) : nI k + Int32.ofInt 8 = nI (k + 8) := by rw [show Int32.ofInt 8 = nI 8 by decide +kernel, nI_add]
theorem x_dec (k : Nat) : nI (k + 1) + Int32.ofInt (-1) = nI k := by rw [show Int32.ofInt (-1) = -1 by decide +kernel]; exact pk_m1 k
theorem x_hP_u {P : x_P} {a k : Nat} {v : Option Nat} (h : x_hP P) (h0 : x_P0 a k = none) : x_hP (x_u2 P a k v) := by
  intro b j r hr
  rw [x_u2_at]
  by_cases e : b = a ∧ j = k
  · obtain ⟨rfl, rfl⟩ := e
    rw [h0] at hr; cases hr
  · rw [if_neg e]; exact h b j r hr
theorem x_S0_lt {a : Nat} {z : x_Sh} (h : x_S0 a = some z) : 0 < a ∧ a < 63 := by
  rcases Nat.lt_or_ge a 63 with q | q
  · refine ⟨Nat.pos_of_ne_zero fun e => ?_, q⟩
    subst e; cases h
  · exfalso
    have hb : Nat.blt a 63 = false := by
      cases hc : Nat.blt a 63 with
      | true => exact absurd (Nat.le_of_ble_eq_true hc) (by omega)
      | false => rfl
    unfold x_S0 at h
    rw [hb] at h
    cases h
theorem x_hS_u {S : x_S} {a : Nat} {z : x_Sh} (h : x_hS S) (ha : 63 ≤ a) : x_hS (x_u1 S a z) := by
  intro b y hb
  have := x_S0_lt hb
  rw [x_u1_n _ _ (by omega)]
  exact h b y hb
