set_option maxRecDepth 100000 in
set_option maxHeartbeats 4000000 in
theorem t_X12_floorOf {K : x_K} {S : x_S} {P : x_P} {I : x_I} {J : x_J} {n : Nat} {u d : Int64} (hd : 0 < d.toInt) (hu : -9223372036854775807 < u.toInt) (hK : ∀ r : Int64, r.toInt = u.toInt / d.toInt → K (some (.long r)) S P I J n) : x_Call f_X12_floorOf [.long u, .long d] K S P I J n := by
  have hne : ¬ d = 0 := fun z => by rw [z] at hd; exact absurd hd (by decide)
  have e1 := x_divL hd (x := u) (by omega)
  have e2 := x_remL hd (x := u) (by omega)
  have e3 := x_td (a := u.toInt) hd
  have e0 : (0 : Int64).toInt = 0 := by decide
  have e9 : (1 : Int64).toInt = 1 := by decide
  refine x_intro (by decide) 2 (ls := [_, _, _, _, _, _]) rfl (Nat.le_of_ble_eq_true rfl) ?_
  refine v_lload_n d_X12_floorOf_0 rfl ?_
  refine v_lload_n d_X12_floorOf_1 rfl ?_
  refine v_ldiv d_X12_floorOf_2 (hne) ?_
  refine v_lstore (ls' := [_, _, _, _, _, _]) d_X12_floorOf_3 (by decide) rfl ?_
  refine v_lload_n d_X12_floorOf_5 rfl ?_
  refine v_lload_n d_X12_floorOf_6 rfl ?_
  refine v_lrem d_X12_floorOf_7 (hne) ?_
  refine v_lconst (v := 0) d_X12_floorOf_8 rfl ?_
  refine w_lc_ge d_X12_floorOf_9 d_X12_floorOf_10 (fun a9 => ?_) (fun a9 => ?_)
  · try simp (disch := omega) only [x_ti, x_tm1] at a9
    refine v_lload d_X12_floorOf_20 rfl ?_
    refine v_ret (v := some (.long _)) d_X12_floorOf_22 rfl ⟨rfl, rfl⟩ (by decide) (by decide) ?_
    first
      | (refine hK _ ?_
         rw [e3, if_neg (by omega), e1])
      | (refine hK _ ?_
         have h6 := x_tdb (a := u.toInt) hd
         have h7 := x_64 u
         rw [e3, if_pos (by omega), x_subL (by omega) (by omega), e1, e9])
  · try simp (disch := omega) only [x_ti, x_tm1] at a9
    refine v_lload d_X12_floorOf_13 rfl ?_
    refine v_lconst (v := 1) d_X12_floorOf_15 rfl ?_
    refine v_lsub d_X12_floorOf_16 ?_
    refine v_goto d_X12_floorOf_17 ?_
    refine v_ret (v := some (.long _)) d_X12_floorOf_22 rfl ⟨rfl, rfl⟩ (by decide) (by decide) ?_
    first
      | (refine hK _ ?_
         rw [e3, if_neg (by omega), e1])
      | (refine hK _ ?_
         have h6 := x_tdb (a := u.toInt) hd
         have h7 := x_64 u
         rw [e3, if_pos (by omega), x_subL (by omega) (by omega), e1, e9])

set_option maxRecDepth 100000 in
set_option maxHeartbeats 4000000 in
theorem t_X12_wholeAt {K : x_K} {S : x_S} {P : x_P} {I : x_I} {J : x_J} {n : Nat} {x : Int32} (k : Nat) (hx : x = nI k) (hk : k < 3) (hp : ∀ a, a < 3 → -1000 ≤ (I 48 a).toInt ∧ (I 48 a).toInt ≤ 1000) (hq : ∀ a, a < 3 → -100 ≤ (I 49 a).toInt ∧ (I 49 a).toInt ≤ 100) (hu : -2000 ≤ (J 39 19).toInt ∧ (J 39 19).toInt ≤ 2000) (hd : 1 ≤ (J 39 20).toInt ∧ (J 39 20).toInt ≤ 100) (hf : (I 39 14).toInt = 1 ∨ (I 39 14).toInt = 2) (hS : x_hS S) (hP : x_hP P) (hK : ∀ r : Int64, r.toInt = r_w (I 39 14).toInt (fun a => (I 48 a).toInt) (fun a => (I 49 a).toInt) (J 39 19).toInt (J 39 20).toInt k → K (some (.long r)) S P I J n) : x_Call f_X12_wholeAt [.ref 39, .int x] K S P I J n := by
  subst hx
  have b1 := hp k hk
  have b2 := hq k hk
  have p1 := x_pb (a := (I 48 k).toInt) (b := (J 39 20).toInt) (A := 1000) (B := 100) (by omega) (by omega) (by omega) (by omega)
  have p2 := x_pb (a := (I 49 k).toInt) (b := (J 39 19).toInt) (A := 100) (B := 2000) (by omega) (by omega) (by omega) (by omega)
  have p3 := x_pb (a := (J 39 20).toInt) (b := (I 39 14).toInt) (A := 100) (B := 2) (by omega) (by omega) (by omega) (by omega)
  have p4 : 0 < (J 39 20).toInt * (I 39 14).toInt := Int.mul_pos (by omega) (by omega)
  have m1 : ((I 48 k).toInt64 * J 39 20).toInt = (I 48 k).toInt * (J 39 20).toInt := by rw [x_mulL (by rw [x_il]; omega) (by rw [x_il]; omega), x_il]
  have m2 : ((I 49 k).toInt64 * J 39 19).toInt = (I 49 k).toInt * (J 39 19).toInt := by rw [x_mulL (by rw [x_il]; omega) (by rw [x_il]; omega), x_il]
  have m3 : (J 39 20 * (I 39 14).toInt64).toInt = (J 39 20).toInt * (I 39 14).toInt := by rw [x_mulL (by rw [x_il]; omega) (by rw [x_il]; omega), x_il]
  have m4 : ((I 48 k).toInt64 * J 39 20 + (I 49 k).toInt64 * J 39 19).toInt = (I 48 k).toInt * (J 39 20).toInt + (I 49 k).toInt * (J 39 19).toInt := by rw [x_addL (by omega) (by omega), m1, m2]
  refine x_intro (by decide) 0 (ls := [_, _]) rfl (Nat.le_of_ble_eq_true rfl) ?_
  refine v_aload_n d_X12_wholeAt_0 rfl ?_
  refine v_gr d_X12_wholeAt_1 lf_X12_34_12 rfl (hS _ _ rfl) (hP _ _ _ rfl) ?_
  refine v_iload_n d_X12_wholeAt_4 rfl ?_
  refine v_iald _ d_X12_wholeAt_5 (rfl) (hS _ _ rfl) (⟨by omega, by omega⟩) (rfl) ?_
  refine v_i2l d_X12_wholeAt_6 ?_
  refine v_aload_n d_X12_wholeAt_7 rfl ?_
  refine v_gl d_X12_wholeAt_8 lf_X12_150_12 rfl (hS _ _ rfl) ?_
  refine v_lmul d_X12_wholeAt_11 ?_
  refine v_aload_n d_X12_wholeAt_12 rfl ?_
  refine v_gr d_X12_wholeAt_13 lf_X12_37_12 rfl (hS _ _ rfl) (hP _ _ _ rfl) ?_
  refine v_iload_n d_X12_wholeAt_16 rfl ?_
  refine v_iald _ d_X12_wholeAt_17 (rfl) (hS _ _ rfl) (⟨by omega, by omega⟩) (rfl) ?_
  refine v_i2l d_X12_wholeAt_18 ?_
  refine v_aload_n d_X12_wholeAt_19 rfl ?_
  refine v_gl d_X12_wholeAt_20 lf_X12_154_12 rfl (hS _ _ rfl) ?_
  refine v_lmul d_X12_wholeAt_23 ?_
  refine v_ladd d_X12_wholeAt_24 ?_
  refine v_aload_n d_X12_wholeAt_25 rfl ?_
  refine v_gl d_X12_wholeAt_26 lf_X12_150_12 rfl (hS _ _ rfl) ?_
  refine v_aload_n d_X12_wholeAt_29 rfl ?_
  refine v_gi d_X12_wholeAt_30 lf_X12_157_12 rfl (hS _ _ rfl) ?_
  refine v_i2l d_X12_wholeAt_33 ?_
  refine v_lmul d_X12_wholeAt_34 ?_
  refine v_cs (as := [_, _]) (rest := []) d_X12_wholeAt_35 ls_X12_160 rfl ⟨by decide, by decide⟩ rfl (Nat.le_of_ble_eq_true rfl) (by decide) (by decide) ?_
  refine t_X12_floorOf (by rw [m3]; exact p4) (by rw [m4]; omega) (fun r hr => ?_)
  refine v_ret (v := some (.long _)) d_X12_wholeAt_38 rfl ⟨rfl, rfl⟩ (by decide) (by decide) ?_
  refine hK _ ?_
  rw [hr, m4, m3]
  rfl

theorem r_wb {I : x_I} {J : x_J} {k : Nat} (hp : -1000 ≤ (I 48 k).toInt ∧ (I 48 k).toInt ≤ 1000) (hq : -100 ≤ (I 49 k).toInt ∧ (I 49 k).toInt ≤ 100) (hu : -2000 ≤ (J 39 19).toInt ∧ (J 39 19).toInt ≤ 2000) (hd : 1 ≤ (J 39 20).toInt ∧ (J 39 20).toInt ≤ 100) (hf : (I 39 14).toInt = 1 ∨ (I 39 14).toInt = 2) :
    -300000 ≤ r_w (I 39 14).toInt (fun a => (I 48 a).toInt) (fun a => (I 49 a).toInt) (J 39 19).toInt (J 39 20).toInt k ∧ r_w (I 39 14).toInt (fun a => (I 48 a).toInt) (fun a => (I 49 a).toInt) (J 39 19).toInt (J 39 20).toInt k ≤ 300000 := by
  have p1 := x_pb (a := (I 48 k).toInt) (b := (J 39 20).toInt) (A := 1000) (B := 100) (by omega) (by omega) (by omega) (by omega)
  have p2 := x_pb (a := (I 49 k).toInt) (b := (J 39 19).toInt) (A := 100) (B := 2000) (by omega) (by omega) (by omega) (by omega)
  have p4 : 0 < (J 39 20).toInt * (I 39 14).toInt := Int.mul_pos (by omega) (by omega)
  have py : -300000 ≤ (I 48 k).toInt * (J 39 20).toInt + (I 49 k).toInt * (J 39 19).toInt ∧ (I 48 k).toInt * (J 39 20).toInt + (I 49 k).toInt * (J 39 19).toInt ≤ 300000 := by omega
  unfold r_w
  generalize (I 48 k).toInt * (J 39 20).toInt + (I 49 k).toInt * (J 39 19).toInt = y at *
  generalize (J 39 20).toInt * (I 39 14).toInt = z at *
  refine ⟨Int.le_ediv_of_mul_le p4 ?_, Int.ediv_le_of_le_mul p4 ?_⟩
  · have : z * 300000 ≥ 300000 := by omega
    omega
  · have : z * 300000 ≥ 300000 := by omega
    omega
theorem x_l2i {x : Int64} (h1 : 0 ≤ x.toInt) (h2 : x.toInt < 2147483648) : x.toInt32 = nI x.toInt.toNat := by
  refine x_of' ?_
  rw [Int64.toInt_toInt32, x_bm (by omega) (by omega)]
  omega

set_option maxRecDepth 100000 in
set_option maxHeartbeats 4000000 in
theorem l_X12_comesTo {K : x_K} {S : x_S} {P : x_P} {I : x_I} {J : x_J} {n : Nat} (k a : Nat) (hk : k < 11) (ha : a < 3) (hp : ∀ a, a < 3 → -1000 ≤ (I 48 a).toInt ∧ (I 48 a).toInt ≤ 1000) (hq : ∀ a, a < 3 → -100 ≤ (I 49 a).toInt ∧ (I 49 a).toInt ≤ 100) (hu : -2000 ≤ (J 39 19).toInt ∧ (J 39 19).toInt ≤ 2000) (hd : 1 ≤ (J 39 20).toInt ∧ (J 39 20).toInt ≤ 100) (hlu : -2000 ≤ (J 39 17).toInt ∧ (J 39 17).toInt ≤ 2000) (hld : 1 ≤ (J 39 18).toInt ∧ (J 39 18).toInt ≤ 100) (hf : (I 39 14).toInt = 1 ∨ (I 39 14).toInt = 2) (hfo : m_fo I k) (hS : x_hS S) (hP : x_hP P) (h1 : (J 39 19).toInt * (J 39 18).toInt ≤ (J 39 17).toInt * (J 39 20).toInt → K (some (.int (-9))) S P I J n) (h2 : ¬ ((J 39 19).toInt * (J 39 18).toInt ≤ (J 39 17).toInt * (J 39 20).toInt) → ¬ (0 ≤ (r_w (I 39 14).toInt (fun a => (I 48 a).toInt) (fun a => (I 49 a).toInt) (J 39 19).toInt (J 39 20).toInt (r_o1 a) - (I 41 (6 * k + 2)).toInt) ∧ (r_w (I 39 14).toInt (fun a => (I 48 a).toInt) (fun a => (I 49 a).toInt) (J 39 19).toInt (J 39 20).toInt (r_o1 a) - (I 41 (6 * k + 2)).toInt) < (I 41 (6 * k + 4)).toInt ∧ 0 ≤ (r_w (I 39 14).toInt (fun a => (I 48 a).toInt) (fun a => (I 49 a).toInt) (J 39 19).toInt (J 39 20).toInt (r_o2 a) - (I 41 (6 * k + 3)).toInt) ∧ (r_w (I 39 14).toInt (fun a => (I 48 a).toInt) (fun a => (I 49 a).toInt) (J 39 19).toInt (J 39 20).toInt (r_o2 a) - (I 41 (6 * k + 3)).toInt) < (I 41 (6 * k + 5)).toInt) → K (some (.int (-9))) S P I J n) (h3 : ¬ ((J 39 19).toInt * (J 39 18).toInt ≤ (J 39 17).toInt * (J 39 20).toInt) → (0 ≤ (r_w (I 39 14).toInt (fun a => (I 48 a).toInt) (fun a => (I 49 a).toInt) (J 39 19).toInt (J 39 20).toInt (r_o1 a) - (I 41 (6 * k + 2)).toInt) ∧ (r_w (I 39 14).toInt (fun a => (I 48 a).toInt) (fun a => (I 49 a).toInt) (J 39 19).toInt (J 39 20).toInt (r_o1 a) - (I 41 (6 * k + 2)).toInt) < (I 41 (6 * k + 4)).toInt ∧ 0 ≤ (r_w (I 39 14).toInt (fun a => (I 48 a).toInt) (fun a => (I 49 a).toInt) (J 39 19).toInt (J 39 20).toInt (r_o2 a) - (I 41 (6 * k + 3)).toInt) ∧ (r_w (I 39 14).toInt (fun a => (I 48 a).toInt) (fun a => (I 49 a).toInt) (J 39 19).toInt (J 39 20).toInt (r_o2 a) - (I 41 (6 * k + 3)).toInt) < (I 41 (6 * k + 5)).toInt) → K (some (.int (nI ((I 41 (6 * k + 4)).toInt * (r_w (I 39 14).toInt (fun a => (I 48 a).toInt) (fun a => (I 49 a).toInt) (J 39 19).toInt (J 39 20).toInt (r_o2 a) - (I 41 (6 * k + 3)).toInt) + (r_w (I 39 14).toInt (fun a => (I 48 a).toInt) (fun a => (I 49 a).toInt) (J 39 19).toInt (J 39 20).toInt (r_o1 a) - (I 41 (6 * k + 2)).toInt)).toNat))) S P I J n) : x_V f_X12_comesTo K 90 [some (.ref 39), some (.int (nI k)), some (.int (nI a)), none, none, none, none] [] S P I J n 0 0 := by
  obtain ⟨f0, f1, f2, f3, f4, f5, f6, f7⟩ := hfo
  have z0 : (0 : Int64).toInt = 0 := by decide
  have c1 := x_pb (a := (J 39 19).toInt) (b := (J 39 18).toInt) (A := 2000) (B := 100) (by omega) (by omega) (by omega) (by omega)
  have c2 := x_pb (a := (J 39 17).toInt) (b := (J 39 20).toInt) (A := 2000) (B := 100) (by omega) (by omega) (by omega) (by omega)
  have m4 : (J 39 19 * J 39 18).toInt = (J 39 19).toInt * (J 39 18).toInt := x_mulL (by omega) (by omega)
  have m5 : (J 39 17 * J 39 20).toInt = (J 39 17).toInt * (J 39 20).toInt := x_mulL (by omega) (by omega)
  refine v_aload_n d_X12_comesTo_90 rfl ?_
  refine v_gl d_X12_comesTo_91 lf_X12_154_12 rfl (hS _ _ rfl) ?_
  refine v_aload_n d_X12_comesTo_94 rfl ?_
  refine v_gl d_X12_comesTo_95 lf_X12_164_12 rfl (hS _ _ rfl) ?_
  refine v_lmul d_X12_comesTo_98 ?_
  refine v_aload_n d_X12_comesTo_99 rfl ?_
  refine v_gl d_X12_comesTo_100 lf_X12_167_12 rfl (hS _ _ rfl) ?_
  refine v_aload_n d_X12_comesTo_103 rfl ?_
  refine v_gl d_X12_comesTo_104 lf_X12_150_12 rfl (hS _ _ rfl) ?_
  refine v_lmul d_X12_comesTo_107 ?_
  refine w_lc_gt d_X12_comesTo_108 d_X12_comesTo_109 (fun a108 => ?_) (fun a108 => ?_)
  · refine v_aload_n d_X12_comesTo_115 rfl ?_
    refine v_iload_n d_X12_comesTo_116 rfl ?_
    refine v_cs (as := [_]) (rest := [_]) d_X12_comesTo_117 ls_X12_170 rfl ⟨by decide, by decide⟩ rfl (Nat.le_of_ble_eq_true rfl) (by decide) (by decide) ?_
    refine t_X12_firstOther a rfl ha ?_
    refine v_cv (as := [_]) (rest := []) d_X12_comesTo_120 lv_X12_173_12 (hS _ _ rfl) rfl ⟨by decide, by decide⟩ rfl (Nat.le_of_ble_eq_true rfl) (by decide) (by decide) ?_
    refine t_X12_wholeAt (r_o1 a) rfl (by unfold r_o1; split <;> omega) hp hq hu hd hf hS hP (fun w1 hw1 => ?_)
    refine v_aload_n d_X12_comesTo_123 rfl ?_
    refine v_gr d_X12_comesTo_124 lf_X12_13_12 rfl (hS _ _ rfl) (hP _ _ _ rfl) ?_
    refine v_bipush (v := nI 6) d_X12_comesTo_127 x_bp_6 ?_
    refine v_iload_n d_X12_comesTo_129 rfl ?_
    first | refine v_imulN d_X12_comesTo_130 ?_ | refine v_imul d_X12_comesTo_130 ?_
    refine v_iconst (v := nI 2) d_X12_comesTo_131 x_ic_2 ?_
    first | refine v_iaddN d_X12_comesTo_132 ?_ | refine v_iadd d_X12_comesTo_132 ?_
    refine v_iald _ d_X12_comesTo_133 (rfl) (hS _ _ rfl) (⟨by omega, by omega⟩) (rfl) ?_
    refine v_i2l d_X12_comesTo_134 ?_
    refine v_lsub d_X12_comesTo_135 ?_
    refine v_lstore_n (ls' := [_, _, _, _, _, _, _]) d_X12_comesTo_136 (by decide) rfl ?_
    refine v_aload_n d_X12_comesTo_137 rfl ?_
    refine v_iload_n d_X12_comesTo_138 rfl ?_
    refine v_cs (as := [_]) (rest := [_]) d_X12_comesTo_139 ls_X12_177 rfl ⟨by decide, by decide⟩ rfl (Nat.le_of_ble_eq_true rfl) (by decide) (by decide) ?_
    refine t_X12_secondOther a rfl ha ?_
    refine v_cv (as := [_]) (rest := []) d_X12_comesTo_142 lv_X12_173_12 (hS _ _ rfl) rfl ⟨by decide, by decide⟩ rfl (Nat.le_of_ble_eq_true rfl) (by decide) (by decide) ?_
    refine t_X12_wholeAt (r_o2 a) rfl (by unfold r_o2; split <;> omega) hp hq hu hd hf hS hP (fun w2 hw2 => ?_)
    have w1b := r_wb (k := r_o1 a) (hp _ (by unfold r_o1; split <;> omega)) (hq _ (by unfold r_o1; split <;> omega)) hu hd hf
    rw [← hw1] at w1b
    have v1 : (w1 - (I 41 (6 * k + 2)).toInt64).toInt = w1.toInt - (I 41 (6 * k + 2)).toInt := by rw [x_subL (by rw [x_il]; omega) (by rw [x_il]; omega), x_il]
    have w2b := r_wb (k := r_o2 a) (hp _ (by unfold r_o2; split <;> omega)) (hq _ (by unfold r_o2; split <;> omega)) hu hd hf
    rw [← hw2] at w2b
    have v2 : (w2 - (I 41 (6 * k + 3)).toInt64).toInt = w2.toInt - (I 41 (6 * k + 3)).toInt := by rw [x_subL (by rw [x_il]; omega) (by rw [x_il]; omega), x_il]
    refine v_aload_n d_X12_comesTo_145 rfl ?_
    refine v_gr d_X12_comesTo_146 lf_X12_13_12 rfl (hS _ _ rfl) (hP _ _ _ rfl) ?_
    refine v_bipush (v := nI 6) d_X12_comesTo_149 x_bp_6 ?_
    refine v_iload_n d_X12_comesTo_151 rfl ?_
    first | refine v_imulN d_X12_comesTo_152 ?_ | refine v_imul d_X12_comesTo_152 ?_
    refine v_iconst (v := nI 3) d_X12_comesTo_153 x_ic_3 ?_
    first | refine v_iaddN d_X12_comesTo_154 ?_ | refine v_iadd d_X12_comesTo_154 ?_
    refine v_iald _ d_X12_comesTo_155 (rfl) (hS _ _ rfl) (⟨by omega, by omega⟩) (rfl) ?_
    refine v_i2l d_X12_comesTo_156 ?_
    refine v_lsub d_X12_comesTo_157 ?_
    refine v_lstore (ls' := [_, _, _, _, _, _, _]) d_X12_comesTo_158 (by decide) rfl ?_
    refine v_lload_n d_X12_comesTo_160 rfl ?_
    refine v_lconst (v := 0) d_X12_comesTo_161 rfl ?_
    refine w_lc_lt d_X12_comesTo_162 d_X12_comesTo_163 (fun a162 => ?_) (fun a162 => ?_)
    · refine v_bipush (v := (-9)) d_X12_comesTo_208 x_bp_m9 ?_
      refine v_ret (v := some (.int _)) d_X12_comesTo_210 rfl ⟨rfl, _, rfl, rfl⟩ (by decide) (by decide) ?_
      refine h2 (by omega) (fun hz => ?_)
      rw [← hw1, ← hw2] at hz
      first | (rw [v1, z0] at a162; omega) | (rw [v1, x_il] at a179; omega) | (rw [v2, z0] at a186; omega) | (rw [v2, x_il] at a204; omega)
    · refine v_lload_n d_X12_comesTo_166 rfl ?_
      refine v_aload_n d_X12_comesTo_167 rfl ?_
      refine v_gr d_X12_comesTo_168 lf_X12_13_12 rfl (hS _ _ rfl) (hP _ _ _ rfl) ?_
      refine v_bipush (v := nI 6) d_X12_comesTo_171 x_bp_6 ?_
      refine v_iload_n d_X12_comesTo_173 rfl ?_
      first | refine v_imulN d_X12_comesTo_174 ?_ | refine v_imul d_X12_comesTo_174 ?_
      refine v_iconst (v := nI 4) d_X12_comesTo_175 x_ic_4 ?_
      first | refine v_iaddN d_X12_comesTo_176 ?_ | refine v_iadd d_X12_comesTo_176 ?_
      refine v_iald _ d_X12_comesTo_177 (rfl) (hS _ _ rfl) (⟨by omega, by omega⟩) (rfl) ?_
      refine v_i2l d_X12_comesTo_178 ?_
      refine w_lc_ge d_X12_comesTo_179 d_X12_comesTo_180 (fun a179 => ?_) (fun a179 => ?_)
      · refine v_bipush (v := (-9)) d_X12_comesTo_208 x_bp_m9 ?_
        refine v_ret (v := some (.int _)) d_X12_comesTo_210 rfl ⟨rfl, _, rfl, rfl⟩ (by decide) (by decide) ?_
        refine h2 (by omega) (fun hz => ?_)
        rw [← hw1, ← hw2] at hz
        first | (rw [v1, z0] at a162; omega) | (rw [v1, x_il] at a179; omega) | (rw [v2, z0] at a186; omega) | (rw [v2, x_il] at a204; omega)
      · refine v_lload d_X12_comesTo_183 rfl ?_
        refine v_lconst (v := 0) d_X12_comesTo_185 rfl ?_
        refine w_lc_lt d_X12_comesTo_186 d_X12_comesTo_187 (fun a186 => ?_) (fun a186 => ?_)
        · refine v_bipush (v := (-9)) d_X12_comesTo_208 x_bp_m9 ?_
          refine v_ret (v := some (.int _)) d_X12_comesTo_210 rfl ⟨rfl, _, rfl, rfl⟩ (by decide) (by decide) ?_
          refine h2 (by omega) (fun hz => ?_)
          rw [← hw1, ← hw2] at hz
          first | (rw [v1, z0] at a162; omega) | (rw [v1, x_il] at a179; omega) | (rw [v2, z0] at a186; omega) | (rw [v2, x_il] at a204; omega)
        · refine v_lload d_X12_comesTo_190 rfl ?_
          refine v_aload_n d_X12_comesTo_192 rfl ?_
          refine v_gr d_X12_comesTo_193 lf_X12_13_12 rfl (hS _ _ rfl) (hP _ _ _ rfl) ?_
          refine v_bipush (v := nI 6) d_X12_comesTo_196 x_bp_6 ?_
          refine v_iload_n d_X12_comesTo_198 rfl ?_
          first | refine v_imulN d_X12_comesTo_199 ?_ | refine v_imul d_X12_comesTo_199 ?_
          refine v_iconst (v := nI 5) d_X12_comesTo_200 x_ic_5 ?_
          first | refine v_iaddN d_X12_comesTo_201 ?_ | refine v_iadd d_X12_comesTo_201 ?_
          refine v_iald _ d_X12_comesTo_202 (rfl) (hS _ _ rfl) (⟨by omega, by omega⟩) (rfl) ?_
          refine v_i2l d_X12_comesTo_203 ?_
          refine w_lc_lt d_X12_comesTo_204 d_X12_comesTo_205 (fun a204 => ?_) (fun a204 => ?_)
          · refine v_aload_n d_X12_comesTo_211 rfl ?_
            refine v_gr d_X12_comesTo_212 lf_X12_13_12 rfl (hS _ _ rfl) (hP _ _ _ rfl) ?_
            refine v_bipush (v := nI 6) d_X12_comesTo_215 x_bp_6 ?_
            refine v_iload_n d_X12_comesTo_217 rfl ?_
            first | refine v_imulN d_X12_comesTo_218 ?_ | refine v_imul d_X12_comesTo_218 ?_
            refine v_iconst (v := nI 4) d_X12_comesTo_219 x_ic_4 ?_
            first | refine v_iaddN d_X12_comesTo_220 ?_ | refine v_iadd d_X12_comesTo_220 ?_
            refine v_iald _ d_X12_comesTo_221 (rfl) (hS _ _ rfl) (⟨by omega, by omega⟩) (rfl) ?_
            refine v_i2l d_X12_comesTo_222 ?_
            refine v_lload d_X12_comesTo_223 rfl ?_
            refine v_lmul d_X12_comesTo_225 ?_
            refine v_lload_n d_X12_comesTo_226 rfl ?_
            refine v_ladd d_X12_comesTo_227 ?_
            refine v_l2i d_X12_comesTo_228 ?_
            refine v_ret (v := some (.int _)) d_X12_comesTo_229 rfl ⟨rfl, _, rfl, rfl⟩ (by decide) (by decide) ?_
            rw [v1, z0] at a162
            rw [v1, x_il] at a179
            rw [v2, z0] at a186
            rw [v2, x_il] at a204
            have pr := x_pb (a := (I 41 (6 * k + 4)).toInt) (b := w2.toInt - (I 41 (6 * k + 3)).toInt) (A := 8) (B := 8) (by omega) (by omega) (by omega) (by omega)
            have pr0 : 0 ≤ (I 41 (6 * k + 4)).toInt * (w2.toInt - (I 41 (6 * k + 3)).toInt) := Int.mul_nonneg (by omega) (by omega)
            have v3 : ((I 41 (6 * k + 4)).toInt64 * (w2 - (I 41 (6 * k + 3)).toInt64)).toInt = (I 41 (6 * k + 4)).toInt * (w2.toInt - (I 41 (6 * k + 3)).toInt) := by rw [x_mulL (by rw [x_il, v2]; omega) (by rw [x_il, v2]; omega), x_il, v2]
            have v4 : ((I 41 (6 * k + 4)).toInt64 * (w2 - (I 41 (6 * k + 3)).toInt64) + (w1 - (I 41 (6 * k + 2)).toInt64)).toInt = (I 41 (6 * k + 4)).toInt * (w2.toInt - (I 41 (6 * k + 3)).toInt) + (w1.toInt - (I 41 (6 * k + 2)).toInt) := by rw [x_addL (by omega) (by omega), v3, v1]
            have h4 := h3 (by omega) (by rw [← hw1, ← hw2]; omega)
            rw [← hw1, ← hw2] at h4
            rw [x_l2i (by omega) (by omega), v4]
            exact h4
          · refine v_bipush (v := (-9)) d_X12_comesTo_208 x_bp_m9 ?_
            refine v_ret (v := some (.int _)) d_X12_comesTo_210 rfl ⟨rfl, _, rfl, rfl⟩ (by decide) (by decide) ?_
            refine h2 (by omega) (fun hz => ?_)
            rw [← hw1, ← hw2] at hz
            first | (rw [v1, z0] at a162; omega) | (rw [v1, x_il] at a179; omega) | (rw [v2, z0] at a186; omega) | (rw [v2, x_il] at a204; omega)
  · refine v_bipush (v := (-9)) d_X12_comesTo_112 x_bp_m9 ?_
    refine v_ret (v := some (.int _)) d_X12_comesTo_114 rfl ⟨rfl, _, rfl, rfl⟩ (by decide) (by decide) ?_
    exact h1 (by omega)

set_option maxRecDepth 100000 in
set_option maxHeartbeats 4000000 in
theorem t_X12_comesTo {K : x_K} {S : x_S} {P : x_P} {I : x_I} {J : x_J} {n : Nat} {x : Int32} (k : Nat) (hx : x = nI k) (hk : k < 11) (hp : ∀ a, a < 3 → -1000 ≤ (I 48 a).toInt ∧ (I 48 a).toInt ≤ 1000) (hq : ∀ a, a < 3 → -100 ≤ (I 49 a).toInt ∧ (I 49 a).toInt ≤ 100) (hlu : -2000 ≤ (J 39 17).toInt ∧ (J 39 17).toInt ≤ 2000) (hld : 1 ≤ (J 39 18).toInt ∧ (J 39 18).toInt ≤ 100) (hf : (I 39 14).toInt = 1 ∨ (I 39 14).toInt = 2) (hfo : m_fo I k) (hS : x_hS S) (hP : x_hP P) (hn : ∀ J' : x_J, x_ex mE I I J J' → J' 39 17 = J 39 17 → J' 39 18 = J 39 18 → r_com I (I 39 14).toInt (fun a => (I 48 a).toInt) (fun a => (I 49 a).toInt) (J 39 17).toInt (J 39 18).toInt k = none → K (some (.int (-9))) S P I J' n) (hs : ∀ (J' : x_J) (c : Nat) (u d : Int), x_ex mE I I J J' → J' 39 17 = J 39 17 → J' 39 18 = J 39 18 → r_com I (I 39 14).toInt (fun a => (I 48 a).toInt) (fun a => (I 49 a).toInt) (J 39 17).toInt (J 39 18).toInt k = some (c, u, d) → (J' 39 19).toInt = u → (J' 39 20).toInt = d → K (some (.int (nI c))) S P I J' n) : x_Call f_X12_comesTo [.ref 39, .int x] K S P I J n := by
  subst hx
  have hfo2 := hfo
  obtain ⟨f0, f1, f2, f3, f4, f5, f6, f7⟩ := hfo2
  obtain ⟨a, hax, ha1, ha2, ha3⟩ := x_ex1 (s := I 41 (6 * k)) (by omega)
  have ha : a < 3 := by omega
  have hra : r_a I k = a := ha3
  have b1 := hp a ha
  have b2 := hq a ha
  have fb := x_pb (a := (I 41 (6 * k + 1)).toInt) (b := (I 39 14).toInt) (A := 40) (B := 2) (by omega) (by omega) (by omega) (by omega)
  have m1 : ((I 41 (6 * k + 1)).toInt64 * (I 39 14).toInt64).toInt = (I 41 (6 * k + 1)).toInt * (I 39 14).toInt := by rw [x_mulL (by rw [x_il, x_il]; omega) (by rw [x_il, x_il]; omega), x_il, x_il]
  have m2 : ((I 41 (6 * k + 1)).toInt64 * (I 39 14).toInt64 - (I 48 a).toInt64).toInt = (I 41 (6 * k + 1)).toInt * (I 39 14).toInt - (I 48 a).toInt := by rw [x_subL (by rw [x_il]; omega) (by rw [x_il]; omega), m1, x_il]
  have m3 := x_il (I 49 a)
  have z0 : (0 : Int64).toInt = 0 := by decide
  refine x_intro (by decide) 5 (ls := [_, _, _, _, _, _, _]) rfl (Nat.le_of_ble_eq_true rfl) ?_
  refine v_aload_n d_X12_comesTo_0 rfl ?_
  refine v_gr d_X12_comesTo_1 lf_X12_13_12 rfl (hS _ _ rfl) (hP _ _ _ rfl) ?_
  refine v_bipush (v := nI 6) d_X12_comesTo_4 x_bp_6 ?_
  refine v_iload_n d_X12_comesTo_6 rfl ?_
  first | refine v_imulN d_X12_comesTo_7 ?_ | refine v_imul d_X12_comesTo_7 ?_
  refine v_iald _ d_X12_comesTo_8 (rfl) (hS _ _ rfl) (⟨by omega, by omega⟩) (hax) ?_
  refine v_istore_n (ls' := [_, _, _, _, _, _, _]) d_X12_comesTo_9 (by decide) rfl ?_
  refine v_aload_n d_X12_comesTo_10 rfl ?_
  refine v_gr d_X12_comesTo_11 lf_X12_37_12 rfl (hS _ _ rfl) (hP _ _ _ rfl) ?_
  refine v_iload_n d_X12_comesTo_14 rfl ?_
  refine v_iald _ d_X12_comesTo_15 (rfl) (hS _ _ rfl) (⟨by omega, by omega⟩) (rfl) ?_
  refine w_if_ne d_X12_comesTo_16 (fun a16 => ?_) (fun a16 => ?_)
  · try simp (disch := omega) only [x_ti, x_tm1] at a16
    refine v_aload_n d_X12_comesTo_22 rfl ?_
    refine v_aload_n d_X12_comesTo_23 rfl ?_
    refine v_gr d_X12_comesTo_24 lf_X12_13_12 rfl (hS _ _ rfl) (hP _ _ _ rfl) ?_
    refine v_bipush (v := nI 6) d_X12_comesTo_27 x_bp_6 ?_
    refine v_iload_n d_X12_comesTo_29 rfl ?_
    first | refine v_imulN d_X12_comesTo_30 ?_ | refine v_imul d_X12_comesTo_30 ?_
    refine v_iconst (v := nI 1) d_X12_comesTo_31 x_ic_1 ?_
    first | refine v_iaddN d_X12_comesTo_32 ?_ | refine v_iadd d_X12_comesTo_32 ?_
    refine v_iald _ d_X12_comesTo_33 (rfl) (hS _ _ rfl) (⟨by omega, by omega⟩) (rfl) ?_
    refine v_i2l d_X12_comesTo_34 ?_
    refine v_aload_n d_X12_comesTo_35 rfl ?_
    refine v_gi d_X12_comesTo_36 lf_X12_157_12 rfl (hS _ _ rfl) ?_
    refine v_i2l d_X12_comesTo_39 ?_
    refine v_lmul d_X12_comesTo_40 ?_
    refine v_aload_n d_X12_comesTo_41 rfl ?_
    refine v_gr d_X12_comesTo_42 lf_X12_34_12 rfl (hS _ _ rfl) (hP _ _ _ rfl) ?_
    refine v_iload_n d_X12_comesTo_45 rfl ?_
    refine v_iald _ d_X12_comesTo_46 (rfl) (hS _ _ rfl) (⟨by omega, by omega⟩) (rfl) ?_
    refine v_i2l d_X12_comesTo_47 ?_
    refine v_lsub d_X12_comesTo_48 ?_
    refine v_pl d_X12_comesTo_49 (lp_X12_154_12 _) rfl (hS _ _ rfl) rfl rfl ?_
    refine v_aload_n d_X12_comesTo_52 rfl ?_
    refine v_aload_n d_X12_comesTo_53 rfl ?_
    refine v_gr d_X12_comesTo_54 lf_X12_37_12 rfl (hS _ _ rfl) (hP _ _ _ rfl) ?_
    refine v_iload_n d_X12_comesTo_57 rfl ?_
    refine v_iald _ d_X12_comesTo_58 (rfl) (hS _ _ rfl) (⟨by omega, by omega⟩) (rfl) ?_
    refine v_i2l d_X12_comesTo_59 ?_
    refine v_pl d_X12_comesTo_60 (lp_X12_150_12 _) rfl (hS _ _ rfl) rfl rfl ?_
    refine v_aload_n d_X12_comesTo_63 rfl ?_
    refine v_gle (v := (I 49 a).toInt64) d_X12_comesTo_64 lf_X12_150_12 rfl (hS _ _ rfl) (rfl) ?_
    refine v_lconst (v := 0) d_X12_comesTo_67 rfl ?_
    refine w_lc_ge d_X12_comesTo_68 d_X12_comesTo_69 (fun a68 => ?_) (fun a68 => ?_)
    · rw [m3, z0] at a68
      have u9 : (((I 41 (6 * k + 1)).toInt64 * (I 39 14).toInt64 - (I 48 a).toInt64)).toInt = r_up I (I 39 14).toInt (fun a => (I 48 a).toInt) (fun a => (I 49 a).toInt) k := by
        unfold r_up; rw [hra]; show _ = if (I 49 a).toInt < 0 then _ else _
        rw [if_neg (by omega), m2]
      have u0 : ((I 49 a).toInt64).toInt = r_dn I (fun a => (I 49 a).toInt) k := by
        unfold r_dn; rw [hra]; show _ = if (I 49 a).toInt < 0 then _ else _
        rw [if_neg (by omega), m3]
      have u9b : -2000 ≤ (((I 41 (6 * k + 1)).toInt64 * (I 39 14).toInt64 - (I 48 a).toInt64)).toInt ∧ (((I 41 (6 * k + 1)).toInt64 * (I 39 14).toInt64 - (I 48 a).toInt64)).toInt ≤ 2000 := by rw [m2]; omega
      have u0b : 1 ≤ ((I 49 a).toInt64).toInt ∧ ((I 49 a).toInt64).toInt ≤ 100 := by rw [m3]; omega
      have ei : r_w (I 39 14).toInt (fun a => (I 48 a).toInt) (fun a => (I 49 a).toInt) (r_up I (I 39 14).toInt (fun a => (I 48 a).toInt) (fun a => (I 49 a).toInt) k) (r_dn I (fun a => (I 49 a).toInt) k) (r_o1 a) - (I 41 (6 * k + 2)).toInt = r_i I (I 39 14).toInt (fun a => (I 48 a).toInt) (fun a => (I 49 a).toInt) k := by unfold r_i; rw [hra]
      have ej : r_w (I 39 14).toInt (fun a => (I 48 a).toInt) (fun a => (I 49 a).toInt) (r_up I (I 39 14).toInt (fun a => (I 48 a).toInt) (fun a => (I 49 a).toInt) k) (r_dn I (fun a => (I 49 a).toInt) k) (r_o2 a) - (I 41 (6 * k + 3)).toInt = r_jj I (I 39 14).toInt (fun a => (I 48 a).toInt) (fun a => (I 49 a).toInt) k := by unfold r_jj; rw [hra]
      have hex : x_ex mE I I J (x_u2 (x_u2 J 39 19 ((I 41 (6 * k + 1)).toInt64 * (I 39 14).toInt64 - (I 48 a).toInt64)) 39 20 (I 49 a).toInt64) := ((x_ex.rf).uj rfl).uj rfl
      refine l_X12_comesTo k a (by omega) ha hp hq u9b u0b hlu hld hf hfo hS hP (fun z => ?_) (fun z z2 => ?_) (fun z z2 => ?_)
      · have z : (((I 41 (6 * k + 1)).toInt64 * (I 39 14).toInt64 - (I 48 a).toInt64)).toInt * (J 39 18).toInt ≤ (J 39 17).toInt * ((I 49 a).toInt64).toInt := z
        rw [u9, u0] at z
        exact hn _ hex rfl rfl (by unfold r_com; rw [hra, if_neg (show ¬ (I 49 a).toInt = 0 by omega), if_pos z])
      · have z : ¬ (((I 41 (6 * k + 1)).toInt64 * (I 39 14).toInt64 - (I 48 a).toInt64)).toInt * (J 39 18).toInt ≤ (J 39 17).toInt * ((I 49 a).toInt64).toInt := z
        have z2 : ¬ (0 ≤ r_w (I 39 14).toInt (fun a => (I 48 a).toInt) (fun a => (I 49 a).toInt) (((I 41 (6 * k + 1)).toInt64 * (I 39 14).toInt64 - (I 48 a).toInt64)).toInt ((I 49 a).toInt64).toInt (r_o1 a) - (I 41 (6 * k + 2)).toInt ∧ r_w (I 39 14).toInt (fun a => (I 48 a).toInt) (fun a => (I 49 a).toInt) (((I 41 (6 * k + 1)).toInt64 * (I 39 14).toInt64 - (I 48 a).toInt64)).toInt ((I 49 a).toInt64).toInt (r_o1 a) - (I 41 (6 * k + 2)).toInt < (I 41 (6 * k + 4)).toInt ∧ 0 ≤ r_w (I 39 14).toInt (fun a => (I 48 a).toInt) (fun a => (I 49 a).toInt) (((I 41 (6 * k + 1)).toInt64 * (I 39 14).toInt64 - (I 48 a).toInt64)).toInt ((I 49 a).toInt64).toInt (r_o2 a) - (I 41 (6 * k + 3)).toInt ∧ r_w (I 39 14).toInt (fun a => (I 48 a).toInt) (fun a => (I 49 a).toInt) (((I 41 (6 * k + 1)).toInt64 * (I 39 14).toInt64 - (I 48 a).toInt64)).toInt ((I 49 a).toInt64).toInt (r_o2 a) - (I 41 (6 * k + 3)).toInt < (I 41 (6 * k + 5)).toInt) := z2
        rw [u9, u0] at z z2
        rw [ei, ej] at z2
        exact hn _ hex rfl rfl (by unfold r_com; rw [if_neg (by rw [hra]; show ¬ (I 49 a).toInt = 0; omega), if_neg z, if_neg z2])
      · have z : ¬ (((I 41 (6 * k + 1)).toInt64 * (I 39 14).toInt64 - (I 48 a).toInt64)).toInt * (J 39 18).toInt ≤ (J 39 17).toInt * ((I 49 a).toInt64).toInt := z
        have z2 : (0 ≤ r_w (I 39 14).toInt (fun a => (I 48 a).toInt) (fun a => (I 49 a).toInt) (((I 41 (6 * k + 1)).toInt64 * (I 39 14).toInt64 - (I 48 a).toInt64)).toInt ((I 49 a).toInt64).toInt (r_o1 a) - (I 41 (6 * k + 2)).toInt ∧ r_w (I 39 14).toInt (fun a => (I 48 a).toInt) (fun a => (I 49 a).toInt) (((I 41 (6 * k + 1)).toInt64 * (I 39 14).toInt64 - (I 48 a).toInt64)).toInt ((I 49 a).toInt64).toInt (r_o1 a) - (I 41 (6 * k + 2)).toInt < (I 41 (6 * k + 4)).toInt ∧ 0 ≤ r_w (I 39 14).toInt (fun a => (I 48 a).toInt) (fun a => (I 49 a).toInt) (((I 41 (6 * k + 1)).toInt64 * (I 39 14).toInt64 - (I 48 a).toInt64)).toInt ((I 49 a).toInt64).toInt (r_o2 a) - (I 41 (6 * k + 3)).toInt ∧ r_w (I 39 14).toInt (fun a => (I 48 a).toInt) (fun a => (I 49 a).toInt) (((I 41 (6 * k + 1)).toInt64 * (I 39 14).toInt64 - (I 48 a).toInt64)).toInt ((I 49 a).toInt64).toInt (r_o2 a) - (I 41 (6 * k + 3)).toInt < (I 41 (6 * k + 5)).toInt) := z2
        have hgo : K (some (.int (nI ((I 41 (6 * k + 4)).toInt * (r_w (I 39 14).toInt (fun a => (I 48 a).toInt) (fun a => (I 49 a).toInt) (((I 41 (6 * k + 1)).toInt64 * (I 39 14).toInt64 - (I 48 a).toInt64)).toInt ((I 49 a).toInt64).toInt (r_o2 a) - (I 41 (6 * k + 3)).toInt) + (r_w (I 39 14).toInt (fun a => (I 48 a).toInt) (fun a => (I 49 a).toInt) (((I 41 (6 * k + 1)).toInt64 * (I 39 14).toInt64 - (I 48 a).toInt64)).toInt ((I 49 a).toInt64).toInt (r_o1 a) - (I 41 (6 * k + 2)).toInt)).toNat))) S P I (x_u2 (x_u2 J 39 19 ((I 41 (6 * k + 1)).toInt64 * (I 39 14).toInt64 - (I 48 a).toInt64)) 39 20 (I 49 a).toInt64) n := by
          rw [u9, u0] at z z2
          rw [ei, ej] at z2
          rw [u9, u0, ei, ej]
          exact hs _ _ _ _ hex rfl rfl (by unfold r_com; rw [if_neg (by rw [hra]; show ¬ (I 49 a).toInt = 0; omega), if_neg z, if_pos z2]) u9 u0
        exact hgo
    · refine v_aload_n d_X12_comesTo_72 rfl ?_
      refine v_aload_n d_X12_comesTo_73 rfl ?_
      refine v_gle (v := ((I 41 (6 * k + 1)).toInt64 * (I 39 14).toInt64 - (I 48 a).toInt64)) d_X12_comesTo_74 lf_X12_154_12 rfl (hS _ _ rfl) (rfl) ?_
      refine v_lneg d_X12_comesTo_77 ?_
      refine v_pl d_X12_comesTo_78 (lp_X12_154_12 _) rfl (hS _ _ rfl) rfl rfl ?_
      refine v_aload_n d_X12_comesTo_81 rfl ?_
      refine v_aload_n d_X12_comesTo_82 rfl ?_
      refine v_gle (v := (I 49 a).toInt64) d_X12_comesTo_83 lf_X12_150_12 rfl (hS _ _ rfl) (rfl) ?_
      refine v_lneg d_X12_comesTo_86 ?_
      refine v_pl d_X12_comesTo_87 (lp_X12_150_12 _) rfl (hS _ _ rfl) rfl rfl ?_
      rw [m3, z0] at a68
      have u9 : ((-((I 41 (6 * k + 1)).toInt64 * (I 39 14).toInt64 - (I 48 a).toInt64))).toInt = r_up I (I 39 14).toInt (fun a => (I 48 a).toInt) (fun a => (I 49 a).toInt) k := by
        unfold r_up; rw [hra]; show _ = if (I 49 a).toInt < 0 then _ else _
        rw [if_pos (by omega), x_negL (by rw [m2]; omega), m2]
      have u0 : ((-(I 49 a).toInt64)).toInt = r_dn I (fun a => (I 49 a).toInt) k := by
        unfold r_dn; rw [hra]; show _ = if (I 49 a).toInt < 0 then _ else _
        rw [if_pos (by omega), x_negL (by rw [m3]; omega), m3]
      have u9b : -2000 ≤ ((-((I 41 (6 * k + 1)).toInt64 * (I 39 14).toInt64 - (I 48 a).toInt64))).toInt ∧ ((-((I 41 (6 * k + 1)).toInt64 * (I 39 14).toInt64 - (I 48 a).toInt64))).toInt ≤ 2000 := by rw [x_negL (by rw [m2]; omega), m2]; omega
      have u0b : 1 ≤ ((-(I 49 a).toInt64)).toInt ∧ ((-(I 49 a).toInt64)).toInt ≤ 100 := by rw [x_negL (by rw [m3]; omega), m3]; omega
      have ei : r_w (I 39 14).toInt (fun a => (I 48 a).toInt) (fun a => (I 49 a).toInt) (r_up I (I 39 14).toInt (fun a => (I 48 a).toInt) (fun a => (I 49 a).toInt) k) (r_dn I (fun a => (I 49 a).toInt) k) (r_o1 a) - (I 41 (6 * k + 2)).toInt = r_i I (I 39 14).toInt (fun a => (I 48 a).toInt) (fun a => (I 49 a).toInt) k := by unfold r_i; rw [hra]
      have ej : r_w (I 39 14).toInt (fun a => (I 48 a).toInt) (fun a => (I 49 a).toInt) (r_up I (I 39 14).toInt (fun a => (I 48 a).toInt) (fun a => (I 49 a).toInt) k) (r_dn I (fun a => (I 49 a).toInt) k) (r_o2 a) - (I 41 (6 * k + 3)).toInt = r_jj I (I 39 14).toInt (fun a => (I 48 a).toInt) (fun a => (I 49 a).toInt) k := by unfold r_jj; rw [hra]
      have hex : x_ex mE I I J (x_u2 (x_u2 (x_u2 (x_u2 J 39 19 ((I 41 (6 * k + 1)).toInt64 * (I 39 14).toInt64 - (I 48 a).toInt64)) 39 20 (I 49 a).toInt64) 39 19 (-((I 41 (6 * k + 1)).toInt64 * (I 39 14).toInt64 - (I 48 a).toInt64))) 39 20 (-(I 49 a).toInt64)) := ((((x_ex.rf).uj rfl).uj rfl).uj rfl).uj rfl
      refine l_X12_comesTo k a (by omega) ha hp hq u9b u0b hlu hld hf hfo hS hP (fun z => ?_) (fun z z2 => ?_) (fun z z2 => ?_)
      · have z : ((-((I 41 (6 * k + 1)).toInt64 * (I 39 14).toInt64 - (I 48 a).toInt64))).toInt * (J 39 18).toInt ≤ (J 39 17).toInt * ((-(I 49 a).toInt64)).toInt := z
        rw [u9, u0] at z
        exact hn _ hex rfl rfl (by unfold r_com; rw [hra, if_neg (show ¬ (I 49 a).toInt = 0 by omega), if_pos z])
      · have z : ¬ ((-((I 41 (6 * k + 1)).toInt64 * (I 39 14).toInt64 - (I 48 a).toInt64))).toInt * (J 39 18).toInt ≤ (J 39 17).toInt * ((-(I 49 a).toInt64)).toInt := z
        have z2 : ¬ (0 ≤ r_w (I 39 14).toInt (fun a => (I 48 a).toInt) (fun a => (I 49 a).toInt) ((-((I 41 (6 * k + 1)).toInt64 * (I 39 14).toInt64 - (I 48 a).toInt64))).toInt ((-(I 49 a).toInt64)).toInt (r_o1 a) - (I 41 (6 * k + 2)).toInt ∧ r_w (I 39 14).toInt (fun a => (I 48 a).toInt) (fun a => (I 49 a).toInt) ((-((I 41 (6 * k + 1)).toInt64 * (I 39 14).toInt64 - (I 48 a).toInt64))).toInt ((-(I 49 a).toInt64)).toInt (r_o1 a) - (I 41 (6 * k + 2)).toInt < (I 41 (6 * k + 4)).toInt ∧ 0 ≤ r_w (I 39 14).toInt (fun a => (I 48 a).toInt) (fun a => (I 49 a).toInt) ((-((I 41 (6 * k + 1)).toInt64 * (I 39 14).toInt64 - (I 48 a).toInt64))).toInt ((-(I 49 a).toInt64)).toInt (r_o2 a) - (I 41 (6 * k + 3)).toInt ∧ r_w (I 39 14).toInt (fun a => (I 48 a).toInt) (fun a => (I 49 a).toInt) ((-((I 41 (6 * k + 1)).toInt64 * (I 39 14).toInt64 - (I 48 a).toInt64))).toInt ((-(I 49 a).toInt64)).toInt (r_o2 a) - (I 41 (6 * k + 3)).toInt < (I 41 (6 * k + 5)).toInt) := z2
        rw [u9, u0] at z z2
        rw [ei, ej] at z2
        exact hn _ hex rfl rfl (by unfold r_com; rw [if_neg (by rw [hra]; show ¬ (I 49 a).toInt = 0; omega), if_neg z, if_neg z2])
      · have z : ¬ ((-((I 41 (6 * k + 1)).toInt64 * (I 39 14).toInt64 - (I 48 a).toInt64))).toInt * (J 39 18).toInt ≤ (J 39 17).toInt * ((-(I 49 a).toInt64)).toInt := z
        have z2 : (0 ≤ r_w (I 39 14).toInt (fun a => (I 48 a).toInt) (fun a => (I 49 a).toInt) ((-((I 41 (6 * k + 1)).toInt64 * (I 39 14).toInt64 - (I 48 a).toInt64))).toInt ((-(I 49 a).toInt64)).toInt (r_o1 a) - (I 41 (6 * k + 2)).toInt ∧ r_w (I 39 14).toInt (fun a => (I 48 a).toInt) (fun a => (I 49 a).toInt) ((-((I 41 (6 * k + 1)).toInt64 * (I 39 14).toInt64 - (I 48 a).toInt64))).toInt ((-(I 49 a).toInt64)).toInt (r_o1 a) - (I 41 (6 * k + 2)).toInt < (I 41 (6 * k + 4)).toInt ∧ 0 ≤ r_w (I 39 14).toInt (fun a => (I 48 a).toInt) (fun a => (I 49 a).toInt) ((-((I 41 (6 * k + 1)).toInt64 * (I 39 14).toInt64 - (I 48 a).toInt64))).toInt ((-(I 49 a).toInt64)).toInt (r_o2 a) - (I 41 (6 * k + 3)).toInt ∧ r_w (I 39 14).toInt (fun a => (I 48 a).toInt) (fun a => (I 49 a).toInt) ((-((I 41 (6 * k + 1)).toInt64 * (I 39 14).toInt64 - (I 48 a).toInt64))).toInt ((-(I 49 a).toInt64)).toInt (r_o2 a) - (I 41 (6 * k + 3)).toInt < (I 41 (6 * k + 5)).toInt) := z2
        have hgo : K (some (.int (nI ((I 41 (6 * k + 4)).toInt * (r_w (I 39 14).toInt (fun a => (I 48 a).toInt) (fun a => (I 49 a).toInt) ((-((I 41 (6 * k + 1)).toInt64 * (I 39 14).toInt64 - (I 48 a).toInt64))).toInt ((-(I 49 a).toInt64)).toInt (r_o2 a) - (I 41 (6 * k + 3)).toInt) + (r_w (I 39 14).toInt (fun a => (I 48 a).toInt) (fun a => (I 49 a).toInt) ((-((I 41 (6 * k + 1)).toInt64 * (I 39 14).toInt64 - (I 48 a).toInt64))).toInt ((-(I 49 a).toInt64)).toInt (r_o1 a) - (I 41 (6 * k + 2)).toInt)).toNat))) S P I (x_u2 (x_u2 (x_u2 (x_u2 J 39 19 ((I 41 (6 * k + 1)).toInt64 * (I 39 14).toInt64 - (I 48 a).toInt64)) 39 20 (I 49 a).toInt64) 39 19 (-((I 41 (6 * k + 1)).toInt64 * (I 39 14).toInt64 - (I 48 a).toInt64))) 39 20 (-(I 49 a).toInt64)) n := by
          rw [u9, u0] at z z2
          rw [ei, ej] at z2
          rw [u9, u0, ei, ej]
          exact hs _ _ _ _ hex rfl rfl (by unfold r_com; rw [if_neg (by rw [hra]; show ¬ (I 49 a).toInt = 0; omega), if_neg z, if_pos z2]) u9 u0
        exact hgo
  · try simp (disch := omega) only [x_ti, x_tm1] at a16
    refine v_bipush (v := (-9)) d_X12_comesTo_19 x_bp_m9 ?_
    refine v_ret (v := some (.int _)) d_X12_comesTo_21 rfl ⟨rfl, _, rfl, rfl⟩ (by decide) (by decide) ?_
    exact hn J x_ex.rf rfl rfl (by unfold r_com; rw [hra, if_pos a16])

