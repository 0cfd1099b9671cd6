set_option maxRecDepth 100000 in
set_option maxHeartbeats 4000000 in
theorem t_X12_ray {K : x_K} {S : x_S} {P : x_P} {I : x_I} {J : x_J} {n : Nat} {x y z a b c : Int32} (hn : 0 ≤ (I 39 2).toInt ∧ (I 39 2).toInt ≤ 10) (hfo : ∀ s, s < m_ns I → m_fo I s) (hS : x_hS S) (hP : x_hP P) (hK : ∀ (I' : x_I) (J' : x_J), x_ex mE I I' J J' → K (some (.int (q_ray I x y z a b c))) S P I' J' n) : x_Call f_X12_ray [.ref 39, .int x, .int y, .int z, .int a, .int b, .int c] K S P I J n := by
  refine x_intro (by decide) 0 (ls := [_, _, _, _, _, _, _]) rfl (Nat.le_of_ble_eq_true rfl) ?_
  refine v_aload_n d_X12_ray_0 rfl ?_
  refine v_iload_n d_X12_ray_1 rfl ?_
  refine v_iload_n d_X12_ray_2 rfl ?_
  refine v_iload_n d_X12_ray_3 rfl ?_
  refine v_iload d_X12_ray_4 rfl ?_
  refine v_iload d_X12_ray_6 rfl ?_
  refine v_iload d_X12_ray_8 rfl ?_
  refine v_cv (as := [_, _, _, _, _, _]) (rest := []) d_X12_ray_10 lv_X12_195_12 (hS _ _ rfl) rfl ⟨by decide, by decide⟩ rfl (Nat.le_of_ble_eq_true rfl) (by decide) (by decide) ?_
  refine t_X12_isRay hS hP (fun q => ?_) (fun q => ?_)
  · refine w_if_eq d_X12_ray_13 (fun h13 => absurd h13 (by decide)) (fun _ => ?_)
    refine v_aload_n d_X12_ray_16 rfl ?_
    refine v_iload_n d_X12_ray_17 rfl ?_
    refine v_iload_n d_X12_ray_18 rfl ?_
    refine v_iload_n d_X12_ray_19 rfl ?_
    refine v_iload d_X12_ray_20 rfl ?_
    refine v_iload d_X12_ray_22 rfl ?_
    refine v_iload d_X12_ray_24 rfl ?_
    refine v_cv (as := [_, _, _, _, _, _]) (rest := []) d_X12_ray_26 lv_X12_198_12 (hS _ _ rfl) rfl ⟨by decide, by decide⟩ rfl (Nat.le_of_ble_eq_true rfl) (by decide) (by decide) ?_
    refine t_X12_go q.1 (by have q2 := q.2; unfold g_dr at q2; omega) hn hfo hS hP (fun I' J' h1 h2 => ?_)
    refine v_goto d_X12_ray_29 ?_
    refine v_ret (v := some (.int _)) d_X12_ray_34 rfl ⟨rfl, _, rfl, rfl⟩ (by decide) (by decide) ?_
    simp only [q_ray, x_if_t q] at hK
    exact hK I' J' h1
  · refine w_if_eq d_X12_ray_13 (fun _ => ?_) (fun h13 => absurd h13 (by decide))
    refine v_bipush (v := (-2)) d_X12_ray_32 x_bp_m2 ?_
    refine v_ret (v := some (.int _)) d_X12_ray_34 rfl ⟨rfl, _, rfl, rfl⟩ (by decide) (by decide) ?_
    simp only [q_ray, x_if_f q] at hK
    exact hK I J x_ex.rf

set_option maxRecDepth 100000 in
set_option maxHeartbeats 4000000 in
theorem t_X12_bounces {K : x_K} {S : x_S} {P : x_P} {I : x_I} {J : x_J} {n : Nat} {x y z a b c : Int32} (hn : 0 ≤ (I 39 2).toInt ∧ (I 39 2).toInt ≤ 10) (hfo : ∀ s, s < m_ns I → m_fo I s) (hS : x_hS S) (hP : x_hP P) (hK : ∀ (I' : x_I) (J' : x_J), x_ex mE I I' J J' → K (some (.int (q_bounces I x y z a b c))) S P I' J' n) : x_Call f_X12_bounces [.ref 39, .int x, .int y, .int z, .int a, .int b, .int c] K S P I J n := by
  refine x_intro (by decide) 1 (ls := [_, _, _, _, _, _, _, _]) rfl (Nat.le_of_ble_eq_true rfl) ?_
  refine v_aload_n d_X12_bounces_0 rfl ?_
  refine v_iload_n d_X12_bounces_1 rfl ?_
  refine v_iload_n d_X12_bounces_2 rfl ?_
  refine v_iload_n d_X12_bounces_3 rfl ?_
  refine v_iload d_X12_bounces_4 rfl ?_
  refine v_iload d_X12_bounces_6 rfl ?_
  refine v_iload d_X12_bounces_8 rfl ?_
  refine v_cv (as := [_, _, _, _, _, _]) (rest := []) d_X12_bounces_10 lv_X12_195_12 (hS _ _ rfl) rfl ⟨by decide, by decide⟩ rfl (Nat.le_of_ble_eq_true rfl) (by decide) (by decide) ?_
  refine t_X12_isRay hS hP (fun q => ?_) (fun q => ?_)
  · refine w_if_ne d_X12_bounces_13 (fun _ => ?_) (fun h13 => absurd h13 (by decide))
    refine v_aload_n d_X12_bounces_19 rfl ?_
    refine v_iload_n d_X12_bounces_20 rfl ?_
    refine v_iload_n d_X12_bounces_21 rfl ?_
    refine v_iload_n d_X12_bounces_22 rfl ?_
    refine v_iload d_X12_bounces_23 rfl ?_
    refine v_iload d_X12_bounces_25 rfl ?_
    refine v_iload d_X12_bounces_27 rfl ?_
    refine v_cv (as := [_, _, _, _, _, _]) (rest := []) d_X12_bounces_29 lv_X12_198_12 (hS _ _ rfl) rfl ⟨by decide, by decide⟩ rfl (Nat.le_of_ble_eq_true rfl) (by decide) (by decide) ?_
    refine t_X12_go q.1 (by have q2 := q.2; unfold g_dr at q2; omega) hn hfo hS hP (fun I' J' h1 h2 => ?_)
    refine v_istore (ls' := [_, _, _, _, _, _, _, _]) d_X12_bounces_32 (by decide) rfl ?_
    refine v_aload_n d_X12_bounces_34 rfl ?_
    refine v_gie d_X12_bounces_35 lf_X12_180_12 rfl (hS _ _ rfl) (h2) ?_
    refine v_ret (v := some (.int _)) d_X12_bounces_38 rfl ⟨rfl, _, rfl, rfl⟩ (by decide) (by decide) ?_
    simp only [q_bounces, x_if_t q] at hK
    exact hK I' J' h1
  · refine w_if_ne d_X12_bounces_13 (fun h13 => absurd h13 (by decide)) (fun _ => ?_)
    refine v_bipush (v := (-2)) d_X12_bounces_16 x_bp_m2 ?_
    refine v_ret (v := some (.int _)) d_X12_bounces_18 rfl ⟨rfl, _, rfl, rfl⟩ (by decide) (by decide) ?_
    simp only [q_bounces, x_if_f q] at hK
    exact hK I J x_ex.rf

set_option maxRecDepth 100000 in
set_option maxHeartbeats 4000000 in
theorem t_X12_findMiddle {K : x_K} {S : x_S} {P : x_P} {I : x_I} {J : x_J} {n : Nat} {s c : Int32} (k j : Nat) (hs : s = nI k) (hk : k < 11) (hc : c = nI j) (hfo : m_fo I k) (hj : (j : Int) < m_ce I k) (hS : x_hS S) (hP : x_hP P) (hK : ∀ (I' : x_I), x_ex mE I I' J J → (∀ i, i < 3 → (I' 50 i).toInt = r_mid I k j i) → K none S P I' J n) : x_Call f_X12_findMiddle [.ref 39, .int s, .int c] K S P I J n := by
  subst hs hc
  have hm := m_ce_eq hfo
  have hmi := m_ce_in hfo
  have hfo2 := hfo
  obtain ⟨f0, f1, f2, f3, f4, f5, f6, f7⟩ := hfo2
  obtain ⟨a, hax, ha1, ha2, ha3⟩ := x_ex1 (s := I 41 (6 * k)) (by omega)
  have ha : a < 3 := by omega
  have hra : r_a I k = a := ha3
  obtain ⟨w, hwx, hw1, hw2, hw3⟩ := x_ex1 (s := I 41 (6 * k + 4)) (by omega)
  have g2 : (nI 2).toInt = 2 := by decide
  have g1 : (nI 1).toInt = 1 := by decide
  have hj2 : j < 2147483648 := by omega
  have hne : ¬ I 41 (6 * k + 4) = 0 := fun z => by rw [z] at f4; exact absurd f4.1 (by decide)
  have tj := x_ti (k := j) hj2
  have em : (nI j - nI j / I 41 (6 * k + 4) * I 41 (6 * k + 4)).toInt = (j : Int) % (I 41 (6 * k + 4)).toInt := by rw [x_rem (by omega) (by omega), tj]
  have ed : (nI j / I 41 (6 * k + 4)).toInt = (j : Int) / (I 41 (6 * k + 4)).toInt := by rw [x_div (by omega) (by omega), tj]
  have m0 := r_mid_in hfo hj
  refine x_intro (by decide) 1 (ls := [_, _, _, _]) rfl (Nat.le_of_ble_eq_true rfl) ?_
  refine v_aload_n d_X12_findMiddle_0 rfl ?_
  refine v_gr d_X12_findMiddle_1 lf_X12_13_12 rfl (hS _ _ rfl) (hP _ _ _ rfl) ?_
  refine v_bipush (v := nI 6) d_X12_findMiddle_4 x_bp_6 ?_
  refine v_iload_n d_X12_findMiddle_6 rfl ?_
  first | refine v_imulN d_X12_findMiddle_7 ?_ | refine v_imul d_X12_findMiddle_7 ?_
  refine v_iald _ d_X12_findMiddle_8 (rfl) (hS _ _ rfl) (⟨by omega, by omega⟩) (hax) ?_
  refine v_istore_n (ls' := [_, _, _, _]) d_X12_findMiddle_9 (by decide) rfl ?_
  refine v_aload_n d_X12_findMiddle_10 rfl ?_
  refine v_gr d_X12_findMiddle_11 lf_X12_40_12 rfl (hS _ _ rfl) (hP _ _ _ rfl) ?_
  refine v_iload_n d_X12_findMiddle_14 rfl ?_
  refine v_iconst (v := nI 2) d_X12_findMiddle_15 x_ic_2 ?_
  refine v_aload_n d_X12_findMiddle_16 rfl ?_
  refine v_gr d_X12_findMiddle_17 lf_X12_13_12 rfl (hS _ _ rfl) (hP _ _ _ rfl) ?_
  refine v_bipush (v := nI 6) d_X12_findMiddle_20 x_bp_6 ?_
  refine v_iload_n d_X12_findMiddle_22 rfl ?_
  first | refine v_imulN d_X12_findMiddle_23 ?_ | refine v_imul d_X12_findMiddle_23 ?_
  refine v_iconst (v := nI 1) d_X12_findMiddle_24 x_ic_1 ?_
  first | refine v_iaddN d_X12_findMiddle_25 ?_ | refine v_iadd d_X12_findMiddle_25 ?_
  refine v_iald (v := I 41 (6 * k + 1)) _ d_X12_findMiddle_26 (rfl) (hS _ _ rfl) (⟨by omega, by omega⟩) (rfl) ?_
  refine v_imul d_X12_findMiddle_27 ?_
  refine v_iast a d_X12_findMiddle_28 (rfl) (hS _ _ rfl) (⟨by omega, by omega⟩) ?_
  refine v_aload_n d_X12_findMiddle_29 rfl ?_
  refine v_gr d_X12_findMiddle_30 lf_X12_40_12 rfl (hS _ _ rfl) (hP _ _ _ rfl) ?_
  refine v_iload_n d_X12_findMiddle_33 rfl ?_
  refine v_cs (as := [_]) (rest := [_]) d_X12_findMiddle_34 ls_X12_170 rfl ⟨by decide, by decide⟩ rfl (Nat.le_of_ble_eq_true rfl) (by decide) (by decide) ?_
  refine t_X12_firstOther a rfl ha ?_
  refine v_iconst (v := nI 2) d_X12_findMiddle_37 x_ic_2 ?_
  refine v_aload_n d_X12_findMiddle_38 rfl ?_
  refine v_gr d_X12_findMiddle_39 lf_X12_13_12 rfl (hS _ _ rfl) (hP _ _ _ rfl) ?_
  refine v_bipush (v := nI 6) d_X12_findMiddle_42 x_bp_6 ?_
  refine v_iload_n d_X12_findMiddle_44 rfl ?_
  first | refine v_imulN d_X12_findMiddle_45 ?_ | refine v_imul d_X12_findMiddle_45 ?_
  refine v_iconst (v := nI 2) d_X12_findMiddle_46 x_ic_2 ?_
  first | refine v_iaddN d_X12_findMiddle_47 ?_ | refine v_iadd d_X12_findMiddle_47 ?_
  refine v_iald (v := I 41 (6 * k + 2)) _ d_X12_findMiddle_48 (rfl) (hS _ _ rfl) (⟨by omega, by omega⟩) (rfl) ?_
  refine v_iload_n d_X12_findMiddle_49 rfl ?_
  refine v_aload_n d_X12_findMiddle_50 rfl ?_
  refine v_gr d_X12_findMiddle_51 lf_X12_13_12 rfl (hS _ _ rfl) (hP _ _ _ rfl) ?_
  refine v_bipush (v := nI 6) d_X12_findMiddle_54 x_bp_6 ?_
  refine v_iload_n d_X12_findMiddle_56 rfl ?_
  first | refine v_imulN d_X12_findMiddle_57 ?_ | refine v_imul d_X12_findMiddle_57 ?_
  refine v_iconst (v := nI 4) d_X12_findMiddle_58 x_ic_4 ?_
  first | refine v_iaddN d_X12_findMiddle_59 ?_ | refine v_iadd d_X12_findMiddle_59 ?_
  refine v_iald (v := I 41 (6 * k + 4)) _ d_X12_findMiddle_60 (rfl) (hS _ _ rfl) (⟨by omega, by omega⟩) (rfl) ?_
  refine v_irem d_X12_findMiddle_61 (hne) ?_
  refine v_iadd d_X12_findMiddle_62 ?_
  refine v_imul d_X12_findMiddle_63 ?_
  refine v_iconst (v := nI 1) d_X12_findMiddle_64 x_ic_1 ?_
  refine v_iadd d_X12_findMiddle_65 ?_
  refine v_iast (r_o1 a) d_X12_findMiddle_66 (rfl) (hS _ _ rfl) (⟨r_o1_lt a, by have := r_o1_lt a; omega⟩) ?_
  refine v_aload_n d_X12_findMiddle_67 rfl ?_
  refine v_gr d_X12_findMiddle_68 lf_X12_40_12 rfl (hS _ _ rfl) (hP _ _ _ rfl) ?_
  refine v_iload_n d_X12_findMiddle_71 rfl ?_
  refine v_cs (as := [_]) (rest := [_]) d_X12_findMiddle_72 ls_X12_177 rfl ⟨by decide, by decide⟩ rfl (Nat.le_of_ble_eq_true rfl) (by decide) (by decide) ?_
  refine t_X12_secondOther a rfl ha ?_
  refine v_iconst (v := nI 2) d_X12_findMiddle_75 x_ic_2 ?_
  refine v_aload_n d_X12_findMiddle_76 rfl ?_
  refine v_gr d_X12_findMiddle_77 lf_X12_13_12 rfl (hS _ _ rfl) (hP _ _ _ rfl) ?_
  refine v_bipush (v := nI 6) d_X12_findMiddle_80 x_bp_6 ?_
  refine v_iload_n d_X12_findMiddle_82 rfl ?_
  first | refine v_imulN d_X12_findMiddle_83 ?_ | refine v_imul d_X12_findMiddle_83 ?_
  refine v_iconst (v := nI 3) d_X12_findMiddle_84 x_ic_3 ?_
  first | refine v_iaddN d_X12_findMiddle_85 ?_ | refine v_iadd d_X12_findMiddle_85 ?_
  refine v_iald (v := I 41 (6 * k + 3)) _ d_X12_findMiddle_86 (rfl) (hS _ _ rfl) (⟨by omega, by omega⟩) (rfl) ?_
  refine v_iload_n d_X12_findMiddle_87 rfl ?_
  refine v_aload_n d_X12_findMiddle_88 rfl ?_
  refine v_gr d_X12_findMiddle_89 lf_X12_13_12 rfl (hS _ _ rfl) (hP _ _ _ rfl) ?_
  refine v_bipush (v := nI 6) d_X12_findMiddle_92 x_bp_6 ?_
  refine v_iload_n d_X12_findMiddle_94 rfl ?_
  first | refine v_imulN d_X12_findMiddle_95 ?_ | refine v_imul d_X12_findMiddle_95 ?_
  refine v_iconst (v := nI 4) d_X12_findMiddle_96 x_ic_4 ?_
  first | refine v_iaddN d_X12_findMiddle_97 ?_ | refine v_iadd d_X12_findMiddle_97 ?_
  refine v_iald (v := I 41 (6 * k + 4)) _ d_X12_findMiddle_98 (rfl) (hS _ _ rfl) (⟨by omega, by omega⟩) (rfl) ?_
  refine v_idiv d_X12_findMiddle_99 (hne) ?_
  refine v_iadd d_X12_findMiddle_100 ?_
  refine v_imul d_X12_findMiddle_101 ?_
  refine v_iconst (v := nI 1) d_X12_findMiddle_102 x_ic_1 ?_
  refine v_iadd d_X12_findMiddle_103 ?_
  refine v_iast (r_o2 a) d_X12_findMiddle_104 (rfl) (hS _ _ rfl) (⟨r_o2_lt a, by have := r_o2_lt a; omega⟩) ?_
  refine v_ret (v := none) d_X12_findMiddle_105 rfl ⟨rfl, rfl⟩ (by decide) (by decide) ?_
  refine hK (x_u2 (x_u2 (x_u2 I 50 a (nI 2 * I 41 (6 * k + 1))) 50 (r_o1 a) (nI 2 * (I 41 (6 * k + 2) + (nI j - nI j / I 41 (6 * k + 4) * I 41 (6 * k + 4))) + nI 1)) 50 (r_o2 a) (nI 2 * (I 41 (6 * k + 3) + nI j / I 41 (6 * k + 4)) + nI 1)) (((x_ex.rf.ui (a := 50) rfl).ui (a := 50) rfl).ui (a := 50) rfl) (fun i hi => ?_)
  have e1 := Int.emod_nonneg (j : Int) (b := (I 41 (6 * k + 4)).toInt) (by omega)
  have e2 := Int.emod_lt_of_pos (j : Int) (b := (I 41 (6 * k + 4)).toInt) (by omega)
  have e3 : 0 ≤ (j : Int) / (I 41 (6 * k + 4)).toInt := Int.ediv_nonneg (by omega) (by omega)
  have e4 : (j : Int) / (I 41 (6 * k + 4)).toInt < (I 41 (6 * k + 5)).toInt := Int.ediv_lt_of_lt_mul (by omega) (by rw [Int.mul_comm]; omega)
  have v1 : (nI 2 * I 41 (6 * k + 1)).toInt = 2 * (I 41 (6 * k + 1)).toInt := by rw [x_mul (by rw [g2]; omega) (by rw [g2]; omega), g2]
  have v2 : (I 41 (6 * k + 2) + (nI j - nI j / I 41 (6 * k + 4) * I 41 (6 * k + 4))).toInt = (I 41 (6 * k + 2)).toInt + (j : Int) % (I 41 (6 * k + 4)).toInt := by rw [x_add (by rw [em]; omega) (by rw [em]; omega), em]
  have v3 : (nI 2 * (I 41 (6 * k + 2) + (nI j - nI j / I 41 (6 * k + 4) * I 41 (6 * k + 4)))).toInt = 2 * ((I 41 (6 * k + 2)).toInt + (j : Int) % (I 41 (6 * k + 4)).toInt) := by rw [x_mul (by rw [g2, v2]; omega) (by rw [g2, v2]; omega), g2, v2]
  have v4 : (nI 2 * (I 41 (6 * k + 2) + (nI j - nI j / I 41 (6 * k + 4) * I 41 (6 * k + 4))) + nI 1).toInt = 2 * ((I 41 (6 * k + 2)).toInt + (j : Int) % (I 41 (6 * k + 4)).toInt) + 1 := by rw [x_add (by rw [v3, g1]; omega) (by rw [v3, g1]; omega), v3, g1]
  have v5 : (I 41 (6 * k + 3) + nI j / I 41 (6 * k + 4)).toInt = (I 41 (6 * k + 3)).toInt + (j : Int) / (I 41 (6 * k + 4)).toInt := by rw [x_add (by rw [ed]; omega) (by rw [ed]; omega), ed]
  have v6 : (nI 2 * (I 41 (6 * k + 3) + nI j / I 41 (6 * k + 4))).toInt = 2 * ((I 41 (6 * k + 3)).toInt + (j : Int) / (I 41 (6 * k + 4)).toInt) := by rw [x_mul (by rw [g2, v5]; omega) (by rw [g2, v5]; omega), g2, v5]
  have v7 : (nI 2 * (I 41 (6 * k + 3) + nI j / I 41 (6 * k + 4)) + nI 1).toInt = 2 * ((I 41 (6 * k + 3)).toInt + (j : Int) / (I 41 (6 * k + 4)).toInt) + 1 := by rw [x_add (by rw [v6, g1]; omega) (by rw [v6, g1]; omega), v6, g1]
  unfold r_mid
  rw [hra, ← v1, ← v4, ← v7]
  simp only [x_u2_at]
  rcases (show a = 0 ∨ a = 1 ∨ a = 2 by omega) with rfl | rfl | rfl <;> rcases (show i = 0 ∨ i = 1 ∨ i = 2 by omega) with rfl | rfl | rfl <;> rfl

