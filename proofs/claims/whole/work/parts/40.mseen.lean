theorem r_ray_cg {Z Z' : x_I} {J J' : x_J} (h : x_ex mE Z Z' J J') (hfo : ∀ s, s < m_ns Z → m_fo Z s) {fine w x y z a b c : Int} (hf : fine = 1 ∨ fine = 2) (hp : (-90 ≤ x ∧ x ≤ 90) ∧ (-90 ≤ y ∧ y ≤ 90) ∧ (-90 ≤ z ∧ z ≤ 90)) (hq : (-100 ≤ a ∧ a ≤ 100) ∧ (-100 ≤ b ∧ b ≤ 100) ∧ (-100 ≤ c ∧ c ≤ 100)) : r_ray Z' fine w x y z a b c = r_ray Z fine w x y z a b c :=
  r_end_cg (fun j => h.i 41 j rfl) (fun s _ => h.i 40 s rfl) (fun s j _ _ => h.i 42 _ rfl) (h.i 39 2 rfl) hfo hf 3 0 rfl (fun k _ => by have := r3_in (k := k) hp.1 hp.2.1 hp.2.2; omega) (fun k _ => r3_in hq.1 hq.2.1 hq.2.2 k)
theorem x_ns_cg {Z Z' : x_I} {J J' : x_J} (h : x_ex mE Z Z' J J') : m_ns Z' = m_ns Z := by unfold m_ns; rw [h.i 39 2 rfl]
theorem x_hn_cg {Z Z' : x_I} {J J' : x_J} (h : x_ex mE Z Z' J J') (hn : 0 ≤ (Z 39 2).toInt ∧ (Z 39 2).toInt ≤ 10) : 0 ≤ (Z' 39 2).toInt ∧ (Z' 39 2).toInt ≤ 10 := by rw [h.i 39 2 rfl]; exact hn
theorem x_fo_cg {Z Z' : x_I} {J J' : x_J} (h : x_ex mE Z Z' J J') {s : Nat} (hf : m_fo Z s) : m_fo Z' s := m_fo_cg (fun j => h.i 41 j rfl) hf
theorem x_fos_cg {Z Z' : x_I} {J J' : x_J} (h : x_ex mE Z Z' J J') (hf : ∀ s, s < m_ns Z → m_fo Z s) : ∀ s, s < m_ns Z' → m_fo Z' s := fun s hs => x_fo_cg h (hf s (by rw [x_ns_cg h] at hs; exact hs))
theorem x_ce_cg {Z Z' : x_I} {J J' : x_J} (h : x_ex mE Z Z' J J') (s : Nat) : m_ce Z' s = m_ce Z s := by unfold m_ce; rw [h.i 41 _ rfl, h.i 41 _ rfl]
set_option maxRecDepth 100000 in
set_option maxHeartbeats 4000000 in
theorem t_X12_seenFrom {K : x_K} {S : x_S} {P : x_P} {I : x_I} {J : x_J} {n : Nat} {x y z c : Int32} (j : Nat) (hc : c = nI j) (hpl : g_pl x y z) (hbo : m_fo I 10) (hj : (j : Int) < m_ce I 10) (hn : 0 ≤ (I 39 2).toInt ∧ (I 39 2).toInt ≤ 10) (hfo : ∀ s, s < m_ns I → m_fo I s) (hS : x_hS S) (hP : x_hP P) (hK : ∀ (I' : x_I) (J' : x_J), x_ex mE I I' J J' → K (some (.int (r_ans (r_seen I x.toInt y.toInt z.toInt j).1))) S P I' J' n) : x_Call f_X12_seenFrom [.ref 39, .int x, .int y, .int z, .int c] K S P I J n := by
  subst hc
  have hpl2 := hpl
  unfold g_pl at hpl2
  have g2 : (nI 2).toInt = 2 := by decide
  refine x_intro (by decide) 3 (ls := [_, _, _, _, _, _, _, _]) rfl (Nat.le_of_ble_eq_true rfl) ?_
  refine v_aload_n d_X12_seenFrom_0 rfl ?_
  refine v_bipush (v := nI 10) d_X12_seenFrom_1 x_bp_10 ?_
  refine v_iload d_X12_seenFrom_3 rfl ?_
  refine v_cv (as := [_, _]) (rest := []) d_X12_seenFrom_5 lv_X12_202_12 (hS _ _ rfl) rfl ⟨by decide, by decide⟩ rfl (Nat.le_of_ble_eq_true rfl) (by decide) (by decide) ?_
  refine t_X12_findMiddle 10 j rfl (by decide) rfl hbo hj hS hP (fun I1 h1 hm => ?_)
  have t0 : (I1 50 0 - nI 2 * x).toInt = r_mid I 10 j 0 - 2 * x.toInt := by
    have := hm 0 (by decide)
    have := r_mid_in hbo hj 0
    have g3 : (nI 2 * x).toInt = 2 * x.toInt := by rw [x_mul (by rw [g2]; omega) (by rw [g2]; omega), g2]
    rw [x_sub (by omega) (by omega)]; omega
  have t1 : (I1 50 1 - nI 2 * y).toInt = r_mid I 10 j 1 - 2 * y.toInt := by
    have := hm 1 (by decide)
    have := r_mid_in hbo hj 1
    have g3 : (nI 2 * y).toInt = 2 * y.toInt := by rw [x_mul (by rw [g2]; omega) (by rw [g2]; omega), g2]
    rw [x_sub (by omega) (by omega)]; omega
  have t2 : (I1 50 2 - nI 2 * z).toInt = r_mid I 10 j 2 - 2 * z.toInt := by
    have := hm 2 (by decide)
    have := r_mid_in hbo hj 2
    have g3 : (nI 2 * z).toInt = 2 * z.toInt := by rw [x_mul (by rw [g2]; omega) (by rw [g2]; omega), g2]
    rw [x_sub (by omega) (by omega)]; omega
  refine v_aload_n d_X12_seenFrom_8 rfl ?_
  refine v_gr d_X12_seenFrom_9 lf_X12_40_12 rfl (hS _ _ rfl) (hP _ _ _ rfl) ?_
  refine v_iconst (v := nI 0) d_X12_seenFrom_12 x_ic_0 ?_
  refine v_iald _ d_X12_seenFrom_13 (rfl) (hS _ _ rfl) (⟨by omega, by omega⟩) (rfl) ?_
  refine v_iconst (v := nI 2) d_X12_seenFrom_14 x_ic_2 ?_
  refine v_iload_n d_X12_seenFrom_15 rfl ?_
  refine v_imul d_X12_seenFrom_16 ?_
  refine v_isub d_X12_seenFrom_17 ?_
  refine v_istore (ls' := [_, _, _, _, _, _, _, _]) d_X12_seenFrom_18 (by decide) rfl ?_
  refine v_aload_n d_X12_seenFrom_20 rfl ?_
  refine v_gr d_X12_seenFrom_21 lf_X12_40_12 rfl (hS _ _ rfl) (hP _ _ _ rfl) ?_
  refine v_iconst (v := nI 1) d_X12_seenFrom_24 x_ic_1 ?_
  refine v_iald _ d_X12_seenFrom_25 (rfl) (hS _ _ rfl) (⟨by omega, by omega⟩) (rfl) ?_
  refine v_iconst (v := nI 2) d_X12_seenFrom_26 x_ic_2 ?_
  refine v_iload_n d_X12_seenFrom_27 rfl ?_
  refine v_imul d_X12_seenFrom_28 ?_
  refine v_isub d_X12_seenFrom_29 ?_
  refine v_istore (ls' := [_, _, _, _, _, _, _, _]) d_X12_seenFrom_30 (by decide) rfl ?_
  refine v_aload_n d_X12_seenFrom_32 rfl ?_
  refine v_gr d_X12_seenFrom_33 lf_X12_40_12 rfl (hS _ _ rfl) (hP _ _ _ rfl) ?_
  refine v_iconst (v := nI 2) d_X12_seenFrom_36 x_ic_2 ?_
  refine v_iald _ d_X12_seenFrom_37 (rfl) (hS _ _ rfl) (⟨by omega, by omega⟩) (rfl) ?_
  refine v_iconst (v := nI 2) d_X12_seenFrom_38 x_ic_2 ?_
  refine v_iload_n d_X12_seenFrom_39 rfl ?_
  refine v_imul d_X12_seenFrom_40 ?_
  refine v_isub d_X12_seenFrom_41 ?_
  refine v_istore (ls' := [_, _, _, _, _, _, _, _]) d_X12_seenFrom_42 (by decide) rfl ?_
  refine v_iload d_X12_seenFrom_44 rfl ?_
  refine w_if_ne d_X12_seenFrom_46 (fun h46 => ?_) (fun h46 => ?_)
  · try simp (disch := omega) only [x_ti, x_tm1] at h46
    refine v_aload_n d_X12_seenFrom_64 rfl ?_
    refine v_iload_n d_X12_seenFrom_65 rfl ?_
    refine v_iload_n d_X12_seenFrom_66 rfl ?_
    refine v_iload_n d_X12_seenFrom_67 rfl ?_
    refine v_iload d_X12_seenFrom_68 rfl ?_
    refine v_iload d_X12_seenFrom_70 rfl ?_
    refine v_iload d_X12_seenFrom_72 rfl ?_
    refine v_cv (as := [_, _, _, _, _, _]) (rest := []) d_X12_seenFrom_74 lv_X12_198_12 (hS _ _ rfl) rfl ⟨by decide, by decide⟩ rfl (Nat.le_of_ble_eq_true rfl) (by decide) (by decide) ?_
    refine t_X12_go hpl (by have := r_mid_in hbo hj 0; have := r_mid_in hbo hj 1; have := r_mid_in hbo hj 2; omega) (x_hn_cg h1 hn) (x_fos_cg h1 hfo) hS hP (fun I' J' h2 h3 => ?_)
    refine v_ret (v := some (.int _)) d_X12_seenFrom_77 rfl ⟨rfl, _, rfl, rfl⟩ (by decide) (by decide) ?_
    rw [r_seen, if_neg (by omega)] at hK
    rw [t0, t1, t2, r_ray_cg h1 hfo (Or.inl rfl) (by omega) (by have := r_mid_in hbo hj 0; have := r_mid_in hbo hj 1; have := r_mid_in hbo hj 2; omega)]
    exact hK I' J' (h1.tr h2)
  · try simp (disch := omega) only [x_ti, x_tm1] at h46
    refine v_iload d_X12_seenFrom_49 rfl ?_
    refine w_if_ne d_X12_seenFrom_51 (fun h51 => ?_) (fun h51 => ?_)
    · try simp (disch := omega) only [x_ti, x_tm1] at h51
      refine v_aload_n d_X12_seenFrom_64 rfl ?_
      refine v_iload_n d_X12_seenFrom_65 rfl ?_
      refine v_iload_n d_X12_seenFrom_66 rfl ?_
      refine v_iload_n d_X12_seenFrom_67 rfl ?_
      refine v_iload d_X12_seenFrom_68 rfl ?_
      refine v_iload d_X12_seenFrom_70 rfl ?_
      refine v_iload d_X12_seenFrom_72 rfl ?_
      refine v_cv (as := [_, _, _, _, _, _]) (rest := []) d_X12_seenFrom_74 lv_X12_198_12 (hS _ _ rfl) rfl ⟨by decide, by decide⟩ rfl (Nat.le_of_ble_eq_true rfl) (by decide) (by decide) ?_
      refine t_X12_go hpl (by have := r_mid_in hbo hj 0; have := r_mid_in hbo hj 1; have := r_mid_in hbo hj 2; omega) (x_hn_cg h1 hn) (x_fos_cg h1 hfo) hS hP (fun I' J' h2 h3 => ?_)
      refine v_ret (v := some (.int _)) d_X12_seenFrom_77 rfl ⟨rfl, _, rfl, rfl⟩ (by decide) (by decide) ?_
      rw [r_seen, if_neg (by omega)] at hK
      rw [t0, t1, t2, r_ray_cg h1 hfo (Or.inl rfl) (by omega) (by have := r_mid_in hbo hj 0; have := r_mid_in hbo hj 1; have := r_mid_in hbo hj 2; omega)]
      exact hK I' J' (h1.tr h2)
    · try simp (disch := omega) only [x_ti, x_tm1] at h51
      refine v_iload d_X12_seenFrom_54 rfl ?_
      refine w_if_ne d_X12_seenFrom_56 (fun h56 => ?_) (fun h56 => ?_)
      · try simp (disch := omega) only [x_ti, x_tm1] at h56
        refine v_aload_n d_X12_seenFrom_64 rfl ?_
        refine v_iload_n d_X12_seenFrom_65 rfl ?_
        refine v_iload_n d_X12_seenFrom_66 rfl ?_
        refine v_iload_n d_X12_seenFrom_67 rfl ?_
        refine v_iload d_X12_seenFrom_68 rfl ?_
        refine v_iload d_X12_seenFrom_70 rfl ?_
        refine v_iload d_X12_seenFrom_72 rfl ?_
        refine v_cv (as := [_, _, _, _, _, _]) (rest := []) d_X12_seenFrom_74 lv_X12_198_12 (hS _ _ rfl) rfl ⟨by decide, by decide⟩ rfl (Nat.le_of_ble_eq_true rfl) (by decide) (by decide) ?_
        refine t_X12_go hpl (by have := r_mid_in hbo hj 0; have := r_mid_in hbo hj 1; have := r_mid_in hbo hj 2; omega) (x_hn_cg h1 hn) (x_fos_cg h1 hfo) hS hP (fun I' J' h2 h3 => ?_)
        refine v_ret (v := some (.int _)) d_X12_seenFrom_77 rfl ⟨rfl, _, rfl, rfl⟩ (by decide) (by decide) ?_
        rw [r_seen, if_neg (by omega)] at hK
        rw [t0, t1, t2, r_ray_cg h1 hfo (Or.inl rfl) (by omega) (by have := r_mid_in hbo hj 0; have := r_mid_in hbo hj 1; have := r_mid_in hbo hj 2; omega)]
        exact hK I' J' (h1.tr h2)
      · try simp (disch := omega) only [x_ti, x_tm1] at h56
        refine v_bipush (v := (-9)) d_X12_seenFrom_59 x_bp_m9 ?_
        refine v_goto d_X12_seenFrom_61 ?_
        refine v_ret (v := some (.int _)) d_X12_seenFrom_77 rfl ⟨rfl, _, rfl, rfl⟩ (by decide) (by decide) ?_
        rw [r_seen, if_pos (by omega)] at hK
        exact hK I1 J h1

set_option maxRecDepth 100000 in
set_option maxHeartbeats 4000000 in
theorem t_X12_seenBy {K : x_K} {S : x_S} {P : x_P} {I : x_I} {J : x_J} {n : Nat} {x c : Int32} (e j : Nat) (hx : x = nI e) (he : e < 4) (hc : c = nI j) (hey : ∀ k, k < 12 → 0 ≤ (I 43 k).toInt ∧ (I 43 k).toInt ≤ 40) (hbo : m_fo I 10) (hj : (j : Int) < m_ce I 10) (hn : 0 ≤ (I 39 2).toInt ∧ (I 39 2).toInt ≤ 10) (hfo : ∀ s, s < m_ns I → m_fo I s) (hS : x_hS S) (hP : x_hP P) (hK : ∀ (I' : x_I) (J' : x_J), x_ex mE I I' J J' → K (some (.int (r_ans (r_sby I e j).1))) S P I' J' n) : x_Call f_X12_seenBy [.ref 39, .int x, .int c] K S P I J n := by
  subst hx hc
  refine x_intro (by decide) 0 (ls := [_, _, _]) rfl (Nat.le_of_ble_eq_true rfl) ?_
  refine v_aload_n d_X12_seenBy_0 rfl ?_
  refine v_aload_n d_X12_seenBy_1 rfl ?_
  refine v_gr d_X12_seenBy_2 lf_X12_19_12 rfl (hS _ _ rfl) (hP _ _ _ rfl) ?_
  refine v_iconst (v := nI 3) d_X12_seenBy_5 x_ic_3 ?_
  refine v_iload_n d_X12_seenBy_6 rfl ?_
  first | refine v_imulN d_X12_seenBy_7 ?_ | refine v_imul d_X12_seenBy_7 ?_
  refine v_iald _ d_X12_seenBy_8 (rfl) (hS _ _ rfl) (⟨by omega, by omega⟩) (rfl) ?_
  refine v_aload_n d_X12_seenBy_9 rfl ?_
  refine v_gr d_X12_seenBy_10 lf_X12_19_12 rfl (hS _ _ rfl) (hP _ _ _ rfl) ?_
  refine v_iconst (v := nI 3) d_X12_seenBy_13 x_ic_3 ?_
  refine v_iload_n d_X12_seenBy_14 rfl ?_
  first | refine v_imulN d_X12_seenBy_15 ?_ | refine v_imul d_X12_seenBy_15 ?_
  refine v_iconst (v := nI 1) d_X12_seenBy_16 x_ic_1 ?_
  first | refine v_iaddN d_X12_seenBy_17 ?_ | refine v_iadd d_X12_seenBy_17 ?_
  refine v_iald _ d_X12_seenBy_18 (rfl) (hS _ _ rfl) (⟨by omega, by omega⟩) (rfl) ?_
  refine v_aload_n d_X12_seenBy_19 rfl ?_
  refine v_gr d_X12_seenBy_20 lf_X12_19_12 rfl (hS _ _ rfl) (hP _ _ _ rfl) ?_
  refine v_iconst (v := nI 3) d_X12_seenBy_23 x_ic_3 ?_
  refine v_iload_n d_X12_seenBy_24 rfl ?_
  first | refine v_imulN d_X12_seenBy_25 ?_ | refine v_imul d_X12_seenBy_25 ?_
  refine v_iconst (v := nI 2) d_X12_seenBy_26 x_ic_2 ?_
  first | refine v_iaddN d_X12_seenBy_27 ?_ | refine v_iadd d_X12_seenBy_27 ?_
  refine v_iald _ d_X12_seenBy_28 (rfl) (hS _ _ rfl) (⟨by omega, by omega⟩) (rfl) ?_
  refine v_iload_n d_X12_seenBy_29 rfl ?_
  refine v_cv (as := [_, _, _, _]) (rest := []) d_X12_seenBy_30 lv_X12_206_12 (hS _ _ rfl) rfl ⟨by decide, by decide⟩ rfl (Nat.le_of_ble_eq_true rfl) (by decide) (by decide) ?_
  refine t_X12_seenFrom j rfl ⟨hey _ (by omega), hey _ (by omega), hey _ (by omega)⟩ hbo hj hn hfo hS hP (fun I' J' h2 => ?_)
  refine v_ret (v := some (.int _)) d_X12_seenBy_33 rfl ⟨rfl, _, rfl, rfl⟩ (by decide) (by decide) ?_
  exact hK I' J' h2

set_option maxRecDepth 100000 in
set_option maxHeartbeats 4000000 in
theorem t_X12_seen {K : x_K} {S : x_S} {P : x_P} {I : x_I} {J : x_J} {n : Nat} {e c : Int32} (hey : ∀ k, k < 12 → 0 ≤ (m_nb I 43 k).toInt ∧ (m_nb I 43 k).toInt ≤ 40) (hbo : m_fo (m_nb I) 10) (hn : 0 ≤ (m_nb I 39 2).toInt ∧ (m_nb I 39 2).toInt ≤ 10) (hfo : ∀ s, s < m_ns (m_nb I) → m_fo (m_nb I) s) (hS : x_hS S) (hP : x_hP P) (hK : ∀ (I' : x_I) (J' : x_J), x_ex mE (z_wish I e) I' J J' → K (some (.int (q_seen I e c))) S P I' J' n) : x_Call f_X12_seen [.ref 39, .int e, .int c] K S P I J n := by
  have hc := m_ce_in hbo
  have hcb : (m_nb I 41 64 * m_nb I 41 65).toInt = m_ce (m_nb I) 10 := rfl
  have t1 : (nI 1).toInt = 1 := by decide
  have hcs : (m_nb I 41 64 * m_nb I 41 65 - nI 1).toInt = m_ce (m_nb I) 10 - 1 := by rw [x_sub (by omega) (by omega)]; omega
  refine x_intro (by decide) 0 (ls := [_, _, _]) rfl (Nat.le_of_ble_eq_true rfl) ?_
  refine v_iload_n d_X12_seen_0 rfl ?_
  refine v_cs (as := [_]) (rest := []) d_X12_seen_1 ls_X12_123 rfl ⟨by decide, by decide⟩ rfl (Nat.le_of_ble_eq_true rfl) (by decide) (by decide) ?_
  refine t_X12_isEye (fun q => ?_) (fun q => ?_)
  · refine w_if_eq d_X12_seen_4 (fun h4 => absurd h4 (by decide)) (fun _ => ?_)
    refine v_iload_n d_X12_seen_7 rfl ?_
    refine v_iconst (v := nI 0) d_X12_seen_8 x_ic_0 ?_
    refine v_aload_n d_X12_seen_9 rfl ?_
    refine v_cv (as := []) (rest := [_, _]) d_X12_seen_10 lv_X12_138_12 (hS _ _ rfl) rfl ⟨by decide, by decide⟩ rfl (Nat.le_of_ble_eq_true rfl) (by decide) (by decide) ?_
    refine t_X12_boardCells hS hP ?_
    refine v_iconst (v := nI 1) d_X12_seen_13 x_ic_1 ?_
    refine v_isub d_X12_seen_14 ?_
    refine v_cs (as := [_, _, _]) (rest := []) d_X12_seen_15 ls_X12_90 rfl ⟨by decide, by decide⟩ rfl (Nat.le_of_ble_eq_true rfl) (by decide) (by decide) ?_
    refine t_X12_within (x_ti (k := 0) (by decide)) hcs (fun q2 => ?_) (fun q2 => ?_)
    · refine w_if_eq d_X12_seen_18 (fun h18 => absurd h18 (by decide)) (fun _ => ?_)
      obtain ⟨k, rfl, hk_k, t_k, y_k⟩ := x_ex1 (s := e) (by omega)
      obtain ⟨j, rfl, hk_j, t_j, y_j⟩ := x_ex1 (s := c) (by omega)
      refine v_aload_n d_X12_seen_21 rfl ?_
      refine v_iload_n d_X12_seen_22 rfl ?_
      refine v_iload_n d_X12_seen_23 rfl ?_
      refine v_cv (as := [_, _]) (rest := []) d_X12_seen_24 lv_X12_210_12 (hS _ _ rfl) rfl ⟨by decide, by decide⟩ rfl (Nat.le_of_ble_eq_true rfl) (by decide) (by decide) ?_
      refine t_X12_seenBy k j rfl (by omega) rfl hey hbo (by omega) hn hfo hS hP (fun I' J' h2 => ?_)
      refine v_goto d_X12_seen_27 ?_
      refine v_ret (v := some (.int _)) d_X12_seen_31 rfl ⟨rfl, _, rfl, rfl⟩ (by decide) (by decide) ?_
      have e0 : g_ey (nI k) ∧ 0 ≤ (nI j).toInt ∧ (nI j).toInt < m_ce (m_nb I) 10 := by unfold g_ey; omega
      have e1 : g_ey (nI k) := e0.1
      simp only [q_seen, z_wish, x_if_t e0, x_if_t e1, y_k, y_j] at hK
      exact hK I' J' h2
    · refine w_if_eq d_X12_seen_18 (fun _ => ?_) (fun h18 => absurd h18 (by decide))
      refine v_iconst (v := (-1)) d_X12_seen_30 x_ic_m1 ?_
      refine v_ret (v := some (.int _)) d_X12_seen_31 rfl ⟨rfl, _, rfl, rfl⟩ (by decide) (by decide) ?_
      first
        | (have e0 : ¬ (g_ey e ∧ 0 ≤ c.toInt ∧ c.toInt < m_ce (m_nb I) 10) := by unfold g_ey; omega
           have e1 : ¬ g_ey e := by unfold g_ey; omega
           simp only [q_seen, z_wish, x_if_f e0, x_if_f e1] at hK
           exact hK _ _ x_ex.rf)
        | (have e0 : ¬ (g_ey e ∧ 0 ≤ c.toInt ∧ c.toInt < m_ce (m_nb I) 10) := by unfold g_ey; omega
           have e1 : g_ey e := by unfold g_ey; omega
           simp only [q_seen, z_wish, x_if_f e0, x_if_t e1] at hK
           exact hK _ _ x_ex.rf)
  · refine w_if_eq d_X12_seen_4 (fun _ => ?_) (fun h4 => absurd h4 (by decide))
    refine v_iconst (v := (-1)) d_X12_seen_30 x_ic_m1 ?_
    refine v_ret (v := some (.int _)) d_X12_seen_31 rfl ⟨rfl, _, rfl, rfl⟩ (by decide) (by decide) ?_
    first
      | (have e0 : ¬ (g_ey e ∧ 0 ≤ c.toInt ∧ c.toInt < m_ce (m_nb I) 10) := by unfold g_ey; omega
         have e1 : ¬ g_ey e := by unfold g_ey; omega
         simp only [q_seen, z_wish, x_if_f e0, x_if_f e1] at hK
         exact hK _ _ x_ex.rf)
      | (have e0 : ¬ (g_ey e ∧ 0 ≤ c.toInt ∧ c.toInt < m_ce (m_nb I) 10) := by unfold g_ey; omega
         have e1 : g_ey e := by unfold g_ey; omega
         simp only [q_seen, z_wish, x_if_f e0, x_if_t e1] at hK
         exact hK _ _ x_ex.rf)

