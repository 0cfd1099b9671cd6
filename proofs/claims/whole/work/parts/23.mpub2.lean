set_option maxRecDepth 100000 in
set_option maxHeartbeats 4000000 in
theorem l_X12_surface {K : x_K} {S : x_S} {P : x_P} {I : x_I} {J : x_J} {n : Nat} {kd a c u v w h : Int32} (N : Nat) (hN : I 39 2 = nI N) (hN10 : N < 10) (hS : x_hS S) (hP : x_hP P) (hK : K (some (.int (nI N))) S P (x_u2 (x_fi (m_lay (x_u2 I 40 N kd) N a c u v w h) 42 (64 * N) 64 0) 39 2 (nI (N + 1))) J n) : ∀ d k : Nat, k + d = 64 → x_V f_X12_surface K 71 [some (.ref 39), some (.int kd), some (.int a), some (.int c), some (.int u), some (.int v), some (.int w), some (.int h), some (.int (nI k))] [] S P (x_fi (m_lay (x_u2 I 40 N kd) N a c u v w h) 42 (64 * N) k 0) J n 0 0 := by
  intro d
  induction d with
  | zero =>
    intro k hd
    have e : k = 64 := by omega
    subst e
    refine v_iload d_X12_surface_71 rfl ?_
    refine v_bipush (v := nI 64) d_X12_surface_73 x_bp_64 ?_
    refine w_icmp_ge d_X12_surface_75 (fun h75 => ?_) (fun h75 => False.elim (by (try simp (disch := omega) only [x_ti, x_tm1] at h75); omega))
    refine v_aload_n d_X12_surface_100 rfl ?_
    refine v_dup d_X12_surface_101 rfl ?_
    refine v_gie d_X12_surface_102 lf_X12_94_12 rfl (hS _ _ rfl) (hN) ?_
    refine v_iconst (v := nI 1) d_X12_surface_105 x_ic_1 ?_
    first | refine v_iaddN d_X12_surface_106 ?_ | refine v_iadd d_X12_surface_106 ?_
    refine v_pi d_X12_surface_107 (lp_X12_94_12 _) rfl (hS _ _ rfl) (rfl) rfl ?_
    refine v_aload_n d_X12_surface_110 rfl ?_
    refine v_gie d_X12_surface_111 lf_X12_94_12 rfl (hS _ _ rfl) (x_u2_s _ _ _ _) ?_
    refine v_iconst (v := nI 1) d_X12_surface_114 x_ic_1 ?_
    refine v_isub d_X12_surface_115 ?_
    refine v_ret (v := some (.int _)) d_X12_surface_116 rfl ⟨rfl, _, rfl, rfl⟩ (by decide) (by decide) ?_
    rw [show nI (N + 1) - nI 1 = nI N from x_subN (by omega)]
    exact hK
  | succ d ih =>
    intro k hd
    refine v_iload d_X12_surface_71 rfl ?_
    refine v_bipush (v := nI 64) d_X12_surface_73 x_bp_64 ?_
    refine w_icmp_ge d_X12_surface_75 (fun h75 => False.elim (by (try simp (disch := omega) only [x_ti, x_tm1] at h75); omega)) (fun h75 => ?_)
    refine v_aload_n d_X12_surface_78 rfl ?_
    refine v_gr d_X12_surface_79 lf_X12_16_12 rfl (hS _ _ rfl) (hP _ _ _ rfl) ?_
    refine v_bipush (v := nI 64) d_X12_surface_82 x_bp_64 ?_
    refine v_aload_n d_X12_surface_84 rfl ?_
    refine v_gie d_X12_surface_85 lf_X12_94_12 rfl (hS _ _ rfl) (hN) ?_
    first | refine v_imulN d_X12_surface_88 ?_ | refine v_imul d_X12_surface_88 ?_
    refine v_iload d_X12_surface_89 rfl ?_
    first | refine v_iaddN d_X12_surface_91 ?_ | refine v_iadd d_X12_surface_91 ?_
    refine v_iconst (v := nI 0) d_X12_surface_92 x_ic_0 ?_
    refine v_iast _ d_X12_surface_93 (rfl) (hS _ _ rfl) (⟨by omega, by omega⟩) ?_
    first | refine v_iinc (ls' := [_, _, _, _, _, _, _, _, _]) d_X12_surface_94 rfl (x_inc_1 _) (by decide) rfl ?_ | refine v_iinc (ls' := [_, _, _, _, _, _, _, _, _]) d_X12_surface_94 rfl rfl (by decide) rfl ?_
    refine v_goto d_X12_surface_97 ?_
    rw [show nI 0 = 0 from rfl, x_fi_s]
    exact ih (k + 1) (by omega)

set_option maxRecDepth 100000 in
set_option maxHeartbeats 4000000 in
theorem t_X12_surface {K : x_K} {S : x_S} {P : x_P} {I : x_I} {J : x_J} {n : Nat} {kd a c u v w h : Int32} (hn : 0 ≤ (I 39 2).toInt ∧ (I 39 2).toInt ≤ 10) (hS : x_hS S) (hP : x_hP P) (hK : K (some (.int (q_surface I kd a c u v w h))) S P (z_surface I kd a c u v w h) J n) : x_Call f_X12_surface [.ref 39, .int kd, .int a, .int c, .int u, .int v, .int w, .int h] K S P I J n := by
  have hns : m_ns I = (I 39 2).toInt.toNat := rfl
  have hN : I 39 2 = nI (m_ns I) := x_of hn.1
  refine x_intro (by decide) 1 (ls := [_, _, _, _, _, _, _, _, _]) rfl (Nat.le_of_ble_eq_true rfl) ?_
  refine v_iload_n d_X12_surface_0 rfl ?_
  refine v_iconst (v := nI 0) d_X12_surface_1 x_ic_0 ?_
  refine v_iconst (v := nI 2) d_X12_surface_2 x_ic_2 ?_
  refine v_cs (as := [_, _, _]) (rest := []) d_X12_surface_3 ls_X12_90 rfl ⟨by decide, by decide⟩ rfl (Nat.le_of_ble_eq_true rfl) (by decide) (by decide) ?_
  refine t_X12_within (x_ti (k := 0) (by decide)) (x_ti (k := 2) (by decide)) (fun q1 => ?_) (fun q1 => ?_)
  · refine w_if_eq d_X12_surface_6 (fun h6 => absurd h6 (by decide)) (fun _ => ?_)
    refine v_iload_n d_X12_surface_9 rfl ?_
    refine v_iload_n d_X12_surface_10 rfl ?_
    refine v_iload d_X12_surface_11 rfl ?_
    refine v_iload d_X12_surface_13 rfl ?_
    refine v_iload d_X12_surface_15 rfl ?_
    refine v_iload d_X12_surface_17 rfl ?_
    refine v_cs (as := [_, _, _, _, _, _]) (rest := []) d_X12_surface_19 ls_X12_116 rfl ⟨by decide, by decide⟩ rfl (Nat.le_of_ble_eq_true rfl) (by decide) (by decide) ?_
    refine t_X12_isFlat (fun q2 => ?_) (fun q2 => ?_)
    · refine w_if_ne d_X12_surface_22 (fun _ => ?_) (fun h22 => absurd h22 (by decide))
      refine v_aload_n d_X12_surface_28 rfl ?_
      refine v_gi d_X12_surface_29 lf_X12_94_12 rfl (hS _ _ rfl) ?_
      refine v_bipush (v := nI 10) d_X12_surface_32 x_bp_10 ?_
      refine w_icmp_ne d_X12_surface_34 (fun a34 => ?_) (fun a34 => ?_)
      · try simp (disch := omega) only [x_ti, x_tm1] at a34
        refine v_aload_n d_X12_surface_40 rfl ?_
        refine v_gr d_X12_surface_41 lf_X12_7_12 rfl (hS _ _ rfl) (hP _ _ _ rfl) ?_
        refine v_aload_n d_X12_surface_44 rfl ?_
        refine v_gi d_X12_surface_45 lf_X12_94_12 rfl (hS _ _ rfl) ?_
        refine v_iload_n d_X12_surface_48 rfl ?_
        refine v_iast (m_ns I) d_X12_surface_49 (hN) (hS _ _ rfl) (⟨by omega, by omega⟩) ?_
        refine v_aload_n d_X12_surface_50 rfl ?_
        refine v_aload_n d_X12_surface_51 rfl ?_
        refine v_gi d_X12_surface_52 lf_X12_94_12 rfl (hS _ _ rfl) ?_
        refine v_iload_n d_X12_surface_55 rfl ?_
        refine v_iload_n d_X12_surface_56 rfl ?_
        refine v_iload d_X12_surface_57 rfl ?_
        refine v_iload d_X12_surface_59 rfl ?_
        refine v_iload d_X12_surface_61 rfl ?_
        refine v_iload d_X12_surface_63 rfl ?_
        refine v_cv (as := [_, _, _, _, _, _, _]) (rest := []) d_X12_surface_65 lv_X12_109_12 (hS _ _ rfl) rfl ⟨by decide, by decide⟩ rfl (Nat.le_of_ble_eq_true rfl) (by decide) (by decide) ?_
        refine t_X12_layFlat (m_ns I) hN (by omega) hS hP ?_
        refine v_iconst (v := nI 0) d_X12_surface_68 x_ic_0 ?_
        refine v_istore (ls' := [_, _, _, _, _, _, _, _, _]) d_X12_surface_69 (by decide) rfl ?_
        have e0 : ¬ (¬ ((0 ≤ kd.toInt ∧ kd.toInt ≤ 2) ∧ m_isf a.toInt c.toInt u.toInt v.toInt w.toInt h.toInt)) := fun z => z ⟨q1, q2⟩
        have e1 : ¬ (I 39 2).toInt = 10 := by omega
        simp only [q_surface, z_surface, x_if_f e0, x_if_f e1] at hK
        have hl := l_X12_surface (kd := kd) (a := a) (c := c) (u := u) (v := v) (w := w) (h := h) (m_ns I) hN (by omega) hS hP hK 64 0 (by omega)
        rw [x_fi_0] at hl
        exact hl
      · try simp (disch := omega) only [x_ti, x_tm1] at a34
        refine v_bipush (v := (-4)) d_X12_surface_37 x_bp_m4 ?_
        refine v_ret (v := some (.int _)) d_X12_surface_39 rfl ⟨rfl, _, rfl, rfl⟩ (by decide) (by decide) ?_
        have e0 : ¬ (¬ ((0 ≤ kd.toInt ∧ kd.toInt ≤ 2) ∧ m_isf a.toInt c.toInt u.toInt v.toInt w.toInt h.toInt)) := fun z => z ⟨q1, q2⟩
        have e1 : (I 39 2).toInt = 10 := by omega
        simp only [q_surface, z_surface, x_if_f e0, x_if_t e1] at hK
        exact hK
    · refine w_if_ne d_X12_surface_22 (fun h22 => absurd h22 (by decide)) (fun _ => ?_)
      refine v_bipush (v := (-2)) d_X12_surface_25 x_bp_m2 ?_
      refine v_ret (v := some (.int _)) d_X12_surface_27 rfl ⟨rfl, _, rfl, rfl⟩ (by decide) (by decide) ?_
      first
        | (have e0 : ¬ ((0 ≤ kd.toInt ∧ kd.toInt ≤ 2) ∧ m_isf a.toInt c.toInt u.toInt v.toInt w.toInt h.toInt) := fun z => q1 z.1
           simp only [q_surface, z_surface, x_if_t e0] at hK
           exact hK)
        | (have e0 : ¬ ((0 ≤ kd.toInt ∧ kd.toInt ≤ 2) ∧ m_isf a.toInt c.toInt u.toInt v.toInt w.toInt h.toInt) := fun z => q2 z.2
           simp only [q_surface, z_surface, x_if_t e0] at hK
           exact hK)
  · refine w_if_eq d_X12_surface_6 (fun _ => ?_) (fun h6 => absurd h6 (by decide))
    refine v_bipush (v := (-2)) d_X12_surface_25 x_bp_m2 ?_
    refine v_ret (v := some (.int _)) d_X12_surface_27 rfl ⟨rfl, _, rfl, rfl⟩ (by decide) (by decide) ?_
    first
      | (have e0 : ¬ ((0 ≤ kd.toInt ∧ kd.toInt ≤ 2) ∧ m_isf a.toInt c.toInt u.toInt v.toInt w.toInt h.toInt) := fun z => q1 z.1
         simp only [q_surface, z_surface, x_if_t e0] at hK
         exact hK)
      | (have e0 : ¬ ((0 ≤ kd.toInt ∧ kd.toInt ≤ 2) ∧ m_isf a.toInt c.toInt u.toInt v.toInt w.toInt h.toInt) := fun z => q2 z.2
         simp only [q_surface, z_surface, x_if_t e0] at hK
         exact hK)

set_option maxRecDepth 100000 in
set_option maxHeartbeats 4000000 in
theorem l_X12_board {K : x_K} {S : x_S} {P : x_P} {I : x_I} {J : x_J} {n : Nat} {a c u v w h : Int32} (hS : x_hS S) (hP : x_hP P) (hK : K (some (.int (w * h))) S P (x_fi I 44 0 256 0) J n) : ∀ d k : Nat, k + d = 256 → x_V f_X12_board K 41 [some (.ref 39), some (.int a), some (.int c), some (.int u), some (.int v), some (.int w), some (.int h), some (.int (nI k))] [] S P (x_fi I 44 0 k 0) J n 0 0 := by
  intro d
  induction d with
  | zero =>
    intro k hd
    have e : k = 256 := by omega
    subst e
    refine v_iload d_X12_board_41 rfl ?_
    refine v_sipush (v := nI 256) d_X12_board_43 x_sp_256 ?_
    refine w_icmp_ge d_X12_board_46 (fun h46 => ?_) (fun h46 => False.elim (by (try simp (disch := omega) only [x_ti, x_tm1] at h46); omega))
    refine v_iload d_X12_board_63 rfl ?_
    refine v_iload d_X12_board_65 rfl ?_
    first | refine v_imulN d_X12_board_67 ?_ | refine v_imul d_X12_board_67 ?_
    refine v_ret (v := some (.int _)) d_X12_board_68 rfl ⟨rfl, _, rfl, rfl⟩ (by decide) (by decide) ?_
    exact hK
  | succ d ih =>
    intro k hd
    refine v_iload d_X12_board_41 rfl ?_
    refine v_sipush (v := nI 256) d_X12_board_43 x_sp_256 ?_
    refine w_icmp_ge d_X12_board_46 (fun h46 => False.elim (by (try simp (disch := omega) only [x_ti, x_tm1] at h46); omega)) (fun h46 => ?_)
    refine v_aload_n d_X12_board_49 rfl ?_
    refine v_gr d_X12_board_50 lf_X12_22_12 rfl (hS _ _ rfl) (hP _ _ _ rfl) ?_
    refine v_iload d_X12_board_53 rfl ?_
    refine v_iconst (v := nI 0) d_X12_board_55 x_ic_0 ?_
    refine v_iast _ d_X12_board_56 (rfl) (hS _ _ rfl) (⟨by omega, by omega⟩) ?_
    first | refine v_iinc (ls' := [_, _, _, _, _, _, _, _]) d_X12_board_57 rfl (x_inc_1 _) (by decide) rfl ?_ | refine v_iinc (ls' := [_, _, _, _, _, _, _, _]) d_X12_board_57 rfl rfl (by decide) rfl ?_
    refine v_goto d_X12_board_60 ?_
    rw [show nI 0 = 0 from rfl, x_fi_s0]
    exact ih (k + 1) (by omega)

set_option maxRecDepth 100000 in
set_option maxHeartbeats 4000000 in
theorem t_X12_board {K : x_K} {S : x_S} {P : x_P} {I : x_I} {J : x_J} {n : Nat} {a c u v w h : Int32} (hS : x_hS S) (hP : x_hP P) (hK : K (some (.int (q_board a c u v w h))) S P (z_board I a c u v w h) J n) : x_Call f_X12_board [.ref 39, .int a, .int c, .int u, .int v, .int w, .int h] K S P I J n := by
  refine x_intro (by decide) 1 (ls := [_, _, _, _, _, _, _, _]) rfl (Nat.le_of_ble_eq_true rfl) ?_
  refine v_iload_n d_X12_board_0 rfl ?_
  refine v_iload_n d_X12_board_1 rfl ?_
  refine v_iload_n d_X12_board_2 rfl ?_
  refine v_iload d_X12_board_3 rfl ?_
  refine v_iload d_X12_board_5 rfl ?_
  refine v_iload d_X12_board_7 rfl ?_
  refine v_cs (as := [_, _, _, _, _, _]) (rest := []) d_X12_board_9 ls_X12_116 rfl ⟨by decide, by decide⟩ rfl (Nat.le_of_ble_eq_true rfl) (by decide) (by decide) ?_
  refine t_X12_isFlat (fun q2 => ?_) (fun q2 => ?_)
  · refine w_if_ne d_X12_board_12 (fun _ => ?_) (fun h12 => absurd h12 (by decide))
    refine v_aload_n d_X12_board_18 rfl ?_
    refine v_iconst (v := nI 1) d_X12_board_19 x_ic_1 ?_
    refine v_pi d_X12_board_20 (lp_X12_105_12 _) rfl (hS _ _ rfl) (rfl) rfl ?_
    refine v_aload_n d_X12_board_23 rfl ?_
    refine v_bipush (v := nI 10) d_X12_board_24 x_bp_10 ?_
    refine v_iload_n d_X12_board_26 rfl ?_
    refine v_iload_n d_X12_board_27 rfl ?_
    refine v_iload_n d_X12_board_28 rfl ?_
    refine v_iload d_X12_board_29 rfl ?_
    refine v_iload d_X12_board_31 rfl ?_
    refine v_iload d_X12_board_33 rfl ?_
    refine v_cv (as := [_, _, _, _, _, _, _]) (rest := []) d_X12_board_35 lv_X12_109_12 (hS _ _ rfl) rfl ⟨by decide, by decide⟩ rfl (Nat.le_of_ble_eq_true rfl) (by decide) (by decide) ?_
    refine t_X12_layFlat 10 rfl (by decide) hS hP ?_
    refine v_iconst (v := nI 0) d_X12_board_38 x_ic_0 ?_
    refine v_istore (ls' := [_, _, _, _, _, _, _, _]) d_X12_board_39 (by decide) rfl ?_
    have e0 : ¬ (¬ m_isf a.toInt c.toInt u.toInt v.toInt w.toInt h.toInt) := fun z => z q2
    simp only [q_board, z_board, x_if_f e0] at hK
    have hl := l_X12_board (a := a) (c := c) (u := u) (v := v) (w := w) (h := h) hS hP hK 256 0 (by omega)
    rw [x_fi_0] at hl
    exact hl
  · refine w_if_ne d_X12_board_12 (fun h12 => absurd h12 (by decide)) (fun _ => ?_)
    refine v_bipush (v := (-2)) d_X12_board_15 x_bp_m2 ?_
    refine v_ret (v := some (.int _)) d_X12_board_17 rfl ⟨rfl, _, rfl, rfl⟩ (by decide) (by decide) ?_
    have e0 : ¬ m_isf a.toInt c.toInt u.toInt v.toInt w.toInt h.toInt := q2
    simp only [q_board, z_board, x_if_t e0] at hK
    exact hK

set_option maxRecDepth 100000 in
set_option maxHeartbeats 4000000 in
theorem t_X12_wish {K : x_K} {S : x_S} {P : x_P} {I : x_I} {J : x_J} {n : Nat} {e c : Int32} (hbo : m_fo (m_nb I) 10) (hS : x_hS S) (hP : x_hP P) (hK : K (some (.int (q_wish I e c))) S P (z_wish I e) J n) : x_Call f_X12_wish [.ref 39, .int e, .int c] K S P I J n := by
  have hc := m_ce_in hbo
  have hcb : (m_nb I 41 64 * m_nb I 41 65).toInt = m_ce (m_nb I) 10 := rfl
  have t1 : (nI 1).toInt = 1 := by decide
  have hcs : (m_nb I 41 64 * m_nb I 41 65 - nI 1).toInt = m_ce (m_nb I) 10 - 1 := by rw [x_sub (by omega) (by omega)]; omega
  refine x_intro (by decide) 0 (ls := [_, _, _]) rfl (Nat.le_of_ble_eq_true rfl) ?_
  refine v_iload_n d_X12_wish_0 rfl ?_
  refine v_cs (as := [_]) (rest := []) d_X12_wish_1 ls_X12_123 rfl ⟨by decide, by decide⟩ rfl (Nat.le_of_ble_eq_true rfl) (by decide) (by decide) ?_
  refine t_X12_isEye (fun q => ?_) (fun q => ?_)
  · refine w_if_eq d_X12_wish_4 (fun h4 => absurd h4 (by decide)) (fun _ => ?_)
    refine v_iload_n d_X12_wish_7 rfl ?_
    refine v_iconst (v := nI 0) d_X12_wish_8 x_ic_0 ?_
    refine v_aload_n d_X12_wish_9 rfl ?_
    refine v_cv (as := []) (rest := [_, _]) d_X12_wish_10 lv_X12_138_12 (hS _ _ rfl) rfl ⟨by decide, by decide⟩ rfl (Nat.le_of_ble_eq_true rfl) (by decide) (by decide) ?_
    refine t_X12_boardCells hS hP ?_
    refine v_iconst (v := nI 1) d_X12_wish_13 x_ic_1 ?_
    refine v_isub d_X12_wish_14 ?_
    refine v_cs (as := [_, _, _]) (rest := []) d_X12_wish_15 ls_X12_90 rfl ⟨by decide, by decide⟩ rfl (Nat.le_of_ble_eq_true rfl) (by decide) (by decide) ?_
    refine t_X12_within (x_ti (k := 0) (by decide)) hcs (fun q2 => ?_) (fun q2 => ?_)
    · refine w_if_eq d_X12_wish_18 (fun h18 => absurd h18 (by decide)) (fun _ => ?_)
      obtain ⟨k, rfl, hk_k, t_k, y_k⟩ := x_ex1 (s := e) (by omega)
      obtain ⟨j, rfl, hk_j, t_j, y_j⟩ := x_ex1 (s := c) (by omega)
      refine v_aload_n d_X12_wish_21 rfl ?_
      refine v_gr d_X12_wish_22 lf_X12_22_12 rfl (hS _ _ rfl) (hP _ _ _ rfl) ?_
      refine v_bipush (v := nI 64) d_X12_wish_25 x_bp_64 ?_
      refine v_iload_n d_X12_wish_27 rfl ?_
      first | refine v_imulN d_X12_wish_28 ?_ | refine v_imul d_X12_wish_28 ?_
      refine v_iload_n d_X12_wish_29 rfl ?_
      first | refine v_iaddN d_X12_wish_30 ?_ | refine v_iadd d_X12_wish_30 ?_
      refine v_iald _ d_X12_wish_31 (rfl) (hS _ _ rfl) (⟨by omega, by omega⟩) (rfl) ?_
      refine v_goto d_X12_wish_32 ?_
      refine v_ret (v := some (.int _)) d_X12_wish_36 rfl ⟨rfl, _, rfl, rfl⟩ (by decide) (by decide) ?_
      have e0 : g_ey (nI k) ∧ 0 ≤ (nI j).toInt ∧ (nI j).toInt < m_ce (m_nb I) 10 := by unfold g_ey; omega
      have e1 : g_ey (nI k) := e0.1
      simp only [q_wish, z_wish, x_if_t e0, x_if_t e1, y_k, y_j] at hK
      exact hK
    · refine w_if_eq d_X12_wish_18 (fun _ => ?_) (fun h18 => absurd h18 (by decide))
      refine v_iconst (v := (-1)) d_X12_wish_35 x_ic_m1 ?_
      refine v_ret (v := some (.int _)) d_X12_wish_36 rfl ⟨rfl, _, rfl, rfl⟩ (by decide) (by decide) ?_
      first
        | (have e0 : ¬ (g_ey e ∧ 0 ≤ c.toInt ∧ c.toInt < m_ce (m_nb I) 10) := by unfold g_ey; omega
           have e1 : ¬ g_ey e := by unfold g_ey; omega
           simp only [q_wish, z_wish, x_if_f e0, x_if_f e1] at hK
           exact hK)
        | (have e0 : ¬ (g_ey e ∧ 0 ≤ c.toInt ∧ c.toInt < m_ce (m_nb I) 10) := by unfold g_ey; omega
           have e1 : g_ey e := by unfold g_ey; omega
           simp only [q_wish, z_wish, x_if_f e0, x_if_t e1] at hK
           exact hK)
  · refine w_if_eq d_X12_wish_4 (fun _ => ?_) (fun h4 => absurd h4 (by decide))
    refine v_iconst (v := (-1)) d_X12_wish_35 x_ic_m1 ?_
    refine v_ret (v := some (.int _)) d_X12_wish_36 rfl ⟨rfl, _, rfl, rfl⟩ (by decide) (by decide) ?_
    first
      | (have e0 : ¬ (g_ey e ∧ 0 ≤ c.toInt ∧ c.toInt < m_ce (m_nb I) 10) := by unfold g_ey; omega
         have e1 : ¬ g_ey e := by unfold g_ey; omega
         simp only [q_wish, z_wish, x_if_f e0, x_if_f e1] at hK
         exact hK)
      | (have e0 : ¬ (g_ey e ∧ 0 ≤ c.toInt ∧ c.toInt < m_ce (m_nb I) 10) := by unfold g_ey; omega
         have e1 : g_ey e := by unfold g_ey; omega
         simp only [q_wish, z_wish, x_if_f e0, x_if_t e1] at hK
         exact hK)

