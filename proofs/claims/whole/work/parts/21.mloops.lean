set_option maxRecDepth 100000 in
set_option maxHeartbeats 4000000 in
theorem l_X12_painted {K : x_K} {S : x_S} {P : x_P} {I : x_I} {J : x_J} {n : Nat} (s N : Nat) (hs : s < 10) (hN : (I 41 (6 * s + 4) * I 41 (6 * s + 5)).toInt = (N : Int)) (hN6 : N ≤ 64) (hS : x_hS S) (hP : x_hP P) (hK : K (some (.int (nI (x_ct (fun k => decide (0 < (I 42 (64 * s + k)).toInt)) N)))) S P I J n) : ∀ d k : Nat, k + d = N → x_V f_X12_painted K 4 [some (.ref 39), some (.int (nI s)), some (.int (nI (x_ct (fun k => decide (0 < (I 42 (64 * s + k)).toInt)) k))), some (.int (nI k))] [] S P I J n 0 0 := by
  intro d
  induction d with
  | zero =>
    intro k hd
    have e : k = N := by omega
    subst e
    refine v_iload_n d_X12_painted_4 rfl ?_
    refine v_aload_n d_X12_painted_5 rfl ?_
    refine v_iload_n d_X12_painted_6 rfl ?_
    refine v_cv (as := [_]) (rest := [_]) d_X12_painted_7 lv_X12_101_12 (hS _ _ rfl) rfl ⟨by decide, by decide⟩ rfl (Nat.le_of_ble_eq_true rfl) (by decide) (by decide) ?_
    refine t_X12_cellsOf s rfl (by omega) hS hP ?_
    refine w_icmp_ge d_X12_painted_10 (fun h10 => ?_) (fun h10 => False.elim (by (try simp (disch := omega) only [x_ti, x_tm1] at h10); omega))
    refine v_iload_n d_X12_painted_41 rfl ?_
    refine v_ret (v := some (.int _)) d_X12_painted_42 rfl ⟨rfl, _, rfl, rfl⟩ (by decide) (by decide) ?_
    exact hK
  | succ d ih =>
    intro k hd
    refine v_iload_n d_X12_painted_4 rfl ?_
    refine v_aload_n d_X12_painted_5 rfl ?_
    refine v_iload_n d_X12_painted_6 rfl ?_
    refine v_cv (as := [_]) (rest := [_]) d_X12_painted_7 lv_X12_101_12 (hS _ _ rfl) rfl ⟨by decide, by decide⟩ rfl (Nat.le_of_ble_eq_true rfl) (by decide) (by decide) ?_
    refine t_X12_cellsOf s rfl (by omega) hS hP ?_
    refine w_icmp_ge d_X12_painted_10 (fun h10 => False.elim (by (try simp (disch := omega) only [x_ti, x_tm1] at h10); omega)) (fun h10 => ?_)
    refine v_iload_n d_X12_painted_13 rfl ?_
    refine v_aload_n d_X12_painted_14 rfl ?_
    refine v_gr d_X12_painted_15 lf_X12_16_12 rfl (hS _ _ rfl) (hP _ _ _ rfl) ?_
    refine v_bipush (v := nI 64) d_X12_painted_18 x_bp_64 ?_
    refine v_iload_n d_X12_painted_20 rfl ?_
    first | refine v_imulN d_X12_painted_21 ?_ | refine v_imul d_X12_painted_21 ?_
    refine v_iload_n d_X12_painted_22 rfl ?_
    first | refine v_iaddN d_X12_painted_23 ?_ | refine v_iadd d_X12_painted_23 ?_
    refine v_iald _ d_X12_painted_24 (rfl) (hS _ _ rfl) (⟨by omega, by omega⟩) (rfl) ?_
    refine w_if_le d_X12_painted_25 (fun h25 => ?_) (fun h25 => ?_)
    · try simp (disch := omega) only [x_ti, x_tm1] at h25
      refine v_iconst (v := nI 0) d_X12_painted_32 x_ic_0 ?_
      first | refine v_iaddN d_X12_painted_33 ?_ | refine v_iadd d_X12_painted_33 ?_
      refine v_istore_n (ls' := [_, _, _, _]) d_X12_painted_34 (by decide) rfl ?_
      first | refine v_iinc (ls' := [_, _, _, _]) d_X12_painted_35 rfl (x_inc_1 _) (by decide) rfl ?_ | refine v_iinc (ls' := [_, _, _, _]) d_X12_painted_35 rfl rfl (by decide) rfl ?_
      refine v_goto d_X12_painted_38 ?_
      first | (rw [x_ct_y (p := (fun k => decide (0 < (I 42 (64 * s + k)).toInt))) (k := k) (by simp; omega)]; exact ih (k + 1) (by omega)) | (rw [x_ct_n (p := (fun k => decide (0 < (I 42 (64 * s + k)).toInt))) (k := k) (by simp; omega)]; exact ih (k + 1) (by omega))
    · try simp (disch := omega) only [x_ti, x_tm1] at h25
      refine v_iconst (v := nI 1) d_X12_painted_28 x_ic_1 ?_
      refine v_goto d_X12_painted_29 ?_
      first | refine v_iaddN d_X12_painted_33 ?_ | refine v_iadd d_X12_painted_33 ?_
      refine v_istore_n (ls' := [_, _, _, _]) d_X12_painted_34 (by decide) rfl ?_
      first | refine v_iinc (ls' := [_, _, _, _]) d_X12_painted_35 rfl (x_inc_1 _) (by decide) rfl ?_ | refine v_iinc (ls' := [_, _, _, _]) d_X12_painted_35 rfl rfl (by decide) rfl ?_
      refine v_goto d_X12_painted_38 ?_
      first | (rw [x_ct_y (p := (fun k => decide (0 < (I 42 (64 * s + k)).toInt))) (k := k) (by simp; omega)]; exact ih (k + 1) (by omega)) | (rw [x_ct_n (p := (fun k => decide (0 < (I 42 (64 * s + k)).toInt))) (k := k) (by simp; omega)]; exact ih (k + 1) (by omega))

set_option maxRecDepth 100000 in
set_option maxHeartbeats 4000000 in
theorem t_X12_painted {K : x_K} {S : x_S} {P : x_P} {I : x_I} {J : x_J} {n : Nat} {x : Int32} (s : Nat) (hx : x = nI s) (hs : s < 10) (hfo : m_fo I s) (hS : x_hS S) (hP : x_hP P) (hK : K (some (.int (nI (m_pa I s)))) S P I J n) : x_Call f_X12_painted [.ref 39, .int x] K S P I J n := by
  subst hx
  have hc := m_ce_in hfo
  refine x_intro (by decide) 2 (ls := [_, _, _, _]) rfl (Nat.le_of_ble_eq_true rfl) ?_
  refine v_iconst (v := nI 0) d_X12_painted_0 x_ic_0 ?_
  refine v_istore_n (ls' := [_, _, _, _]) d_X12_painted_1 (by decide) rfl ?_
  refine v_iconst (v := nI 0) d_X12_painted_2 x_ic_0 ?_
  refine v_istore_n (ls' := [_, _, _, _]) d_X12_painted_3 (by decide) rfl ?_
  exact l_X12_painted s (m_ce I s).toNat hs (by unfold m_ce at hc ⊢; omega) (by omega) hS hP hK (m_ce I s).toNat 0 (by omega)

set_option maxRecDepth 100000 in
set_option maxHeartbeats 4000000 in
theorem l_X12_allPainted {K : x_K} {S : x_S} {P : x_P} {I : x_I} {J : x_J} {n : Nat} (N : Nat) (hN : (I 39 2).toInt = (N : Int)) (hN6 : N ≤ 10) (hfo : ∀ s, s < N → m_fo I s) (hS : x_hS S) (hP : x_hP P) (hK : K (some (.int (nI (x_sm (m_pa I) N)))) S P I J n) : ∀ d k : Nat, k + d = N → x_V f_X12_allPainted K 4 [some (.ref 39), some (.int (nI (x_sm (m_pa I) k))), some (.int (nI k))] [] S P I J n 0 0 := by
  intro d
  induction d with
  | zero =>
    intro k hd
    have e : k = N := by omega
    subst e
    refine v_iload_n d_X12_allPainted_4 rfl ?_
    refine v_aload_n d_X12_allPainted_5 rfl ?_
    refine v_gi d_X12_allPainted_6 lf_X12_94_12 rfl (hS _ _ rfl) ?_
    refine w_icmp_ge d_X12_allPainted_9 (fun h9 => ?_) (fun h9 => False.elim (by (try simp (disch := omega) only [x_ti, x_tm1] at h9); omega))
    refine v_iload_n d_X12_allPainted_26 rfl ?_
    refine v_ret (v := some (.int _)) d_X12_allPainted_27 rfl ⟨rfl, _, rfl, rfl⟩ (by decide) (by decide) ?_
    exact hK
  | succ d ih =>
    intro k hd
    refine v_iload_n d_X12_allPainted_4 rfl ?_
    refine v_aload_n d_X12_allPainted_5 rfl ?_
    refine v_gi d_X12_allPainted_6 lf_X12_94_12 rfl (hS _ _ rfl) ?_
    refine w_icmp_ge d_X12_allPainted_9 (fun h9 => False.elim (by (try simp (disch := omega) only [x_ti, x_tm1] at h9); omega)) (fun h9 => ?_)
    refine v_iload_n d_X12_allPainted_12 rfl ?_
    refine v_aload_n d_X12_allPainted_13 rfl ?_
    refine v_iload_n d_X12_allPainted_14 rfl ?_
    refine v_cv (as := [_]) (rest := [_]) d_X12_allPainted_15 lv_X12_120_12 (hS _ _ rfl) rfl ⟨by decide, by decide⟩ rfl (Nat.le_of_ble_eq_true rfl) (by decide) (by decide) ?_
    refine t_X12_painted k rfl (by omega) (hfo k (by omega)) hS hP ?_
    first | refine v_iaddN d_X12_allPainted_18 ?_ | refine v_iadd d_X12_allPainted_18 ?_
    refine v_istore_n (ls' := [_, _, _]) d_X12_allPainted_19 (by decide) rfl ?_
    first | refine v_iinc (ls' := [_, _, _]) d_X12_allPainted_20 rfl (x_inc_1 _) (by decide) rfl ?_ | refine v_iinc (ls' := [_, _, _]) d_X12_allPainted_20 rfl rfl (by decide) rfl ?_
    refine v_goto d_X12_allPainted_23 ?_
    exact ih (k + 1) (by omega)

set_option maxRecDepth 100000 in
set_option maxHeartbeats 4000000 in
theorem t_X12_allPainted {K : x_K} {S : x_S} {P : x_P} {I : x_I} {J : x_J} {n : Nat} (hN : 0 ≤ (I 39 2).toInt ∧ (I 39 2).toInt ≤ 10) (hfo : ∀ s, s < m_ns I → m_fo I s) (hS : x_hS S) (hP : x_hP P) (hK : K (some (.int (nI (x_sm (m_pa I) (m_ns I))))) S P I J n) : x_Call f_X12_allPainted [.ref 39] K S P I J n := by
  refine x_intro (by decide) 2 (ls := [_, _, _]) rfl (Nat.le_of_ble_eq_true rfl) ?_
  refine v_iconst (v := nI 0) d_X12_allPainted_0 x_ic_0 ?_
  refine v_istore_n (ls' := [_, _, _]) d_X12_allPainted_1 (by decide) rfl ?_
  refine v_iconst (v := nI 0) d_X12_allPainted_2 x_ic_0 ?_
  refine v_istore_n (ls' := [_, _, _]) d_X12_allPainted_3 (by decide) rfl ?_
  exact l_X12_allPainted (m_ns I) (by unfold m_ns; omega) (by unfold m_ns; omega) hfo hS hP hK (m_ns I) 0 (by omega)

set_option maxRecDepth 100000 in
set_option maxHeartbeats 4000000 in
theorem l_X12_wash {K : x_K} {S : x_S} {P : x_P} {I : x_I} {J : x_J} {n : Nat} (v : Int32) (hS : x_hS S) (hP : x_hP P) (hK : K (some (.int v)) S P (x_fi I 42 0 640 0) J n) : ∀ d k : Nat, k + d = 640 → x_V f_X12_wash K 7 [some (.ref 39), some (.int v), some (.int (nI k))] [] S P (x_fi I 42 0 k 0) J n 0 0 := by
  intro d
  induction d with
  | zero =>
    intro k hd
    have e : k = 640 := by omega
    subst e
    refine v_iload_n d_X12_wash_7 rfl ?_
    refine v_sipush (v := nI 640) d_X12_wash_8 x_sp_640 ?_
    refine w_icmp_ge d_X12_wash_11 (fun h11 => ?_) (fun h11 => False.elim (by (try simp (disch := omega) only [x_ti, x_tm1] at h11); omega))
    refine v_iload_n d_X12_wash_27 rfl ?_
    refine v_ret (v := some (.int _)) d_X12_wash_28 rfl ⟨rfl, _, rfl, rfl⟩ (by decide) (by decide) ?_
    exact hK
  | succ d ih =>
    intro k hd
    refine v_iload_n d_X12_wash_7 rfl ?_
    refine v_sipush (v := nI 640) d_X12_wash_8 x_sp_640 ?_
    refine w_icmp_ge d_X12_wash_11 (fun h11 => False.elim (by (try simp (disch := omega) only [x_ti, x_tm1] at h11); omega)) (fun h11 => ?_)
    refine v_aload_n d_X12_wash_14 rfl ?_
    refine v_gr d_X12_wash_15 lf_X12_16_12 rfl (hS _ _ rfl) (hP _ _ _ rfl) ?_
    refine v_iload_n d_X12_wash_18 rfl ?_
    refine v_iconst (v := nI 0) d_X12_wash_19 x_ic_0 ?_
    refine v_iast _ d_X12_wash_20 (rfl) (hS _ _ rfl) (⟨by omega, by omega⟩) ?_
    first | refine v_iinc (ls' := [_, _, _]) d_X12_wash_21 rfl (x_inc_1 _) (by decide) rfl ?_ | refine v_iinc (ls' := [_, _, _]) d_X12_wash_21 rfl rfl (by decide) rfl ?_
    refine v_goto d_X12_wash_24 ?_
    rw [show nI 0 = 0 from rfl, x_fi_s0]
    exact ih (k + 1) (by omega)

set_option maxRecDepth 100000 in
set_option maxHeartbeats 4000000 in
theorem t_X12_wash {K : x_K} {S : x_S} {P : x_P} {I : x_I} {J : x_J} {n : Nat} (hN : 0 ≤ (I 39 2).toInt ∧ (I 39 2).toInt ≤ 10) (hfo : ∀ s, s < m_ns I → m_fo I s) (hS : x_hS S) (hP : x_hP P) (hK : K (some (.int (nI (x_sm (m_pa I) (m_ns I))))) S P (x_fi I 42 0 640 0) J n) : x_Call f_X12_wash [.ref 39] K S P I J n := by
  refine x_intro (by decide) 2 (ls := [_, _, _]) rfl (Nat.le_of_ble_eq_true rfl) ?_
  refine v_aload_n d_X12_wash_0 rfl ?_
  refine v_cv (as := []) (rest := []) d_X12_wash_1 lv_X12_220_12 (hS _ _ rfl) rfl ⟨by decide, by decide⟩ rfl (Nat.le_of_ble_eq_true rfl) (by decide) (by decide) ?_
  refine t_X12_allPainted hN hfo hS hP ?_
  refine v_istore_n (ls' := [_, _, _]) d_X12_wash_4 (by decide) rfl ?_
  refine v_iconst (v := nI 0) d_X12_wash_5 x_ic_0 ?_
  refine v_istore_n (ls' := [_, _, _]) d_X12_wash_6 (by decide) rfl ?_
  have hl := l_X12_wash (nI (x_sm (m_pa I) (m_ns I))) hS hP hK 640 0 (by omega)
  rw [x_fi_0] at hl
  exact hl

