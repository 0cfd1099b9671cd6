set_option maxRecDepth 100000 in
set_option maxHeartbeats 4000000 in
theorem l_X12_sheet {K : x_K} {S : x_S} {P : x_P} {I : x_I} {J : x_J} {n : Nat} {lane m : Int32} (q : Nat) (hq : q < 4) (hS : x_hS S) (hP : x_hP P) (hK : K (some (.int (nI 1))) S P (x_fi (x_u2 (x_u2 (x_u2 I 39 0 (nI 0)) 45 q lane) 46 q m) 47 (64 * q) 64 0) J n) : ∀ d k : Nat, k + d = 64 → x_V f_X12_sheet K 57 [some (.ref 39), some (.int (nI q)), some (.int lane), some (.int m), some (.int (nI k))] [] S P (x_fi (x_u2 (x_u2 (x_u2 I 39 0 (nI 0)) 45 q lane) 46 q m) 47 (64 * q) k 0) J n 0 0 := by
  intro d
  induction d with
  | zero =>
    intro k hd
    have e : k = 64 := by omega
    subst e
    refine v_iload d_X12_sheet_57 rfl ?_
    refine v_bipush (v := nI 64) d_X12_sheet_59 x_bp_64 ?_
    refine w_icmp_ge d_X12_sheet_61 (fun h61 => ?_) (fun h61 => False.elim (by (try simp (disch := omega) only [x_ti, x_tm1] at h61); omega))
    refine v_iconst (v := nI 1) d_X12_sheet_83 x_ic_1 ?_
    refine v_ret (v := some (.int _)) d_X12_sheet_84 rfl ⟨rfl, _, rfl, rfl⟩ (by decide) (by decide) ?_
    exact hK
  | succ d ih =>
    intro k hd
    refine v_iload d_X12_sheet_57 rfl ?_
    refine v_bipush (v := nI 64) d_X12_sheet_59 x_bp_64 ?_
    refine w_icmp_ge d_X12_sheet_61 (fun h61 => False.elim (by (try simp (disch := omega) only [x_ti, x_tm1] at h61); omega)) (fun h61 => ?_)
    refine v_aload_n d_X12_sheet_64 rfl ?_
    refine v_gr d_X12_sheet_65 lf_X12_31_12 rfl (hS _ _ rfl) (hP _ _ _ rfl) ?_
    refine v_bipush (v := nI 64) d_X12_sheet_68 x_bp_64 ?_
    refine v_iload_n d_X12_sheet_70 rfl ?_
    first | refine v_imulN d_X12_sheet_71 ?_ | refine v_imul d_X12_sheet_71 ?_
    refine v_iload d_X12_sheet_72 rfl ?_
    first | refine v_iaddN d_X12_sheet_74 ?_ | refine v_iadd d_X12_sheet_74 ?_
    refine v_iconst (v := nI 0) d_X12_sheet_75 x_ic_0 ?_
    refine v_iast _ d_X12_sheet_76 (rfl) (hS _ _ rfl) (⟨by omega, by omega⟩) ?_
    first | refine v_iinc (ls' := [_, _, _, _, _]) d_X12_sheet_77 rfl (x_inc_1 _) (by decide) rfl ?_ | refine v_iinc (ls' := [_, _, _, _, _]) d_X12_sheet_77 rfl rfl (by decide) rfl ?_
    refine v_goto d_X12_sheet_80 ?_
    rw [show nI 0 = 0 from rfl, x_fi_s]
    exact ih (k + 1) (by omega)

set_option maxRecDepth 100000 in
set_option maxHeartbeats 4000000 in
theorem t_X12_sheet {K : x_K} {S : x_S} {P : x_P} {I : x_I} {J : x_J} {n : Nat} {k lane m : Int32} (hS : x_hS S) (hP : x_hP P) (hK : K (some (.int (q_sheet k lane m))) S P (z_sheet I k lane m) J n) : x_Call f_X12_sheet [.ref 39, .int k, .int lane, .int m] K S P I J n := by
  refine x_intro (by decide) 1 (ls := [_, _, _, _, _]) rfl (Nat.le_of_ble_eq_true rfl) ?_
  refine v_aload_n d_X12_sheet_0 rfl ?_
  refine v_iconst (v := nI 0) d_X12_sheet_1 x_ic_0 ?_
  refine v_pi d_X12_sheet_2 (lp_X12_85_12 _) rfl (hS _ _ rfl) (rfl) rfl ?_
  refine v_iload_n d_X12_sheet_5 rfl ?_
  refine v_cs (as := [_]) (rest := []) d_X12_sheet_6 ls_X12_132 rfl ⟨by decide, by decide⟩ rfl (Nat.le_of_ble_eq_true rfl) (by decide) (by decide) ?_
  refine t_X12_isSheet (fun qa => ?_) (fun qa => ?_)
  · refine w_if_ne d_X12_sheet_9 (fun _ => ?_) (fun h9 => absurd h9 (by decide))
    refine v_iload_n d_X12_sheet_14 rfl ?_
    refine v_cs (as := [_]) (rest := []) d_X12_sheet_15 ls_X12_135 rfl ⟨by decide, by decide⟩ rfl (Nat.le_of_ble_eq_true rfl) (by decide) (by decide) ?_
    refine t_X12_isLane (fun q2 => ?_) (fun q2 => ?_)
    · refine w_if_eq d_X12_sheet_18 (fun h18 => absurd h18 (by decide)) (fun _ => ?_)
      refine v_iload_n d_X12_sheet_21 rfl ?_
      refine v_bipush (v := nI 64) d_X12_sheet_22 x_bp_64 ?_
      refine w_icmp_le d_X12_sheet_24 (fun h24 => ?_) (fun h24 => ?_)
      · try simp (disch := omega) only [x_ti, x_tm1] at h24
        refine v_iload_n d_X12_sheet_30 rfl ?_
        refine w_if_ge d_X12_sheet_31 (fun h31 => ?_) (fun h31 => ?_)
        · try simp (disch := omega) only [x_ti, x_tm1] at h31
          obtain ⟨q, rfl, hk_q, t_q, y_q⟩ := x_ex1 (s := k) (by omega)
          refine v_aload_n d_X12_sheet_40 rfl ?_
          refine v_gr d_X12_sheet_41 lf_X12_25_12 rfl (hS _ _ rfl) (hP _ _ _ rfl) ?_
          refine v_iload_n d_X12_sheet_44 rfl ?_
          refine v_iload_n d_X12_sheet_45 rfl ?_
          refine v_iast _ d_X12_sheet_46 (rfl) (hS _ _ rfl) (⟨by omega, by omega⟩) ?_
          refine v_aload_n d_X12_sheet_47 rfl ?_
          refine v_gr d_X12_sheet_48 lf_X12_28_12 rfl (hS _ _ rfl) (hP _ _ _ rfl) ?_
          refine v_iload_n d_X12_sheet_51 rfl ?_
          refine v_iload_n d_X12_sheet_52 rfl ?_
          refine v_iast _ d_X12_sheet_53 (rfl) (hS _ _ rfl) (⟨by omega, by omega⟩) ?_
          refine v_iconst (v := nI 0) d_X12_sheet_54 x_ic_0 ?_
          refine v_istore (ls' := [_, _, _, _, _]) d_X12_sheet_55 (by decide) rfl ?_
          have e0 : ¬ (¬ g_ey (nI q)) := by first | (unfold g_ey; omega) | omega
          have e1 : ¬ (¬ ((0 ≤ lane.toInt ∧ lane.toInt ≤ 2) ∧ m.toInt ≤ 64)) := by first | (unfold g_ey; omega) | omega
          have e2 : ¬ (m.toInt < 0) := by first | (unfold g_ey; omega) | omega
          simp only [q_sheet, z_sheet, x_if_f e0, x_if_f e1, x_if_f e2, y_q] at hK
          have hl := l_X12_sheet (lane := lane) (m := m) q (by omega) hS hP hK 64 0 (by omega)
          rw [x_fi_0] at hl
          exact hl
        · try simp (disch := omega) only [x_ti, x_tm1] at h31
          refine v_aload_n d_X12_sheet_34 rfl ?_
          refine v_iconst (v := nI 4) d_X12_sheet_35 x_ic_4 ?_
          refine v_cv (as := [_]) (rest := []) d_X12_sheet_36 lv_X12_129_12 (hS _ _ rfl) rfl ⟨by decide, by decide⟩ rfl (Nat.le_of_ble_eq_true rfl) (by decide) (by decide) ?_
          refine t_X12_fails hS hP ?_
          refine v_ret (v := some (.int _)) d_X12_sheet_39 rfl ⟨rfl, _, rfl, rfl⟩ (by decide) (by decide) ?_
          have e0 : ¬ (¬ g_ey k) := by first | (unfold g_ey; omega) | omega
          have e1 : ¬ (¬ ((0 ≤ lane.toInt ∧ lane.toInt ≤ 2) ∧ m.toInt ≤ 64)) := by first | (unfold g_ey; omega) | omega
          have e2 : m.toInt < 0 := by first | (unfold g_ey; omega) | omega
          simp only [q_sheet, z_sheet, x_if_f e0, x_if_f e1, x_if_t e2] at hK
          exact hK
      · try simp (disch := omega) only [x_ti, x_tm1] at h24
        refine v_bipush (v := (-2)) d_X12_sheet_27 x_bp_m2 ?_
        refine v_ret (v := some (.int _)) d_X12_sheet_29 rfl ⟨rfl, _, rfl, rfl⟩ (by decide) (by decide) ?_
        have e0 : ¬ (¬ g_ey k) := by first | (unfold g_ey; omega) | omega
        have e1 : ¬ ((0 ≤ lane.toInt ∧ lane.toInt ≤ 2) ∧ m.toInt ≤ 64) := by first | (unfold g_ey; omega) | omega
        simp only [q_sheet, z_sheet, x_if_f e0, x_if_t e1] at hK
        exact hK
    · refine w_if_eq d_X12_sheet_18 (fun _ => ?_) (fun h18 => absurd h18 (by decide))
      refine v_bipush (v := (-2)) d_X12_sheet_27 x_bp_m2 ?_
      refine v_ret (v := some (.int _)) d_X12_sheet_29 rfl ⟨rfl, _, rfl, rfl⟩ (by decide) (by decide) ?_
      have e0 : ¬ (¬ g_ey k) := by first | (unfold g_ey; omega) | omega
      have e1 : ¬ ((0 ≤ lane.toInt ∧ lane.toInt ≤ 2) ∧ m.toInt ≤ 64) := by first | (unfold g_ey; omega) | omega
      simp only [q_sheet, z_sheet, x_if_f e0, x_if_t e1] at hK
      exact hK
  · refine w_if_ne d_X12_sheet_9 (fun h9 => absurd h9 (by decide)) (fun _ => ?_)
    refine v_iconst (v := (-1)) d_X12_sheet_12 x_ic_m1 ?_
    refine v_ret (v := some (.int _)) d_X12_sheet_13 rfl ⟨rfl, _, rfl, rfl⟩ (by decide) (by decide) ?_
    have e0 : ¬ g_ey k := by first | (unfold g_ey; omega) | omega
    simp only [q_sheet, z_sheet, x_if_t e0] at hK
    exact hK

set_option maxRecDepth 100000 in
set_option maxHeartbeats 4000000 in
theorem t_X12_lose {K : x_K} {S : x_S} {P : x_P} {I : x_I} {J : x_J} {n : Nat} {k : Int32} (hS : x_hS S) (hP : x_hP P) (hK : K (some (.int (q_lose I k))) S P (z_lose I k) J n) : x_Call f_X12_lose [.ref 39, .int k] K S P I J n := by
  have t9 : (-9 : Int32).toInt = -9 := by decide
  refine x_intro (by decide) 1 (ls := [_, _, _]) rfl (Nat.le_of_ble_eq_true rfl) ?_
  refine v_iload_n d_X12_lose_0 rfl ?_
  refine v_cs (as := [_]) (rest := []) d_X12_lose_1 ls_X12_132 rfl ⟨by decide, by decide⟩ rfl (Nat.le_of_ble_eq_true rfl) (by decide) (by decide) ?_
  refine t_X12_isSheet (fun q => ?_) (fun q => ?_)
  · refine w_if_ne d_X12_lose_4 (fun _ => ?_) (fun h4 => absurd h4 (by decide))
    obtain ⟨j, rfl, hk_j, t_j, y_j⟩ := x_ex1 (s := k) (by omega)
    refine v_aload_n d_X12_lose_9 rfl ?_
    refine v_gr d_X12_lose_10 lf_X12_25_12 rfl (hS _ _ rfl) (hP _ _ _ rfl) ?_
    refine v_iload_n d_X12_lose_13 rfl ?_
    refine v_iald _ d_X12_lose_14 (rfl) (hS _ _ rfl) (⟨by omega, by omega⟩) (rfl) ?_
    refine v_bipush (v := (-9)) d_X12_lose_15 x_bp_m9 ?_
    refine w_icmp_ne d_X12_lose_17 (fun a17 => ?_) (fun a17 => ?_)
    · try simp (disch := omega) only [x_ti, x_tm1] at a17
      refine v_iconst (v := nI 1) d_X12_lose_24 x_ic_1 ?_
      refine v_istore_n (ls' := [_, _, _]) d_X12_lose_25 (by decide) rfl ?_
      refine v_aload_n d_X12_lose_26 rfl ?_
      refine v_gr d_X12_lose_27 lf_X12_25_12 rfl (hS _ _ rfl) (hP _ _ _ rfl) ?_
      refine v_iload_n d_X12_lose_30 rfl ?_
      refine v_bipush (v := (-9)) d_X12_lose_31 x_bp_m9 ?_
      refine v_iast _ d_X12_lose_33 (rfl) (hS _ _ rfl) (⟨by omega, by omega⟩) ?_
      refine v_iload_n d_X12_lose_34 rfl ?_
      refine v_ret (v := some (.int _)) d_X12_lose_35 rfl ⟨rfl, _, rfl, rfl⟩ (by decide) (by decide) ?_
      first
        | (have e0 : ¬ (¬ g_ey (nI j)) := by first | (unfold g_ey; omega) | omega
           have e1 : (I 45 j).toInt = -9 := by first | (unfold g_ey; omega) | omega
           simp only [q_lose, z_lose, x_if_f e0, x_if_t e1, y_j] at hK
           exact hK)
        | (have e0 : ¬ (¬ g_ey (nI j)) := by first | (unfold g_ey; omega) | omega
           have e1 : ¬ ((I 45 j).toInt = -9) := by first | (unfold g_ey; omega) | omega
           simp only [q_lose, z_lose, x_if_f e0, x_if_f e1, y_j] at hK
           exact hK)
    · try simp (disch := omega) only [x_ti, x_tm1] at a17
      refine v_iconst (v := nI 0) d_X12_lose_20 x_ic_0 ?_
      refine v_goto d_X12_lose_21 ?_
      refine v_istore_n (ls' := [_, _, _]) d_X12_lose_25 (by decide) rfl ?_
      refine v_aload_n d_X12_lose_26 rfl ?_
      refine v_gr d_X12_lose_27 lf_X12_25_12 rfl (hS _ _ rfl) (hP _ _ _ rfl) ?_
      refine v_iload_n d_X12_lose_30 rfl ?_
      refine v_bipush (v := (-9)) d_X12_lose_31 x_bp_m9 ?_
      refine v_iast _ d_X12_lose_33 (rfl) (hS _ _ rfl) (⟨by omega, by omega⟩) ?_
      refine v_iload_n d_X12_lose_34 rfl ?_
      refine v_ret (v := some (.int _)) d_X12_lose_35 rfl ⟨rfl, _, rfl, rfl⟩ (by decide) (by decide) ?_
      first
        | (have e0 : ¬ (¬ g_ey (nI j)) := by first | (unfold g_ey; omega) | omega
           have e1 : (I 45 j).toInt = -9 := by first | (unfold g_ey; omega) | omega
           simp only [q_lose, z_lose, x_if_f e0, x_if_t e1, y_j] at hK
           exact hK)
        | (have e0 : ¬ (¬ g_ey (nI j)) := by first | (unfold g_ey; omega) | omega
           have e1 : ¬ ((I 45 j).toInt = -9) := by first | (unfold g_ey; omega) | omega
           simp only [q_lose, z_lose, x_if_f e0, x_if_f e1, y_j] at hK
           exact hK)
  · refine w_if_ne d_X12_lose_4 (fun h4 => absurd h4 (by decide)) (fun _ => ?_)
    refine v_iconst (v := (-1)) d_X12_lose_7 x_ic_m1 ?_
    refine v_ret (v := some (.int _)) d_X12_lose_8 rfl ⟨rfl, _, rfl, rfl⟩ (by decide) (by decide) ?_
    have e0 : ¬ g_ey k := by first | (unfold g_ey; omega) | omega
    simp only [q_lose, z_lose, x_if_t e0] at hK
    exact hK

set_option maxRecDepth 100000 in
set_option maxHeartbeats 4000000 in
theorem t_X12_put {K : x_K} {S : x_S} {P : x_P} {I : x_I} {J : x_J} {n : Nat} {k i v : Int32} (hlo : ∀ k, k < 4 → 0 ≤ (I 46 k).toInt ∧ (I 46 k).toInt ≤ 64) (hS : x_hS S) (hP : x_hP P) (hK : K (some (.int (q_put I k i v))) S P (z_put I k i v) J n) : x_Call f_X12_put [.ref 39, .int k, .int i, .int v] K S P I J n := by
  have t9 : (-9 : Int32).toInt = -9 := by decide
  have t1 : (nI 1).toInt = 1 := by decide
  refine x_intro (by decide) 0 (ls := [_, _, _, _]) rfl (Nat.le_of_ble_eq_true rfl) ?_
  refine v_aload_n d_X12_put_0 rfl ?_
  refine v_iconst (v := nI 0) d_X12_put_1 x_ic_0 ?_
  refine v_pi d_X12_put_2 (lp_X12_85_12 _) rfl (hS _ _ rfl) (rfl) rfl ?_
  refine v_iload_n d_X12_put_5 rfl ?_
  refine v_cs (as := [_]) (rest := []) d_X12_put_6 ls_X12_132 rfl ⟨by decide, by decide⟩ rfl (Nat.le_of_ble_eq_true rfl) (by decide) (by decide) ?_
  refine t_X12_isSheet (fun q => ?_) (fun q => ?_)
  · refine w_if_ne d_X12_put_9 (fun _ => ?_) (fun h9 => absurd h9 (by decide))
    obtain ⟨j, rfl, hk_j, t_j, y_j⟩ := x_ex1 (s := k) (by omega)
    refine v_aload_n d_X12_put_14 rfl ?_
    refine v_gr d_X12_put_15 lf_X12_25_12 rfl (hS _ _ rfl) (hP _ _ _ rfl) ?_
    refine v_iload_n d_X12_put_18 rfl ?_
    refine v_iald (v := I 45 j) _ d_X12_put_19 (rfl) (hS _ _ rfl) (⟨by omega, by omega⟩) (rfl) ?_
    refine v_bipush (v := (-9)) d_X12_put_20 x_bp_m9 ?_
    refine w_icmp_ne d_X12_put_22 (fun a22 => ?_) (fun a22 => ?_)
    · try simp (disch := omega) only [x_ti, x_tm1] at a22
      refine v_iload_n d_X12_put_31 rfl ?_
      refine v_iconst (v := nI 0) d_X12_put_32 x_ic_0 ?_
      refine v_aload_n d_X12_put_33 rfl ?_
      refine v_gr d_X12_put_34 lf_X12_28_12 rfl (hS _ _ rfl) (hP _ _ _ rfl) ?_
      refine v_iload_n d_X12_put_37 rfl ?_
      refine v_iald (v := I 46 j) _ d_X12_put_38 (rfl) (hS _ _ rfl) (⟨by omega, by omega⟩) (rfl) ?_
      refine v_iconst (v := nI 1) d_X12_put_39 x_ic_1 ?_
      refine v_isub d_X12_put_40 ?_
      refine v_cs (as := [_, _, _]) (rest := []) d_X12_put_41 ls_X12_90 rfl ⟨by decide, by decide⟩ rfl (Nat.le_of_ble_eq_true rfl) (by decide) (by decide) ?_
      refine t_X12_within (b := (I 46 j).toInt - 1) (x_ti (k := 0) (by decide)) (by have := hlo j (by omega); rw [x_sub (by omega) (by omega)]; omega) (fun q3 => ?_) (fun q3 => ?_)
      · refine w_if_ne d_X12_put_44 (fun _ => ?_) (fun h44 => absurd h44 (by decide))
        have hlj := hlo j (by omega)
        obtain ⟨r, rfl, hk_r, t_r, y_r⟩ := x_ex1 (s := i) (by omega)
        refine v_aload_n d_X12_put_53 rfl ?_
        refine v_gr d_X12_put_54 lf_X12_31_12 rfl (hS _ _ rfl) (hP _ _ _ rfl) ?_
        refine v_bipush (v := nI 64) d_X12_put_57 x_bp_64 ?_
        refine v_iload_n d_X12_put_59 rfl ?_
        first | refine v_imulN d_X12_put_60 ?_ | refine v_imul d_X12_put_60 ?_
        refine v_iload_n d_X12_put_61 rfl ?_
        first | refine v_iaddN d_X12_put_62 ?_ | refine v_iadd d_X12_put_62 ?_
        refine v_aload_n d_X12_put_63 rfl ?_
        refine v_gr d_X12_put_64 lf_X12_25_12 rfl (hS _ _ rfl) (hP _ _ _ rfl) ?_
        refine v_iload_n d_X12_put_67 rfl ?_
        refine v_iald (v := I 45 j) _ d_X12_put_68 (rfl) (hS _ _ rfl) (⟨by omega, by omega⟩) (rfl) ?_
        
        refine w_if_ne d_X12_put_69 (fun a69 => ?_) (fun a69 => ?_)
        · try simp (disch := omega) only [x_ti, x_tm1] at a69
          refine v_aload_n d_X12_put_77 rfl ?_
          refine v_gr d_X12_put_78 lf_X12_25_12 rfl (hS _ _ rfl) (hP _ _ _ rfl) ?_
          refine v_iload_n d_X12_put_81 rfl ?_
          refine v_iald (v := I 45 j) _ d_X12_put_82 (rfl) (hS _ _ rfl) (⟨by omega, by omega⟩) (rfl) ?_
          refine v_iconst (v := nI 1) d_X12_put_83 x_ic_1 ?_
          refine w_icmp_ne d_X12_put_84 (fun a84 => ?_) (fun a84 => ?_)
          · try simp (disch := omega) only [x_ti, x_tm1] at a84
            refine v_iload_n d_X12_put_92 rfl ?_
            refine v_iast _ d_X12_put_93 (rfl) (hS _ _ rfl) (⟨by omega, by omega⟩) ?_
            refine v_iconst (v := nI 1) d_X12_put_94 x_ic_1 ?_
            refine v_ret (v := some (.int _)) d_X12_put_95 rfl ⟨rfl, _, rfl, rfl⟩ (by decide) (by decide) ?_
            have ea : ¬ (¬ g_ey (nI j)) := by unfold g_ey; omega
            have eb : ¬ (I 45 j).toInt = -9 := a22
            have ec : ¬ (¬ (0 ≤ (nI r).toInt ∧ (nI r).toInt < (I 46 j).toInt)) := by omega
            first
              | (have ed : (I 45 j).toInt = 0 := a69
                 simp only [q_put, z_put, q_cut, x_if_f ea, y_j, y_r, x_if_f eb, x_if_f ec, x_if_t ed] at hK
                 exact hK)
              | (have ed : ¬ (I 45 j).toInt = 0 := a69
                 have ee : (I 45 j).toInt = 1 := a84
                 simp only [q_put, z_put, q_cut, x_if_f ea, y_j, y_r, x_if_f eb, x_if_f ec, x_if_f ed, x_if_t ee] at hK
                 exact hK)
              | (have ed : ¬ (I 45 j).toInt = 0 := a69
                 have ee : ¬ (I 45 j).toInt = 1 := a84
                 simp only [q_put, z_put, q_cut, x_if_f ea, y_j, y_r, x_if_f eb, x_if_f ec, x_if_f ed, x_if_f ee] at hK
                 exact hK)
          · try simp (disch := omega) only [x_ti, x_tm1] at a84
            refine v_iload_n d_X12_put_87 rfl ?_
            refine v_i2s d_X12_put_88 ?_
            refine v_goto d_X12_put_89 ?_
            refine v_iast _ d_X12_put_93 (rfl) (hS _ _ rfl) (⟨by omega, by omega⟩) ?_
            refine v_iconst (v := nI 1) d_X12_put_94 x_ic_1 ?_
            refine v_ret (v := some (.int _)) d_X12_put_95 rfl ⟨rfl, _, rfl, rfl⟩ (by decide) (by decide) ?_
            have ea : ¬ (¬ g_ey (nI j)) := by unfold g_ey; omega
            have eb : ¬ (I 45 j).toInt = -9 := a22
            have ec : ¬ (¬ (0 ≤ (nI r).toInt ∧ (nI r).toInt < (I 46 j).toInt)) := by omega
            first
              | (have ed : (I 45 j).toInt = 0 := a69
                 simp only [q_put, z_put, q_cut, x_if_f ea, y_j, y_r, x_if_f eb, x_if_f ec, x_if_t ed] at hK
                 exact hK)
              | (have ed : ¬ (I 45 j).toInt = 0 := a69
                 have ee : (I 45 j).toInt = 1 := a84
                 simp only [q_put, z_put, q_cut, x_if_f ea, y_j, y_r, x_if_f eb, x_if_f ec, x_if_f ed, x_if_t ee] at hK
                 exact hK)
              | (have ed : ¬ (I 45 j).toInt = 0 := a69
                 have ee : ¬ (I 45 j).toInt = 1 := a84
                 simp only [q_put, z_put, q_cut, x_if_f ea, y_j, y_r, x_if_f eb, x_if_f ec, x_if_f ed, x_if_f ee] at hK
                 exact hK)
        · try simp (disch := omega) only [x_ti, x_tm1] at a69
          refine v_iload_n d_X12_put_72 rfl ?_
          refine v_i2b d_X12_put_73 ?_
          refine v_goto d_X12_put_74 ?_
          refine v_iast _ d_X12_put_93 (rfl) (hS _ _ rfl) (⟨by omega, by omega⟩) ?_
          refine v_iconst (v := nI 1) d_X12_put_94 x_ic_1 ?_
          refine v_ret (v := some (.int _)) d_X12_put_95 rfl ⟨rfl, _, rfl, rfl⟩ (by decide) (by decide) ?_
          have ea : ¬ (¬ g_ey (nI j)) := by unfold g_ey; omega
          have eb : ¬ (I 45 j).toInt = -9 := a22
          have ec : ¬ (¬ (0 ≤ (nI r).toInt ∧ (nI r).toInt < (I 46 j).toInt)) := by omega
          first
            | (have ed : (I 45 j).toInt = 0 := a69
               simp only [q_put, z_put, q_cut, x_if_f ea, y_j, y_r, x_if_f eb, x_if_f ec, x_if_t ed] at hK
               exact hK)
            | (have ed : ¬ (I 45 j).toInt = 0 := a69
               have ee : (I 45 j).toInt = 1 := a84
               simp only [q_put, z_put, q_cut, x_if_f ea, y_j, y_r, x_if_f eb, x_if_f ec, x_if_f ed, x_if_t ee] at hK
               exact hK)
            | (have ed : ¬ (I 45 j).toInt = 0 := a69
               have ee : ¬ (I 45 j).toInt = 1 := a84
               simp only [q_put, z_put, q_cut, x_if_f ea, y_j, y_r, x_if_f eb, x_if_f ec, x_if_f ed, x_if_f ee] at hK
               exact hK)
      · refine w_if_ne d_X12_put_44 (fun h44 => absurd h44 (by decide)) (fun _ => ?_)
        refine v_aload_n d_X12_put_47 rfl ?_
        refine v_iconst (v := nI 3) d_X12_put_48 x_ic_3 ?_
        refine v_cv (as := [_]) (rest := []) d_X12_put_49 lv_X12_129_12 (hS _ _ rfl) rfl ⟨by decide, by decide⟩ rfl (Nat.le_of_ble_eq_true rfl) (by decide) (by decide) ?_
        refine t_X12_fails hS hP ?_
        refine v_ret (v := some (.int _)) d_X12_put_52 rfl ⟨rfl, _, rfl, rfl⟩ (by decide) (by decide) ?_
        have e0 : ¬ (¬ g_ey (nI j)) := by first | (unfold g_ey; omega) | omega
        have e1 : ¬ ((I 45 j).toInt = -9) := by first | (unfold g_ey; omega) | omega
        have e2 : ¬ (0 ≤ i.toInt ∧ i.toInt < (I 46 j).toInt) := by first | (unfold g_ey; omega) | omega
        simp only [q_put, z_put, x_if_f e0, x_if_f e1, x_if_t e2, y_j] at hK
        exact hK
    · try simp (disch := omega) only [x_ti, x_tm1] at a22
      refine v_aload_n d_X12_put_25 rfl ?_
      refine v_iconst (v := nI 1) d_X12_put_26 x_ic_1 ?_
      refine v_cv (as := [_]) (rest := []) d_X12_put_27 lv_X12_129_12 (hS _ _ rfl) rfl ⟨by decide, by decide⟩ rfl (Nat.le_of_ble_eq_true rfl) (by decide) (by decide) ?_
      refine t_X12_fails hS hP ?_
      refine v_ret (v := some (.int _)) d_X12_put_30 rfl ⟨rfl, _, rfl, rfl⟩ (by decide) (by decide) ?_
      have e0 : ¬ (¬ g_ey (nI j)) := by first | (unfold g_ey; omega) | omega
      have e1 : (I 45 j).toInt = -9 := by first | (unfold g_ey; omega) | omega
      simp only [q_put, z_put, x_if_f e0, x_if_t e1, y_j] at hK
      exact hK
  · refine w_if_ne d_X12_put_9 (fun h9 => absurd h9 (by decide)) (fun _ => ?_)
    refine v_iconst (v := (-1)) d_X12_put_12 x_ic_m1 ?_
    refine v_ret (v := some (.int _)) d_X12_put_13 rfl ⟨rfl, _, rfl, rfl⟩ (by decide) (by decide) ?_
    have e0 : ¬ g_ey k := by first | (unfold g_ey; omega) | omega
    simp only [q_put, z_put, x_if_t e0] at hK
    exact hK

set_option maxRecDepth 100000 in
set_option maxHeartbeats 4000000 in
theorem t_X12_at {K : x_K} {S : x_S} {P : x_P} {I : x_I} {J : x_J} {n : Nat} {k i lane : Int32} (hlo : ∀ k, k < 4 → 0 ≤ (I 46 k).toInt ∧ (I 46 k).toInt ≤ 64) (hS : x_hS S) (hP : x_hP P) (hK : K (some (.long (q_at I k i lane))) S P (z_at I k i lane) J n) : x_Call f_X12_at [.ref 39, .int k, .int i, .int lane] K S P I J n := by
  have t9 : (-9 : Int32).toInt = -9 := by decide
  have t1 : (nI 1).toInt = 1 := by decide
  refine x_intro (by decide) 0 (ls := [_, _, _, _]) rfl (Nat.le_of_ble_eq_true rfl) ?_
  refine v_aload_n d_X12_at_0 rfl ?_
  refine v_iconst (v := nI 0) d_X12_at_1 x_ic_0 ?_
  refine v_pi d_X12_at_2 (lp_X12_85_12 _) rfl (hS _ _ rfl) (rfl) rfl ?_
  refine v_iload_n d_X12_at_5 rfl ?_
  refine v_cs (as := [_]) (rest := []) d_X12_at_6 ls_X12_132 rfl ⟨by decide, by decide⟩ rfl (Nat.le_of_ble_eq_true rfl) (by decide) (by decide) ?_
  refine t_X12_isSheet (fun q => ?_) (fun q => ?_)
  · refine w_if_eq d_X12_at_9 (fun h9 => absurd h9 (by decide)) (fun _ => ?_)
    refine v_iload_n d_X12_at_12 rfl ?_
    refine v_cs (as := [_]) (rest := []) d_X12_at_13 ls_X12_135 rfl ⟨by decide, by decide⟩ rfl (Nat.le_of_ble_eq_true rfl) (by decide) (by decide) ?_
    refine t_X12_isLane (fun q2 => ?_) (fun q2 => ?_)
    · refine w_if_ne d_X12_at_16 (fun _ => ?_) (fun h16 => absurd h16 (by decide))
      obtain ⟨j, rfl, hk_j, t_j, y_j⟩ := x_ex1 (s := k) (by omega)
      refine v_aload_n d_X12_at_23 rfl ?_
      refine v_gr d_X12_at_24 lf_X12_25_12 rfl (hS _ _ rfl) (hP _ _ _ rfl) ?_
      refine v_iload_n d_X12_at_27 rfl ?_
      refine v_iald (v := I 45 j) _ d_X12_at_28 (rfl) (hS _ _ rfl) (⟨by omega, by omega⟩) (rfl) ?_
      refine v_bipush (v := (-9)) d_X12_at_29 x_bp_m9 ?_
      refine w_icmp_eq d_X12_at_31 (fun a31 => ?_) (fun a31 => ?_)
      · try simp (disch := omega) only [x_ti, x_tm1] at a31
        refine v_aload_n d_X12_at_50 rfl ?_
        refine v_gr d_X12_at_51 lf_X12_25_12 rfl (hS _ _ rfl) (hP _ _ _ rfl) ?_
        refine v_iload_n d_X12_at_54 rfl ?_
        refine v_iald (v := I 45 j) _ d_X12_at_55 (rfl) (hS _ _ rfl) (⟨by omega, by omega⟩) (rfl) ?_
        refine v_bipush (v := (-9)) d_X12_at_56 x_bp_m9 ?_
        refine w_icmp_ne d_X12_at_58 (fun a58 => ?_) (fun a58 => ?_)
        · try simp (disch := omega) only [x_ti, x_tm1] at a58
          refine v_iload_n d_X12_at_67 rfl ?_
          refine v_iconst (v := nI 0) d_X12_at_68 x_ic_0 ?_
          refine v_aload_n d_X12_at_69 rfl ?_
          refine v_gr d_X12_at_70 lf_X12_28_12 rfl (hS _ _ rfl) (hP _ _ _ rfl) ?_
          refine v_iload_n d_X12_at_73 rfl ?_
          refine v_iald (v := I 46 j) _ d_X12_at_74 (rfl) (hS _ _ rfl) (⟨by omega, by omega⟩) (rfl) ?_
          refine v_iconst (v := nI 1) d_X12_at_75 x_ic_1 ?_
          refine v_isub d_X12_at_76 ?_
          refine v_cs (as := [_, _, _]) (rest := []) d_X12_at_77 ls_X12_90 rfl ⟨by decide, by decide⟩ rfl (Nat.le_of_ble_eq_true rfl) (by decide) (by decide) ?_
          refine t_X12_within (b := (I 46 j).toInt - 1) (x_ti (k := 0) (by decide)) (by have := hlo j (by omega); rw [x_sub (by omega) (by omega)]; omega) (fun q3 => ?_) (fun q3 => ?_)
          · refine w_if_ne d_X12_at_80 (fun _ => ?_) (fun h80 => absurd h80 (by decide))
            have hlj := hlo j (by omega)
            obtain ⟨r, rfl, hk_r, t_r, y_r⟩ := x_ex1 (s := i) (by omega)
            refine v_aload_n d_X12_at_89 rfl ?_
            refine v_gr d_X12_at_90 lf_X12_31_12 rfl (hS _ _ rfl) (hP _ _ _ rfl) ?_
            refine v_bipush (v := nI 64) d_X12_at_93 x_bp_64 ?_
            refine v_iload_n d_X12_at_95 rfl ?_
            first | refine v_imulN d_X12_at_96 ?_ | refine v_imul d_X12_at_96 ?_
            refine v_iload_n d_X12_at_97 rfl ?_
            first | refine v_iaddN d_X12_at_98 ?_ | refine v_iadd d_X12_at_98 ?_
            refine v_iald (v := I 47 (64 * j + r)) _ d_X12_at_99 (rfl) (hS _ _ rfl) (⟨by omega, by omega⟩) (rfl) ?_
            refine v_i2l d_X12_at_100 ?_
            refine v_ret (v := some (.long _)) d_X12_at_101 rfl ⟨rfl, rfl⟩ (by decide) (by decide) ?_
            have ea : ¬ (¬ (g_ey (nI j) ∧ 0 ≤ lane.toInt ∧ lane.toInt ≤ 2)) := by unfold g_ey; omega
            have eg : m_ag (I 45 j).toInt (I 46 j).toInt lane.toInt (nI r).toInt 1 1 = 0 := by rw [m_ag, if_neg (by omega), if_neg (by omega), if_neg (by omega), if_neg (by omega)]
            have eb : ¬ (¬ m_ag (I 45 j).toInt (I 46 j).toInt lane.toInt (nI r).toInt 1 1 = 0) := fun z => z eg
            simp only [q_at, z_at, x_if_f ea, y_j, y_r, x_if_f eb] at hK
            exact hK
          · refine w_if_ne d_X12_at_80 (fun h80 => absurd h80 (by decide)) (fun _ => ?_)
            refine v_aload_n d_X12_at_83 rfl ?_
            refine v_iconst (v := nI 3) d_X12_at_84 x_ic_3 ?_
            refine v_cv (as := [_]) (rest := []) d_X12_at_85 lv_X12_269_12 (hS _ _ rfl) rfl ⟨by decide, by decide⟩ rfl (Nat.le_of_ble_eq_true rfl) (by decide) (by decide) ?_
            refine t_X12_lost hS hP ?_
            refine v_ret (v := some (.long _)) d_X12_at_88 rfl ⟨rfl, rfl⟩ (by decide) (by decide) ?_
            have ea : ¬ (¬ (g_ey (nI j) ∧ 0 ≤ lane.toInt ∧ lane.toInt ≤ 2)) := by unfold g_ey; omega
            have hlj := hlo j (by omega)
            have eg : m_ag (I 45 j).toInt (I 46 j).toInt lane.toInt i.toInt 1 1 = 3 := by rw [m_ag, if_neg (by omega), if_neg (by omega), if_neg (by omega), if_pos (by omega)]
            have eb : ¬ m_ag (I 45 j).toInt (I 46 j).toInt lane.toInt i.toInt 1 1 = 0 := by rw [eg]; decide
            simp only [q_at, z_at, x_if_f ea, y_j, x_if_t eb] at hK
            rw [eg] at hK
            exact hK
        · try simp (disch := omega) only [x_ti, x_tm1] at a58
          refine v_aload_n d_X12_at_61 rfl ?_
          refine v_iconst (v := nI 1) d_X12_at_62 x_ic_1 ?_
          refine v_cv (as := [_]) (rest := []) d_X12_at_63 lv_X12_269_12 (hS _ _ rfl) rfl ⟨by decide, by decide⟩ rfl (Nat.le_of_ble_eq_true rfl) (by decide) (by decide) ?_
          refine t_X12_lost hS hP ?_
          refine v_ret (v := some (.long _)) d_X12_at_66 rfl ⟨rfl, rfl⟩ (by decide) (by decide) ?_
          have ea : ¬ (¬ (g_ey (nI j) ∧ 0 ≤ lane.toInt ∧ lane.toInt ≤ 2)) := by unfold g_ey; omega
          have hlj := hlo j (by omega)
          have eg : m_ag (I 45 j).toInt (I 46 j).toInt lane.toInt i.toInt 1 1 = 1 := by rw [m_ag, if_neg (by omega), if_pos (by omega)]
          have eb : ¬ m_ag (I 45 j).toInt (I 46 j).toInt lane.toInt i.toInt 1 1 = 0 := by rw [eg]; decide
          simp only [q_at, z_at, x_if_f ea, y_j, x_if_t eb] at hK
          rw [eg] at hK
          exact hK
      · try simp (disch := omega) only [x_ti, x_tm1] at a31
        refine v_aload_n d_X12_at_34 rfl ?_
        refine v_gr d_X12_at_35 lf_X12_25_12 rfl (hS _ _ rfl) (hP _ _ _ rfl) ?_
        refine v_iload_n d_X12_at_38 rfl ?_
        refine v_iald (v := I 45 j) _ d_X12_at_39 (rfl) (hS _ _ rfl) (⟨by omega, by omega⟩) (rfl) ?_
        refine v_iload_n d_X12_at_40 rfl ?_
        refine w_icmp_eq d_X12_at_41 (fun a41 => ?_) (fun a41 => ?_)
        · try simp (disch := omega) only [x_ti, x_tm1] at a41
          refine v_aload_n d_X12_at_50 rfl ?_
          refine v_gr d_X12_at_51 lf_X12_25_12 rfl (hS _ _ rfl) (hP _ _ _ rfl) ?_
          refine v_iload_n d_X12_at_54 rfl ?_
          refine v_iald (v := I 45 j) _ d_X12_at_55 (rfl) (hS _ _ rfl) (⟨by omega, by omega⟩) (rfl) ?_
          refine v_bipush (v := (-9)) d_X12_at_56 x_bp_m9 ?_
          refine w_icmp_ne d_X12_at_58 (fun a58 => ?_) (fun a58 => ?_)
          · try simp (disch := omega) only [x_ti, x_tm1] at a58
            refine v_iload_n d_X12_at_67 rfl ?_
            refine v_iconst (v := nI 0) d_X12_at_68 x_ic_0 ?_
            refine v_aload_n d_X12_at_69 rfl ?_
            refine v_gr d_X12_at_70 lf_X12_28_12 rfl (hS _ _ rfl) (hP _ _ _ rfl) ?_
            refine v_iload_n d_X12_at_73 rfl ?_
            refine v_iald (v := I 46 j) _ d_X12_at_74 (rfl) (hS _ _ rfl) (⟨by omega, by omega⟩) (rfl) ?_
            refine v_iconst (v := nI 1) d_X12_at_75 x_ic_1 ?_
            refine v_isub d_X12_at_76 ?_
            refine v_cs (as := [_, _, _]) (rest := []) d_X12_at_77 ls_X12_90 rfl ⟨by decide, by decide⟩ rfl (Nat.le_of_ble_eq_true rfl) (by decide) (by decide) ?_
            refine t_X12_within (b := (I 46 j).toInt - 1) (x_ti (k := 0) (by decide)) (by have := hlo j (by omega); rw [x_sub (by omega) (by omega)]; omega) (fun q3 => ?_) (fun q3 => ?_)
            · refine w_if_ne d_X12_at_80 (fun _ => ?_) (fun h80 => absurd h80 (by decide))
              have hlj := hlo j (by omega)
              obtain ⟨r, rfl, hk_r, t_r, y_r⟩ := x_ex1 (s := i) (by omega)
              refine v_aload_n d_X12_at_89 rfl ?_
              refine v_gr d_X12_at_90 lf_X12_31_12 rfl (hS _ _ rfl) (hP _ _ _ rfl) ?_
              refine v_bipush (v := nI 64) d_X12_at_93 x_bp_64 ?_
              refine v_iload_n d_X12_at_95 rfl ?_
              first | refine v_imulN d_X12_at_96 ?_ | refine v_imul d_X12_at_96 ?_
              refine v_iload_n d_X12_at_97 rfl ?_
              first | refine v_iaddN d_X12_at_98 ?_ | refine v_iadd d_X12_at_98 ?_
              refine v_iald (v := I 47 (64 * j + r)) _ d_X12_at_99 (rfl) (hS _ _ rfl) (⟨by omega, by omega⟩) (rfl) ?_
              refine v_i2l d_X12_at_100 ?_
              refine v_ret (v := some (.long _)) d_X12_at_101 rfl ⟨rfl, rfl⟩ (by decide) (by decide) ?_
              have ea : ¬ (¬ (g_ey (nI j) ∧ 0 ≤ lane.toInt ∧ lane.toInt ≤ 2)) := by unfold g_ey; omega
              have eg : m_ag (I 45 j).toInt (I 46 j).toInt lane.toInt (nI r).toInt 1 1 = 0 := by rw [m_ag, if_neg (by omega), if_neg (by omega), if_neg (by omega), if_neg (by omega)]
              have eb : ¬ (¬ m_ag (I 45 j).toInt (I 46 j).toInt lane.toInt (nI r).toInt 1 1 = 0) := fun z => z eg
              simp only [q_at, z_at, x_if_f ea, y_j, y_r, x_if_f eb] at hK
              exact hK
            · refine w_if_ne d_X12_at_80 (fun h80 => absurd h80 (by decide)) (fun _ => ?_)
              refine v_aload_n d_X12_at_83 rfl ?_
              refine v_iconst (v := nI 3) d_X12_at_84 x_ic_3 ?_
              refine v_cv (as := [_]) (rest := []) d_X12_at_85 lv_X12_269_12 (hS _ _ rfl) rfl ⟨by decide, by decide⟩ rfl (Nat.le_of_ble_eq_true rfl) (by decide) (by decide) ?_
              refine t_X12_lost hS hP ?_
              refine v_ret (v := some (.long _)) d_X12_at_88 rfl ⟨rfl, rfl⟩ (by decide) (by decide) ?_
              have ea : ¬ (¬ (g_ey (nI j) ∧ 0 ≤ lane.toInt ∧ lane.toInt ≤ 2)) := by unfold g_ey; omega
              have hlj := hlo j (by omega)
              have eg : m_ag (I 45 j).toInt (I 46 j).toInt lane.toInt i.toInt 1 1 = 3 := by rw [m_ag, if_neg (by omega), if_neg (by omega), if_neg (by omega), if_pos (by omega)]
              have eb : ¬ m_ag (I 45 j).toInt (I 46 j).toInt lane.toInt i.toInt 1 1 = 0 := by rw [eg]; decide
              simp only [q_at, z_at, x_if_f ea, y_j, x_if_t eb] at hK
              rw [eg] at hK
              exact hK
          · try simp (disch := omega) only [x_ti, x_tm1] at a58
            refine v_aload_n d_X12_at_61 rfl ?_
            refine v_iconst (v := nI 1) d_X12_at_62 x_ic_1 ?_
            refine v_cv (as := [_]) (rest := []) d_X12_at_63 lv_X12_269_12 (hS _ _ rfl) rfl ⟨by decide, by decide⟩ rfl (Nat.le_of_ble_eq_true rfl) (by decide) (by decide) ?_
            refine t_X12_lost hS hP ?_
            refine v_ret (v := some (.long _)) d_X12_at_66 rfl ⟨rfl, rfl⟩ (by decide) (by decide) ?_
            have ea : ¬ (¬ (g_ey (nI j) ∧ 0 ≤ lane.toInt ∧ lane.toInt ≤ 2)) := by unfold g_ey; omega
            have hlj := hlo j (by omega)
            have eg : m_ag (I 45 j).toInt (I 46 j).toInt lane.toInt i.toInt 1 1 = 1 := by rw [m_ag, if_neg (by omega), if_pos (by omega)]
            have eb : ¬ m_ag (I 45 j).toInt (I 46 j).toInt lane.toInt i.toInt 1 1 = 0 := by rw [eg]; decide
            simp only [q_at, z_at, x_if_f ea, y_j, x_if_t eb] at hK
            rw [eg] at hK
            exact hK
        · try simp (disch := omega) only [x_ti, x_tm1] at a41
          refine v_aload_n d_X12_at_44 rfl ?_
          refine v_iconst (v := nI 2) d_X12_at_45 x_ic_2 ?_
          refine v_cv (as := [_]) (rest := []) d_X12_at_46 lv_X12_269_12 (hS _ _ rfl) rfl ⟨by decide, by decide⟩ rfl (Nat.le_of_ble_eq_true rfl) (by decide) (by decide) ?_
          refine t_X12_lost hS hP ?_
          refine v_ret (v := some (.long _)) d_X12_at_49 rfl ⟨rfl, rfl⟩ (by decide) (by decide) ?_
          have ea : ¬ (¬ (g_ey (nI j) ∧ 0 ≤ lane.toInt ∧ lane.toInt ≤ 2)) := by unfold g_ey; omega
          have hlj := hlo j (by omega)
          have eg : m_ag (I 45 j).toInt (I 46 j).toInt lane.toInt i.toInt 1 1 = 2 := by rw [m_ag, if_pos (by omega)]
          have eb : ¬ m_ag (I 45 j).toInt (I 46 j).toInt lane.toInt i.toInt 1 1 = 0 := by rw [eg]; decide
          simp only [q_at, z_at, x_if_f ea, y_j, x_if_t eb] at hK
          rw [eg] at hK
          exact hK
    · refine w_if_ne d_X12_at_16 (fun h16 => absurd h16 (by decide)) (fun _ => ?_)
      refine v_ldc2 d_X12_at_19 lk_X12_88 ?_
      refine v_ret (v := some (.long _)) d_X12_at_22 rfl ⟨rfl, rfl⟩ (by decide) (by decide) ?_
      have ea : ¬ (g_ey k ∧ 0 ≤ lane.toInt ∧ lane.toInt ≤ 2) := by unfold g_ey; omega
      simp only [q_at, z_at, x_if_t ea] at hK
      exact hK
  · refine w_if_eq d_X12_at_9 (fun _ => ?_) (fun h9 => absurd h9 (by decide))
    refine v_ldc2 d_X12_at_19 lk_X12_88 ?_
    refine v_ret (v := some (.long _)) d_X12_at_22 rfl ⟨rfl, rfl⟩ (by decide) (by decide) ?_
    have ea : ¬ (g_ey k ∧ 0 ≤ lane.toInt ∧ lane.toInt ≤ 2) := by unfold g_ey; omega
    simp only [q_at, z_at, x_if_t ea] at hK
    exact hK

