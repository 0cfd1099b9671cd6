theorem x_uu {α : Type} (f : Nat → Nat → α) (a k : Nat) (v w : α) : x_u2 (x_u2 f a k v) a k w = x_u2 f a k w := by
  funext b j; simp only [x_u2_at]; split <;> rfl
theorem x_uid {α : Type} (f : Nat → Nat → α) (a k : Nat) : x_u2 f a k (f a k) = f := by
  funext b j; rw [x_u2_at]; split
  · rename_i h; rw [h.1, h.2]
  · rfl
set_option maxRecDepth 100000 in
set_option maxHeartbeats 4000000 in
theorem t_X12_trace {K : x_K} {S : x_S} {P : x_P} {I : x_I} {J : x_J} {n : Nat} (hS : x_hS S) (hP : x_hP P) (hK : K (some (.int (I 39 1))) S P I J n) : x_Call f_X12_trace [.ref 39] K S P I J n := by
  refine x_intro (by decide) 0 (ls := [_]) rfl (Nat.le_of_ble_eq_true rfl) ?_
  refine v_aload_n d_X12_trace_0 rfl ?_
  refine v_gi d_X12_trace_1 lf_X12_272_12 rfl (hS _ _ rfl) ?_
  refine v_ret (v := some (.int _)) d_X12_trace_4 rfl ⟨rfl, _, rfl, rfl⟩ (by decide) (by decide) ?_
  exact hK

set_option maxRecDepth 100000 in
set_option maxHeartbeats 4000000 in
theorem t_X12_fault {K : x_K} {S : x_S} {P : x_P} {I : x_I} {J : x_J} {n : Nat} (hS : x_hS S) (hP : x_hP P) (hK : K (some (.int (I 39 0))) S P I J n) : x_Call f_X12_fault [.ref 39] K S P I J n := by
  refine x_intro (by decide) 0 (ls := [_]) rfl (Nat.le_of_ble_eq_true rfl) ?_
  refine v_aload_n d_X12_fault_0 rfl ?_
  refine v_gi d_X12_fault_1 lf_X12_85_12 rfl (hS _ _ rfl) ?_
  refine v_ret (v := some (.int _)) d_X12_fault_4 rfl ⟨rfl, _, rfl, rfl⟩ (by decide) (by decide) ?_
  exact hK

set_option maxRecDepth 100000 in
set_option maxHeartbeats 4000000 in
theorem t_X12_name {K : x_K} {S : x_S} {P : x_P} {I : x_I} {J : x_J} {n : Nat} {s : Int32} (hn : 0 ≤ (I 39 2).toInt ∧ (I 39 2).toInt ≤ 10) (hfo : ∀ s, s < m_ns I → m_fo I s) (hS : x_hS S) (hP : x_hP P) (hK : K (some (.int (q_name I s))) S P (x_u2 I 39 1 (q_nmt I s)) J n) (h0 : x_u2 I 39 1 (I 39 1) = I) : x_Call f_X12_name [.ref 39, .int s] K S P I J n := by
  have hns : m_ns I = (I 39 2).toInt.toNat := rfl
  have t2 : (nI 2).toInt = 2 := by decide
  refine x_intro (by decide) 0 (ls := [_, _]) rfl (Nat.le_of_ble_eq_true rfl) ?_
  refine v_aload_n d_X12_name_0 rfl ?_
  refine v_iload_n d_X12_name_1 rfl ?_
  refine v_cv (as := [_]) (rest := []) d_X12_name_2 lv_X12_97_12 (hS _ _ rfl) rfl ⟨by decide, by decide⟩ rfl (Nat.le_of_ble_eq_true rfl) (by decide) (by decide) ?_
  refine t_X12_isSurface hS hP (fun q => ?_) (fun q => ?_)
  · refine w_if_ne d_X12_name_5 (fun _ => ?_) (fun h5 => absurd h5 (by decide))
    obtain ⟨k, rfl, hk_k, t_k, y_k⟩ := x_ex1 (s := s) (by omega)
    refine v_aload_n d_X12_name_10 rfl ?_
    refine v_aload_n d_X12_name_11 rfl ?_
    refine v_gr d_X12_name_12 lf_X12_7_12 rfl (hS _ _ rfl) (hP _ _ _ rfl) ?_
    refine v_iload_n d_X12_name_15 rfl ?_
    refine v_iald _ d_X12_name_16 (rfl) (hS _ _ rfl) (⟨by omega, by omega⟩) (rfl) ?_
    refine v_iconst (v := nI 2) d_X12_name_17 x_ic_2 ?_
    refine w_icmp_ne d_X12_name_18 (fun a18 => ?_) (fun a18 => ?_)
    · try simp (disch := omega) only [x_ti, x_tm1] at a18
      refine v_iconst (v := nI 4) d_X12_name_25 x_ic_4 ?_
      refine v_cv (as := [_]) (rest := []) d_X12_name_26 lv_X12_275_12 (hS _ _ rfl) rfl ⟨by decide, by decide⟩ rfl (Nat.le_of_ble_eq_true rfl) (by decide) (by decide) ?_
      refine t_X12_begins hS hP ?_
      refine v_aload_n d_X12_name_29 rfl ?_
      refine v_gr d_X12_name_30 lf_X12_7_12 rfl (hS _ _ rfl) (hP _ _ _ rfl) ?_
      refine v_iload_n d_X12_name_33 rfl ?_
      refine v_iald (v := I 40 k) _ d_X12_name_34 (rfl) (hS _ _ rfl) (⟨by omega, by omega⟩) (rfl) ?_
      refine v_iconst (v := nI 2) d_X12_name_35 x_ic_2 ?_
      refine w_icmp_ne d_X12_name_36 (fun a36 => ?_) (fun a36 => ?_)
      · try simp (disch := omega) only [x_ti, x_tm1] at a36
        refine v_iload_n d_X12_name_44 rfl ?_
        refine v_ret (v := some (.int _)) d_X12_name_45 rfl ⟨rfl, _, rfl, rfl⟩ (by decide) (by decide) ?_
        first
          | (exact absurd a36 a18)
          | (exact absurd a18 a36)
          | (have e0 : ¬ (¬ g_sf I (nI k)) := by unfold g_sf; omega
             have e1 : (I 40 k).toInt = 2 := a18
             simp only [q_name, q_nmt, x_if_f e0, y_k, x_if_t e1] at hK
             exact hK)
          | (have e0 : ¬ (¬ g_sf I (nI k)) := by unfold g_sf; omega
             have e1 : ¬ (I 40 k).toInt = 2 := a18
             simp only [q_name, q_nmt, x_if_f e0, y_k, x_if_f e1] at hK
             exact hK)
      · try simp (disch := omega) only [x_ti, x_tm1] at a36
        refine v_bipush (v := nI 60) d_X12_name_39 x_bp_60 ?_
        refine v_goto d_X12_name_41 ?_
        refine v_ret (v := some (.int _)) d_X12_name_45 rfl ⟨rfl, _, rfl, rfl⟩ (by decide) (by decide) ?_
        first
          | (exact absurd a36 a18)
          | (exact absurd a18 a36)
          | (have e0 : ¬ (¬ g_sf I (nI k)) := by unfold g_sf; omega
             have e1 : (I 40 k).toInt = 2 := a18
             simp only [q_name, q_nmt, x_if_f e0, y_k, x_if_t e1] at hK
             exact hK)
          | (have e0 : ¬ (¬ g_sf I (nI k)) := by unfold g_sf; omega
             have e1 : ¬ (I 40 k).toInt = 2 := a18
             simp only [q_name, q_nmt, x_if_f e0, y_k, x_if_f e1] at hK
             exact hK)
    · try simp (disch := omega) only [x_ti, x_tm1] at a18
      refine v_iconst (v := nI 5) d_X12_name_21 x_ic_5 ?_
      refine v_goto d_X12_name_22 ?_
      refine v_cv (as := [_]) (rest := []) d_X12_name_26 lv_X12_275_12 (hS _ _ rfl) rfl ⟨by decide, by decide⟩ rfl (Nat.le_of_ble_eq_true rfl) (by decide) (by decide) ?_
      refine t_X12_begins hS hP ?_
      refine v_aload_n d_X12_name_29 rfl ?_
      refine v_gr d_X12_name_30 lf_X12_7_12 rfl (hS _ _ rfl) (hP _ _ _ rfl) ?_
      refine v_iload_n d_X12_name_33 rfl ?_
      refine v_iald (v := I 40 k) _ d_X12_name_34 (rfl) (hS _ _ rfl) (⟨by omega, by omega⟩) (rfl) ?_
      refine v_iconst (v := nI 2) d_X12_name_35 x_ic_2 ?_
      refine w_icmp_ne d_X12_name_36 (fun a36 => ?_) (fun a36 => ?_)
      · try simp (disch := omega) only [x_ti, x_tm1] at a36
        refine v_iload_n d_X12_name_44 rfl ?_
        refine v_ret (v := some (.int _)) d_X12_name_45 rfl ⟨rfl, _, rfl, rfl⟩ (by decide) (by decide) ?_
        first
          | (exact absurd a36 a18)
          | (exact absurd a18 a36)
          | (have e0 : ¬ (¬ g_sf I (nI k)) := by unfold g_sf; omega
             have e1 : (I 40 k).toInt = 2 := a18
             simp only [q_name, q_nmt, x_if_f e0, y_k, x_if_t e1] at hK
             exact hK)
          | (have e0 : ¬ (¬ g_sf I (nI k)) := by unfold g_sf; omega
             have e1 : ¬ (I 40 k).toInt = 2 := a18
             simp only [q_name, q_nmt, x_if_f e0, y_k, x_if_f e1] at hK
             exact hK)
      · try simp (disch := omega) only [x_ti, x_tm1] at a36
        refine v_bipush (v := nI 60) d_X12_name_39 x_bp_60 ?_
        refine v_goto d_X12_name_41 ?_
        refine v_ret (v := some (.int _)) d_X12_name_45 rfl ⟨rfl, _, rfl, rfl⟩ (by decide) (by decide) ?_
        first
          | (exact absurd a36 a18)
          | (exact absurd a18 a36)
          | (have e0 : ¬ (¬ g_sf I (nI k)) := by unfold g_sf; omega
             have e1 : (I 40 k).toInt = 2 := a18
             simp only [q_name, q_nmt, x_if_f e0, y_k, x_if_t e1] at hK
             exact hK)
          | (have e0 : ¬ (¬ g_sf I (nI k)) := by unfold g_sf; omega
             have e1 : ¬ (I 40 k).toInt = 2 := a18
             simp only [q_name, q_nmt, x_if_f e0, y_k, x_if_f e1] at hK
             exact hK)
  · refine w_if_ne d_X12_name_5 (fun h5 => absurd h5 (by decide)) (fun _ => ?_)
    refine v_iconst (v := (-1)) d_X12_name_8 x_ic_m1 ?_
    refine v_ret (v := some (.int _)) d_X12_name_9 rfl ⟨rfl, _, rfl, rfl⟩ (by decide) (by decide) ?_
    have e0 : ¬ g_sf I s := by unfold g_sf; omega
    simp only [q_name, q_nmt, x_if_t e0, h0] at hK
    exact hK

set_option maxRecDepth 100000 in
set_option maxHeartbeats 4000000 in
theorem t_X12_as {K : x_K} {S : x_S} {P : x_P} {I : x_I} {J : x_J} {n : Nat} {s kd : Int32} (hn : 0 ≤ (I 39 2).toInt ∧ (I 39 2).toInt ≤ 10) (hfo : ∀ s, s < m_ns I → m_fo I s) (hS : x_hS S) (hP : x_hP P) (hK : K (some (.int (q_as I s kd))) S P (z_as I s kd) J n) : x_Call f_X12_as [.ref 39, .int s, .int kd] K S P I J n := by
  have hns : m_ns I = (I 39 2).toInt.toNat := rfl
  refine x_intro (by decide) 0 (ls := [_, _, _]) rfl (Nat.le_of_ble_eq_true rfl) ?_
  refine v_aload_n d_X12_as_0 rfl ?_
  refine v_iconst (v := nI 0) d_X12_as_1 x_ic_0 ?_
  refine v_pi d_X12_as_2 (lp_X12_85_12 _) rfl (hS _ _ rfl) (rfl) rfl ?_
  refine v_aload_n d_X12_as_5 rfl ?_
  refine v_iload_n d_X12_as_6 rfl ?_
  refine v_cv (as := [_]) (rest := []) d_X12_as_7 lv_X12_97_12 (hS _ _ rfl) rfl ⟨by decide, by decide⟩ rfl (Nat.le_of_ble_eq_true rfl) (by decide) (by decide) ?_
  refine t_X12_isSurface hS hP (fun q => ?_) (fun q => ?_)
  · refine w_if_ne d_X12_as_10 (fun _ => ?_) (fun h10 => absurd h10 (by decide))
    refine v_iload_n d_X12_as_15 rfl ?_
    refine v_iconst (v := nI 0) d_X12_as_16 x_ic_0 ?_
    refine v_iconst (v := nI 2) d_X12_as_17 x_ic_2 ?_
    refine v_cs (as := [_, _, _]) (rest := []) d_X12_as_18 ls_X12_90 rfl ⟨by decide, by decide⟩ rfl (Nat.le_of_ble_eq_true rfl) (by decide) (by decide) ?_
    refine t_X12_within (x_ti (k := 0) (by decide)) (x_ti (k := 2) (by decide)) (fun q2 => ?_) (fun q2 => ?_)
    · refine w_if_ne d_X12_as_21 (fun _ => ?_) (fun h21 => absurd h21 (by decide))
      have q : 0 ≤ s.toInt ∧ s.toInt < (I 39 2).toInt := q
      obtain ⟨k, rfl, hk_k, t_k, y_k⟩ := x_ex1 (s := s) (by omega)
      refine v_aload_n d_X12_as_27 rfl ?_
      refine v_gr d_X12_as_28 lf_X12_7_12 rfl (hS _ _ rfl) (hP _ _ _ rfl) ?_
      refine v_iload_n d_X12_as_31 rfl ?_
      refine v_iald (v := I 40 k) _ d_X12_as_32 (rfl) (hS _ _ rfl) (⟨by omega, by omega⟩) (rfl) ?_
      refine v_iload_n d_X12_as_33 rfl ?_
      refine w_icmp_lt d_X12_as_34 (fun a34 => ?_) (fun a34 => ?_)
      · try simp (disch := omega) only [x_ti, x_tm1] at a34
        refine v_aload_n d_X12_as_41 rfl ?_
        refine v_iconst (v := nI 2) d_X12_as_42 x_ic_2 ?_
        refine v_cv (as := [_]) (rest := []) d_X12_as_43 lv_X12_129_12 (hS _ _ rfl) rfl ⟨by decide, by decide⟩ rfl (Nat.le_of_ble_eq_true rfl) (by decide) (by decide) ?_
        refine t_X12_fails hS hP ?_
        refine v_ret (v := some (.int _)) d_X12_as_46 rfl ⟨rfl, _, rfl, rfl⟩ (by decide) (by decide) ?_
        first
          | (have e0 : ¬ (¬ g_sf I (nI k)) := by first | (unfold g_sf; omega) | omega
             have e1 : ¬ (¬ (0 ≤ kd.toInt ∧ kd.toInt ≤ 2)) := by first | (unfold g_sf; omega) | omega
             have e2 : kd.toInt ≤ (I 40 k).toInt := by first | (unfold g_sf; omega) | omega
             simp only [q_as, z_as, x_if_f e0, x_if_f e1, x_if_t e2, y_k] at hK
             exact hK)
          | (have e0 : ¬ (¬ g_sf I (nI k)) := by first | (unfold g_sf; omega) | omega
             have e1 : ¬ (¬ (0 ≤ kd.toInt ∧ kd.toInt ≤ 2)) := by first | (unfold g_sf; omega) | omega
             have e2 : ¬ (kd.toInt ≤ (I 40 k).toInt) := by first | (unfold g_sf; omega) | omega
             simp only [q_as, z_as, x_if_f e0, x_if_f e1, x_if_f e2, y_k] at hK
             exact hK)
      · try simp (disch := omega) only [x_ti, x_tm1] at a34
        refine v_iconst (v := nI 1) d_X12_as_37 x_ic_1 ?_
        refine v_goto d_X12_as_38 ?_
        refine v_ret (v := some (.int _)) d_X12_as_46 rfl ⟨rfl, _, rfl, rfl⟩ (by decide) (by decide) ?_
        first
          | (have e0 : ¬ (¬ g_sf I (nI k)) := by first | (unfold g_sf; omega) | omega
             have e1 : ¬ (¬ (0 ≤ kd.toInt ∧ kd.toInt ≤ 2)) := by first | (unfold g_sf; omega) | omega
             have e2 : kd.toInt ≤ (I 40 k).toInt := by first | (unfold g_sf; omega) | omega
             simp only [q_as, z_as, x_if_f e0, x_if_f e1, x_if_t e2, y_k] at hK
             exact hK)
          | (have e0 : ¬ (¬ g_sf I (nI k)) := by first | (unfold g_sf; omega) | omega
             have e1 : ¬ (¬ (0 ≤ kd.toInt ∧ kd.toInt ≤ 2)) := by first | (unfold g_sf; omega) | omega
             have e2 : ¬ (kd.toInt ≤ (I 40 k).toInt) := by first | (unfold g_sf; omega) | omega
             simp only [q_as, z_as, x_if_f e0, x_if_f e1, x_if_f e2, y_k] at hK
             exact hK)
    · refine w_if_ne d_X12_as_21 (fun h21 => absurd h21 (by decide)) (fun _ => ?_)
      refine v_bipush (v := (-2)) d_X12_as_24 x_bp_m2 ?_
      refine v_ret (v := some (.int _)) d_X12_as_26 rfl ⟨rfl, _, rfl, rfl⟩ (by decide) (by decide) ?_
      have q : 0 ≤ s.toInt ∧ s.toInt < (I 39 2).toInt := q
      have e0 : ¬ (¬ g_sf I s) := by first | (unfold g_sf; omega) | omega
      have e1 : ¬ (0 ≤ kd.toInt ∧ kd.toInt ≤ 2) := by first | (unfold g_sf; omega) | omega
      simp only [q_as, z_as, x_if_f e0, x_if_t e1] at hK
      exact hK
  · refine w_if_ne d_X12_as_10 (fun h10 => absurd h10 (by decide)) (fun _ => ?_)
    refine v_iconst (v := (-1)) d_X12_as_13 x_ic_m1 ?_
    refine v_ret (v := some (.int _)) d_X12_as_14 rfl ⟨rfl, _, rfl, rfl⟩ (by decide) (by decide) ?_
    have q : ¬ (0 ≤ s.toInt ∧ s.toInt < (I 39 2).toInt) := q
    have e0 : ¬ g_sf I s := by first | (unfold g_sf; omega) | omega
    simp only [q_as, z_as, x_if_t e0] at hK
    exact hK

set_option maxRecDepth 100000 in
set_option maxHeartbeats 4000000 in
theorem t_X12_hour {K : x_K} {S : x_S} {P : x_P} {I : x_I} {J : x_J} {n : Nat} {a b c : Int32} (hh : 0 ≤ (I 39 24).toInt ∧ (I 39 24).toInt ≤ 6) (hS : x_hS S) (hP : x_hP P) (hK : K (some (.int (q_hour I a b c))) S P (z_hour I a b c) J n) : x_Call f_X12_hour [.ref 39, .int a, .int b, .int c] K S P I J n := by
  have hnh : m_nh I = (I 39 24).toInt.toNat := rfl
  have hH : I 39 24 = nI (m_nh I) := x_of hh.1
  refine x_intro (by decide) 0 (ls := [_, _, _, _]) rfl (Nat.le_of_ble_eq_true rfl) ?_
  refine v_iload_n d_X12_hour_0 rfl ?_
  refine v_bipush (v := (-9)) d_X12_hour_1 x_bp_m9 ?_
  refine v_bipush (v := nI 9) d_X12_hour_3 x_bp_9 ?_
  refine v_cs (as := [_, _, _]) (rest := []) d_X12_hour_5 ls_X12_90 rfl ⟨by decide, by decide⟩ rfl (Nat.le_of_ble_eq_true rfl) (by decide) (by decide) ?_
  refine t_X12_within (show (-9 : Int32).toInt = -9 by decide) (x_ti (k := 9) (by decide)) (fun q1 => ?_) (fun q1 => ?_)
  · refine w_if_eq d_X12_hour_8 (fun h8 => absurd h8 (by decide)) (fun _ => ?_)
    refine v_iload_n d_X12_hour_11 rfl ?_
    refine v_bipush (v := (-9)) d_X12_hour_12 x_bp_m9 ?_
    refine v_bipush (v := nI 9) d_X12_hour_14 x_bp_9 ?_
    refine v_cs (as := [_, _, _]) (rest := []) d_X12_hour_16 ls_X12_90 rfl ⟨by decide, by decide⟩ rfl (Nat.le_of_ble_eq_true rfl) (by decide) (by decide) ?_
    refine t_X12_within (show (-9 : Int32).toInt = -9 by decide) (x_ti (k := 9) (by decide)) (fun q2 => ?_) (fun q2 => ?_)
    · refine w_if_eq d_X12_hour_19 (fun h19 => absurd h19 (by decide)) (fun _ => ?_)
      refine v_iload_n d_X12_hour_22 rfl ?_
      refine v_bipush (v := (-9)) d_X12_hour_23 x_bp_m9 ?_
      refine v_bipush (v := nI 9) d_X12_hour_25 x_bp_9 ?_
      refine v_cs (as := [_, _, _]) (rest := []) d_X12_hour_27 ls_X12_90 rfl ⟨by decide, by decide⟩ rfl (Nat.le_of_ble_eq_true rfl) (by decide) (by decide) ?_
      refine t_X12_within (show (-9 : Int32).toInt = -9 by decide) (x_ti (k := 9) (by decide)) (fun q3 => ?_) (fun q3 => ?_)
      · refine w_if_eq d_X12_hour_30 (fun h30 => absurd h30 (by decide)) (fun _ => ?_)
        refine v_iload_n d_X12_hour_33 rfl ?_
        refine w_if_ne d_X12_hour_34 (fun h34 => ?_) (fun h34 => ?_)
        · try simp (disch := omega) only [x_ti, x_tm1] at h34
          refine v_aload_n d_X12_hour_48 rfl ?_
          refine v_gi d_X12_hour_49 lf_X12_229_12 rfl (hS _ _ rfl) ?_
          refine v_bipush (v := nI 6) d_X12_hour_52 x_bp_6 ?_
          refine w_icmp_ne d_X12_hour_54 (fun a54 => ?_) (fun a54 => ?_)
          · try simp (disch := omega) only [x_ti, x_tm1] at a54
            refine v_aload_n d_X12_hour_60 rfl ?_
            refine v_gr d_X12_hour_61 lf_X12_50_12 rfl (hS _ _ rfl) (hP _ _ _ rfl) ?_
            refine v_iconst (v := nI 3) d_X12_hour_64 x_ic_3 ?_
            refine v_aload_n d_X12_hour_65 rfl ?_
            refine v_gie d_X12_hour_66 lf_X12_229_12 rfl (hS _ _ rfl) (hH) ?_
            first | refine v_imulN d_X12_hour_69 ?_ | refine v_imul d_X12_hour_69 ?_
            refine v_iload_n d_X12_hour_70 rfl ?_
            refine v_iast _ d_X12_hour_71 (rfl) (hS _ _ rfl) (⟨by omega, by omega⟩) ?_
            refine v_aload_n d_X12_hour_72 rfl ?_
            refine v_gr d_X12_hour_73 lf_X12_50_12 rfl (hS _ _ rfl) (hP _ _ _ rfl) ?_
            refine v_iconst (v := nI 3) d_X12_hour_76 x_ic_3 ?_
            refine v_aload_n d_X12_hour_77 rfl ?_
            refine v_gie d_X12_hour_78 lf_X12_229_12 rfl (hS _ _ rfl) (hH) ?_
            first | refine v_imulN d_X12_hour_81 ?_ | refine v_imul d_X12_hour_81 ?_
            refine v_iconst (v := nI 1) d_X12_hour_82 x_ic_1 ?_
            first | refine v_iaddN d_X12_hour_83 ?_ | refine v_iadd d_X12_hour_83 ?_
            refine v_iload_n d_X12_hour_84 rfl ?_
            refine v_iast _ d_X12_hour_85 (rfl) (hS _ _ rfl) (⟨by omega, by omega⟩) ?_
            refine v_aload_n d_X12_hour_86 rfl ?_
            refine v_gr d_X12_hour_87 lf_X12_50_12 rfl (hS _ _ rfl) (hP _ _ _ rfl) ?_
            refine v_iconst (v := nI 3) d_X12_hour_90 x_ic_3 ?_
            refine v_aload_n d_X12_hour_91 rfl ?_
            refine v_gie d_X12_hour_92 lf_X12_229_12 rfl (hS _ _ rfl) (hH) ?_
            first | refine v_imulN d_X12_hour_95 ?_ | refine v_imul d_X12_hour_95 ?_
            refine v_iconst (v := nI 2) d_X12_hour_96 x_ic_2 ?_
            first | refine v_iaddN d_X12_hour_97 ?_ | refine v_iadd d_X12_hour_97 ?_
            refine v_iload_n d_X12_hour_98 rfl ?_
            refine v_iast _ d_X12_hour_99 (rfl) (hS _ _ rfl) (⟨by omega, by omega⟩) ?_
            refine v_aload_n d_X12_hour_100 rfl ?_
            refine v_dup d_X12_hour_101 rfl ?_
            refine v_gie d_X12_hour_102 lf_X12_229_12 rfl (hS _ _ rfl) (hH) ?_
            refine v_iconst (v := nI 1) d_X12_hour_105 x_ic_1 ?_
            first | refine v_iaddN d_X12_hour_106 ?_ | refine v_iadd d_X12_hour_106 ?_
            refine v_pi d_X12_hour_107 (lp_X12_229_12 _) rfl (hS _ _ rfl) (rfl) rfl ?_
            refine v_aload_n d_X12_hour_110 rfl ?_
            refine v_gie d_X12_hour_111 lf_X12_229_12 rfl (hS _ _ rfl) (x_u2_s _ _ _ _) ?_
            refine v_iconst (v := nI 1) d_X12_hour_114 x_ic_1 ?_
            refine v_isub d_X12_hour_115 ?_
            refine v_ret (v := some (.int _)) d_X12_hour_116 rfl ⟨rfl, _, rfl, rfl⟩ (by decide) (by decide) ?_
            have e0 : ¬ (¬ g_dr a b c 9) := by unfold g_dr; omega
            have e1 : ¬ (I 39 24).toInt = 6 := by omega
            simp only [q_hour, z_hour, x_if_f e0, x_if_f e1] at hK
            rw [show nI (m_nh I + 1) - nI 1 = nI (m_nh I) from x_subN (by omega)]
            exact hK
          · try simp (disch := omega) only [x_ti, x_tm1] at a54
            refine v_bipush (v := (-4)) d_X12_hour_57 x_bp_m4 ?_
            refine v_ret (v := some (.int _)) d_X12_hour_59 rfl ⟨rfl, _, rfl, rfl⟩ (by decide) (by decide) ?_
            have e0 : ¬ (¬ g_dr a b c 9) := by first | (unfold g_dr; omega) | omega
            have e1 : (I 39 24).toInt = 6 := by first | (unfold g_dr; omega) | omega
            simp only [q_hour, z_hour, x_if_f e0, x_if_t e1] at hK
            exact hK
        · try simp (disch := omega) only [x_ti, x_tm1] at h34
          refine v_iload_n d_X12_hour_37 rfl ?_
          refine w_if_ne d_X12_hour_38 (fun h38 => ?_) (fun h38 => ?_)
          · try simp (disch := omega) only [x_ti, x_tm1] at h38
            refine v_aload_n d_X12_hour_48 rfl ?_
            refine v_gi d_X12_hour_49 lf_X12_229_12 rfl (hS _ _ rfl) ?_
            refine v_bipush (v := nI 6) d_X12_hour_52 x_bp_6 ?_
            refine w_icmp_ne d_X12_hour_54 (fun a54 => ?_) (fun a54 => ?_)
            · try simp (disch := omega) only [x_ti, x_tm1] at a54
              refine v_aload_n d_X12_hour_60 rfl ?_
              refine v_gr d_X12_hour_61 lf_X12_50_12 rfl (hS _ _ rfl) (hP _ _ _ rfl) ?_
              refine v_iconst (v := nI 3) d_X12_hour_64 x_ic_3 ?_
              refine v_aload_n d_X12_hour_65 rfl ?_
              refine v_gie d_X12_hour_66 lf_X12_229_12 rfl (hS _ _ rfl) (hH) ?_
              first | refine v_imulN d_X12_hour_69 ?_ | refine v_imul d_X12_hour_69 ?_
              refine v_iload_n d_X12_hour_70 rfl ?_
              refine v_iast _ d_X12_hour_71 (rfl) (hS _ _ rfl) (⟨by omega, by omega⟩) ?_
              refine v_aload_n d_X12_hour_72 rfl ?_
              refine v_gr d_X12_hour_73 lf_X12_50_12 rfl (hS _ _ rfl) (hP _ _ _ rfl) ?_
              refine v_iconst (v := nI 3) d_X12_hour_76 x_ic_3 ?_
              refine v_aload_n d_X12_hour_77 rfl ?_
              refine v_gie d_X12_hour_78 lf_X12_229_12 rfl (hS _ _ rfl) (hH) ?_
              first | refine v_imulN d_X12_hour_81 ?_ | refine v_imul d_X12_hour_81 ?_
              refine v_iconst (v := nI 1) d_X12_hour_82 x_ic_1 ?_
              first | refine v_iaddN d_X12_hour_83 ?_ | refine v_iadd d_X12_hour_83 ?_
              refine v_iload_n d_X12_hour_84 rfl ?_
              refine v_iast _ d_X12_hour_85 (rfl) (hS _ _ rfl) (⟨by omega, by omega⟩) ?_
              refine v_aload_n d_X12_hour_86 rfl ?_
              refine v_gr d_X12_hour_87 lf_X12_50_12 rfl (hS _ _ rfl) (hP _ _ _ rfl) ?_
              refine v_iconst (v := nI 3) d_X12_hour_90 x_ic_3 ?_
              refine v_aload_n d_X12_hour_91 rfl ?_
              refine v_gie d_X12_hour_92 lf_X12_229_12 rfl (hS _ _ rfl) (hH) ?_
              first | refine v_imulN d_X12_hour_95 ?_ | refine v_imul d_X12_hour_95 ?_
              refine v_iconst (v := nI 2) d_X12_hour_96 x_ic_2 ?_
              first | refine v_iaddN d_X12_hour_97 ?_ | refine v_iadd d_X12_hour_97 ?_
              refine v_iload_n d_X12_hour_98 rfl ?_
              refine v_iast _ d_X12_hour_99 (rfl) (hS _ _ rfl) (⟨by omega, by omega⟩) ?_
              refine v_aload_n d_X12_hour_100 rfl ?_
              refine v_dup d_X12_hour_101 rfl ?_
              refine v_gie d_X12_hour_102 lf_X12_229_12 rfl (hS _ _ rfl) (hH) ?_
              refine v_iconst (v := nI 1) d_X12_hour_105 x_ic_1 ?_
              first | refine v_iaddN d_X12_hour_106 ?_ | refine v_iadd d_X12_hour_106 ?_
              refine v_pi d_X12_hour_107 (lp_X12_229_12 _) rfl (hS _ _ rfl) (rfl) rfl ?_
              refine v_aload_n d_X12_hour_110 rfl ?_
              refine v_gie d_X12_hour_111 lf_X12_229_12 rfl (hS _ _ rfl) (x_u2_s _ _ _ _) ?_
              refine v_iconst (v := nI 1) d_X12_hour_114 x_ic_1 ?_
              refine v_isub d_X12_hour_115 ?_
              refine v_ret (v := some (.int _)) d_X12_hour_116 rfl ⟨rfl, _, rfl, rfl⟩ (by decide) (by decide) ?_
              have e0 : ¬ (¬ g_dr a b c 9) := by unfold g_dr; omega
              have e1 : ¬ (I 39 24).toInt = 6 := by omega
              simp only [q_hour, z_hour, x_if_f e0, x_if_f e1] at hK
              rw [show nI (m_nh I + 1) - nI 1 = nI (m_nh I) from x_subN (by omega)]
              exact hK
            · try simp (disch := omega) only [x_ti, x_tm1] at a54
              refine v_bipush (v := (-4)) d_X12_hour_57 x_bp_m4 ?_
              refine v_ret (v := some (.int _)) d_X12_hour_59 rfl ⟨rfl, _, rfl, rfl⟩ (by decide) (by decide) ?_
              have e0 : ¬ (¬ g_dr a b c 9) := by first | (unfold g_dr; omega) | omega
              have e1 : (I 39 24).toInt = 6 := by first | (unfold g_dr; omega) | omega
              simp only [q_hour, z_hour, x_if_f e0, x_if_t e1] at hK
              exact hK
          · try simp (disch := omega) only [x_ti, x_tm1] at h38
            refine v_iload_n d_X12_hour_41 rfl ?_
            refine w_if_ne d_X12_hour_42 (fun h42 => ?_) (fun h42 => ?_)
            · try simp (disch := omega) only [x_ti, x_tm1] at h42
              refine v_aload_n d_X12_hour_48 rfl ?_
              refine v_gi d_X12_hour_49 lf_X12_229_12 rfl (hS _ _ rfl) ?_
              refine v_bipush (v := nI 6) d_X12_hour_52 x_bp_6 ?_
              refine w_icmp_ne d_X12_hour_54 (fun a54 => ?_) (fun a54 => ?_)
              · try simp (disch := omega) only [x_ti, x_tm1] at a54
                refine v_aload_n d_X12_hour_60 rfl ?_
                refine v_gr d_X12_hour_61 lf_X12_50_12 rfl (hS _ _ rfl) (hP _ _ _ rfl) ?_
                refine v_iconst (v := nI 3) d_X12_hour_64 x_ic_3 ?_
                refine v_aload_n d_X12_hour_65 rfl ?_
                refine v_gie d_X12_hour_66 lf_X12_229_12 rfl (hS _ _ rfl) (hH) ?_
                first | refine v_imulN d_X12_hour_69 ?_ | refine v_imul d_X12_hour_69 ?_
                refine v_iload_n d_X12_hour_70 rfl ?_
                refine v_iast _ d_X12_hour_71 (rfl) (hS _ _ rfl) (⟨by omega, by omega⟩) ?_
                refine v_aload_n d_X12_hour_72 rfl ?_
                refine v_gr d_X12_hour_73 lf_X12_50_12 rfl (hS _ _ rfl) (hP _ _ _ rfl) ?_
                refine v_iconst (v := nI 3) d_X12_hour_76 x_ic_3 ?_
                refine v_aload_n d_X12_hour_77 rfl ?_
                refine v_gie d_X12_hour_78 lf_X12_229_12 rfl (hS _ _ rfl) (hH) ?_
                first | refine v_imulN d_X12_hour_81 ?_ | refine v_imul d_X12_hour_81 ?_
                refine v_iconst (v := nI 1) d_X12_hour_82 x_ic_1 ?_
                first | refine v_iaddN d_X12_hour_83 ?_ | refine v_iadd d_X12_hour_83 ?_
                refine v_iload_n d_X12_hour_84 rfl ?_
                refine v_iast _ d_X12_hour_85 (rfl) (hS _ _ rfl) (⟨by omega, by omega⟩) ?_
                refine v_aload_n d_X12_hour_86 rfl ?_
                refine v_gr d_X12_hour_87 lf_X12_50_12 rfl (hS _ _ rfl) (hP _ _ _ rfl) ?_
                refine v_iconst (v := nI 3) d_X12_hour_90 x_ic_3 ?_
                refine v_aload_n d_X12_hour_91 rfl ?_
                refine v_gie d_X12_hour_92 lf_X12_229_12 rfl (hS _ _ rfl) (hH) ?_
                first | refine v_imulN d_X12_hour_95 ?_ | refine v_imul d_X12_hour_95 ?_
                refine v_iconst (v := nI 2) d_X12_hour_96 x_ic_2 ?_
                first | refine v_iaddN d_X12_hour_97 ?_ | refine v_iadd d_X12_hour_97 ?_
                refine v_iload_n d_X12_hour_98 rfl ?_
                refine v_iast _ d_X12_hour_99 (rfl) (hS _ _ rfl) (⟨by omega, by omega⟩) ?_
                refine v_aload_n d_X12_hour_100 rfl ?_
                refine v_dup d_X12_hour_101 rfl ?_
                refine v_gie d_X12_hour_102 lf_X12_229_12 rfl (hS _ _ rfl) (hH) ?_
                refine v_iconst (v := nI 1) d_X12_hour_105 x_ic_1 ?_
                first | refine v_iaddN d_X12_hour_106 ?_ | refine v_iadd d_X12_hour_106 ?_
                refine v_pi d_X12_hour_107 (lp_X12_229_12 _) rfl (hS _ _ rfl) (rfl) rfl ?_
                refine v_aload_n d_X12_hour_110 rfl ?_
                refine v_gie d_X12_hour_111 lf_X12_229_12 rfl (hS _ _ rfl) (x_u2_s _ _ _ _) ?_
                refine v_iconst (v := nI 1) d_X12_hour_114 x_ic_1 ?_
                refine v_isub d_X12_hour_115 ?_
                refine v_ret (v := some (.int _)) d_X12_hour_116 rfl ⟨rfl, _, rfl, rfl⟩ (by decide) (by decide) ?_
                have e0 : ¬ (¬ g_dr a b c 9) := by unfold g_dr; omega
                have e1 : ¬ (I 39 24).toInt = 6 := by omega
                simp only [q_hour, z_hour, x_if_f e0, x_if_f e1] at hK
                rw [show nI (m_nh I + 1) - nI 1 = nI (m_nh I) from x_subN (by omega)]
                exact hK
              · try simp (disch := omega) only [x_ti, x_tm1] at a54
                refine v_bipush (v := (-4)) d_X12_hour_57 x_bp_m4 ?_
                refine v_ret (v := some (.int _)) d_X12_hour_59 rfl ⟨rfl, _, rfl, rfl⟩ (by decide) (by decide) ?_
                have e0 : ¬ (¬ g_dr a b c 9) := by first | (unfold g_dr; omega) | omega
                have e1 : (I 39 24).toInt = 6 := by first | (unfold g_dr; omega) | omega
                simp only [q_hour, z_hour, x_if_f e0, x_if_t e1] at hK
                exact hK
            · try simp (disch := omega) only [x_ti, x_tm1] at h42
              refine v_bipush (v := (-2)) d_X12_hour_45 x_bp_m2 ?_
              refine v_ret (v := some (.int _)) d_X12_hour_47 rfl ⟨rfl, _, rfl, rfl⟩ (by decide) (by decide) ?_
              have e0 : ¬ g_dr a b c 9 := by first | (unfold g_dr; omega) | omega
              simp only [q_hour, z_hour, x_if_t e0] at hK
              exact hK
      · refine w_if_eq d_X12_hour_30 (fun _ => ?_) (fun h30 => absurd h30 (by decide))
        refine v_bipush (v := (-2)) d_X12_hour_45 x_bp_m2 ?_
        refine v_ret (v := some (.int _)) d_X12_hour_47 rfl ⟨rfl, _, rfl, rfl⟩ (by decide) (by decide) ?_
        have e0 : ¬ g_dr a b c 9 := by first | (unfold g_dr; omega) | omega
        simp only [q_hour, z_hour, x_if_t e0] at hK
        exact hK
    · refine w_if_eq d_X12_hour_19 (fun _ => ?_) (fun h19 => absurd h19 (by decide))
      refine v_bipush (v := (-2)) d_X12_hour_45 x_bp_m2 ?_
      refine v_ret (v := some (.int _)) d_X12_hour_47 rfl ⟨rfl, _, rfl, rfl⟩ (by decide) (by decide) ?_
      have e0 : ¬ g_dr a b c 9 := by first | (unfold g_dr; omega) | omega
      simp only [q_hour, z_hour, x_if_t e0] at hK
      exact hK
  · refine w_if_eq d_X12_hour_8 (fun _ => ?_) (fun h8 => absurd h8 (by decide))
    refine v_bipush (v := (-2)) d_X12_hour_45 x_bp_m2 ?_
    refine v_ret (v := some (.int _)) d_X12_hour_47 rfl ⟨rfl, _, rfl, rfl⟩ (by decide) (by decide) ?_
    have e0 : ¬ g_dr a b c 9 := by first | (unfold g_dr; omega) | omega
    simp only [q_hour, z_hour, x_if_t e0] at hK
    exact hK

set_option maxRecDepth 100000 in
set_option maxHeartbeats 4000000 in
theorem t_X12_plate {K : x_K} {S : x_S} {P : x_P} {I : x_I} {J : x_J} {n : Nat} {s : Int32} (hS : x_hS S) (hP : x_hP P) (hK : K (some (.int (q_plate I s))) S P (z_plate I s) J n) : x_Call f_X12_plate [.ref 39, .int s] K S P I J n := by
  refine x_intro (by decide) 1 (ls := [_, _, _]) rfl (Nat.le_of_ble_eq_true rfl) ?_
  refine v_iload_n d_X12_plate_0 rfl ?_
  refine v_iconst (v := (-1)) d_X12_plate_1 x_ic_m1 ?_
  refine w_icmp_eq d_X12_plate_2 (fun a2 => ?_) (fun a2 => ?_)
  · try simp (disch := omega) only [x_ti, x_tm1] at a2
    refine v_aload_n d_X12_plate_15 rfl ?_
    refine v_gi d_X12_plate_16 lf_X12_53_12 rfl (hS _ _ rfl) ?_
    refine v_istore_n (ls' := [_, _, _]) d_X12_plate_19 (by decide) rfl ?_
    refine v_aload_n d_X12_plate_20 rfl ?_
    refine v_iload_n d_X12_plate_21 rfl ?_
    refine w_if_ge d_X12_plate_22 (fun a22 => ?_) (fun a22 => ?_)
    · try simp (disch := omega) only [x_ti, x_tm1] at a22
      refine v_iload_n d_X12_plate_30 rfl ?_
      refine v_pi d_X12_plate_31 (lp_X12_53_12 _) rfl (hS _ _ rfl) (rfl) rfl ?_
      refine v_iload_n d_X12_plate_34 rfl ?_
      refine v_ret (v := some (.int _)) d_X12_plate_35 rfl ⟨rfl, _, rfl, rfl⟩ (by decide) (by decide) ?_
      first
        | (have e0 : ¬ (¬ (s.toInt = -1 ∨ g_sf I s)) := by first | (unfold g_sf; omega) | omega
           have e1 : s.toInt = -1 := by first | (unfold g_sf; omega) | omega
           simp only [q_plate, z_plate, x_if_f e0, x_if_t e1] at hK
           exact hK)
        | (have e0 : ¬ (¬ (s.toInt = -1 ∨ g_sf I s)) := by first | (unfold g_sf; omega) | omega
           have e1 : ¬ (s.toInt = -1) := by first | (unfold g_sf; omega) | omega
           simp only [q_plate, z_plate, x_if_f e0, x_if_f e1] at hK
           exact hK)
    · try simp (disch := omega) only [x_ti, x_tm1] at a22
      refine v_bipush (v := (-9)) d_X12_plate_25 x_bp_m9 ?_
      refine v_goto d_X12_plate_27 ?_
      refine v_pi d_X12_plate_31 (lp_X12_53_12 _) rfl (hS _ _ rfl) (rfl) rfl ?_
      refine v_iload_n d_X12_plate_34 rfl ?_
      refine v_ret (v := some (.int _)) d_X12_plate_35 rfl ⟨rfl, _, rfl, rfl⟩ (by decide) (by decide) ?_
      first
        | (have e0 : ¬ (¬ (s.toInt = -1 ∨ g_sf I s)) := by first | (unfold g_sf; omega) | omega
           have e1 : s.toInt = -1 := by first | (unfold g_sf; omega) | omega
           simp only [q_plate, z_plate, x_if_f e0, x_if_t e1] at hK
           exact hK)
        | (have e0 : ¬ (¬ (s.toInt = -1 ∨ g_sf I s)) := by first | (unfold g_sf; omega) | omega
           have e1 : ¬ (s.toInt = -1) := by first | (unfold g_sf; omega) | omega
           simp only [q_plate, z_plate, x_if_f e0, x_if_f e1] at hK
           exact hK)
  · try simp (disch := omega) only [x_ti, x_tm1] at a2
    refine v_aload_n d_X12_plate_5 rfl ?_
    refine v_iload_n d_X12_plate_6 rfl ?_
    refine v_cv (as := [_]) (rest := []) d_X12_plate_7 lv_X12_97_12 (hS _ _ rfl) rfl ⟨by decide, by decide⟩ rfl (Nat.le_of_ble_eq_true rfl) (by decide) (by decide) ?_
    refine t_X12_isSurface hS hP (fun q => ?_) (fun q => ?_)
    · refine w_if_ne d_X12_plate_10 (fun _ => ?_) (fun h10 => absurd h10 (by decide))
      refine v_aload_n d_X12_plate_15 rfl ?_
      refine v_gi d_X12_plate_16 lf_X12_53_12 rfl (hS _ _ rfl) ?_
      refine v_istore_n (ls' := [_, _, _]) d_X12_plate_19 (by decide) rfl ?_
      refine v_aload_n d_X12_plate_20 rfl ?_
      refine v_iload_n d_X12_plate_21 rfl ?_
      refine w_if_ge d_X12_plate_22 (fun a22 => ?_) (fun a22 => ?_)
      · try simp (disch := omega) only [x_ti, x_tm1] at a22
        refine v_iload_n d_X12_plate_30 rfl ?_
        refine v_pi d_X12_plate_31 (lp_X12_53_12 _) rfl (hS _ _ rfl) (rfl) rfl ?_
        refine v_iload_n d_X12_plate_34 rfl ?_
        refine v_ret (v := some (.int _)) d_X12_plate_35 rfl ⟨rfl, _, rfl, rfl⟩ (by decide) (by decide) ?_
        first
          | (have e0 : ¬ (¬ (s.toInt = -1 ∨ g_sf I s)) := by first | (unfold g_sf; omega) | omega
             have e1 : s.toInt = -1 := by first | (unfold g_sf; omega) | omega
             simp only [q_plate, z_plate, x_if_f e0, x_if_t e1] at hK
             exact hK)
          | (have e0 : ¬ (¬ (s.toInt = -1 ∨ g_sf I s)) := by first | (unfold g_sf; omega) | omega
             have e1 : ¬ (s.toInt = -1) := by first | (unfold g_sf; omega) | omega
             simp only [q_plate, z_plate, x_if_f e0, x_if_f e1] at hK
             exact hK)
      · try simp (disch := omega) only [x_ti, x_tm1] at a22
        refine v_bipush (v := (-9)) d_X12_plate_25 x_bp_m9 ?_
        refine v_goto d_X12_plate_27 ?_
        refine v_pi d_X12_plate_31 (lp_X12_53_12 _) rfl (hS _ _ rfl) (rfl) rfl ?_
        refine v_iload_n d_X12_plate_34 rfl ?_
        refine v_ret (v := some (.int _)) d_X12_plate_35 rfl ⟨rfl, _, rfl, rfl⟩ (by decide) (by decide) ?_
        first
          | (have e0 : ¬ (¬ (s.toInt = -1 ∨ g_sf I s)) := by first | (unfold g_sf; omega) | omega
             have e1 : s.toInt = -1 := by first | (unfold g_sf; omega) | omega
             simp only [q_plate, z_plate, x_if_f e0, x_if_t e1] at hK
             exact hK)
          | (have e0 : ¬ (¬ (s.toInt = -1 ∨ g_sf I s)) := by first | (unfold g_sf; omega) | omega
             have e1 : ¬ (s.toInt = -1) := by first | (unfold g_sf; omega) | omega
             simp only [q_plate, z_plate, x_if_f e0, x_if_f e1] at hK
             exact hK)
    · refine w_if_ne d_X12_plate_10 (fun h10 => absurd h10 (by decide)) (fun _ => ?_)
      refine v_iconst (v := (-1)) d_X12_plate_13 x_ic_m1 ?_
      refine v_ret (v := some (.int _)) d_X12_plate_14 rfl ⟨rfl, _, rfl, rfl⟩ (by decide) (by decide) ?_
      have e0 : ¬ (s.toInt = -1 ∨ g_sf I s) := by first | (unfold g_sf; omega) | omega
      simp only [q_plate, z_plate, x_if_t e0] at hK
      exact hK

set_option maxRecDepth 100000 in
set_option maxHeartbeats 4000000 in
theorem t_X12_want {K : x_K} {S : x_S} {P : x_P} {I : x_I} {J : x_J} {n : Nat} {t s c b : Int32} (hb : narrow .boolean (.int b) = .int b) (hh : (I 39 24).toInt ≤ 6) (hn : 0 ≤ (I 39 2).toInt ∧ (I 39 2).toInt ≤ 10) (hfo : ∀ s, s < m_ns I → m_fo I s) (hS : x_hS S) (hP : x_hP P) (hK : K (some (.int (q_want I t s c b))) S P (z_want I t s c b) J n) : x_Call f_X12_want [.ref 39, .int t, .int s, .int c, .int b] K S P I J n := by
  have hns : m_ns I = (I 39 2).toInt.toNat := rfl
  refine x_intro (by decide) 2 (ls := [_, _, _, _, _, _, _]) rfl (Nat.le_of_ble_eq_true rfl) ?_
  refine v_aload_n d_X12_want_0 rfl ?_
  refine v_iload_n d_X12_want_1 rfl ?_
  refine v_cv (as := [_]) (rest := []) d_X12_want_2 lv_X12_232_12 (hS _ _ rfl) rfl ⟨by decide, by decide⟩ rfl (Nat.le_of_ble_eq_true rfl) (by decide) (by decide) ?_
  refine t_X12_isHour hS hP (fun qh => ?_) (fun qh => ?_)
  · refine w_if_eq d_X12_want_5 (fun h5 => absurd h5 (by decide)) (fun _ => ?_)
    refine v_aload_n d_X12_want_8 rfl ?_
    refine v_iload_n d_X12_want_9 rfl ?_
    refine v_iload_n d_X12_want_10 rfl ?_
    refine v_cv (as := [_, _]) (rest := []) d_X12_want_11 lv_X12_146_12 (hS _ _ rfl) rfl ⟨by decide, by decide⟩ rfl (Nat.le_of_ble_eq_true rfl) (by decide) (by decide) ?_
    refine t_X12_isCell hn.2 hS hP (fun q => ?_) (fun q => ?_)
    · refine w_if_ne d_X12_want_14 (fun _ => ?_) (fun h14 => absurd h14 (by decide))
      obtain ⟨u, rfl, hk_u, t_u, y_u⟩ := x_ex1 (s := t) (by omega)
      obtain ⟨k, rfl, hk_k, t_k, y_k⟩ := x_ex1 (s := s) (by omega)
      obtain ⟨j, rfl, hk_j, t_j, y_j⟩ := x_ex1 (s := c) (by omega)
      have hk10 : k < 10 := by omega
      have hf := m_ce_in (hfo k (by omega))
      have hj64 : j < 64 := by rw [y_k] at q; omega
      have hu : u < 6 := by omega
      refine v_sipush (v := nI 640) d_X12_want_19 x_sp_640 ?_
      refine v_iload_n d_X12_want_22 rfl ?_
      first | refine v_imulN d_X12_want_23 ?_ | refine v_imul d_X12_want_23 ?_
      refine v_bipush (v := nI 64) d_X12_want_24 x_bp_64 ?_
      refine v_iload_n d_X12_want_26 rfl ?_
      first | refine v_imulN d_X12_want_27 ?_ | refine v_imul d_X12_want_27 ?_
      first | refine v_iaddN d_X12_want_28 ?_ | refine v_iadd d_X12_want_28 ?_
      refine v_iload_n d_X12_want_29 rfl ?_
      first | refine v_iaddN d_X12_want_30 ?_ | refine v_iadd d_X12_want_30 ?_
      refine v_istore (ls' := [_, _, _, _, _, _, _]) d_X12_want_31 (by decide) rfl ?_
      refine v_aload_n d_X12_want_33 rfl ?_
      refine v_gr d_X12_want_34 lf_X12_57_12 rfl (hS _ _ rfl) (hP _ _ _ rfl) ?_
      refine v_iload d_X12_want_37 rfl ?_
      refine v_zald _ d_X12_want_39 (rfl) (hS _ _ rfl) (⟨by omega, by omega⟩) (rfl) ?_
      refine v_iload d_X12_want_40 rfl ?_
      refine w_icmp_ne d_X12_want_42 (fun a42 => ?_) (fun a42 => ?_)
      · refine v_iconst (v := nI 1) d_X12_want_49 x_ic_1 ?_
        refine v_istore (ls' := [_, _, _, _, _, _, _]) d_X12_want_50 (by decide) rfl ?_
        refine v_aload_n d_X12_want_52 rfl ?_
        refine v_gr d_X12_want_53 lf_X12_57_12 rfl (hS _ _ rfl) (hP _ _ _ rfl) ?_
        refine v_iload d_X12_want_56 rfl ?_
        refine v_iload d_X12_want_58 rfl ?_
        refine v_zast _ d_X12_want_60 (rfl) (hS _ _ rfl) (⟨by omega, by omega⟩) (hb) ?_
        refine v_iload d_X12_want_61 rfl ?_
        refine v_ret (v := some (.int _)) d_X12_want_63 rfl ⟨rfl, _, rfl, rfl⟩ (by decide) (by decide) ?_
        first
          | (have e0 : ¬ (¬ (g_hr I (nI u) ∧ g_ce I (nI k) (nI j))) := fun z => z ⟨qh, q⟩
             have e1 : (I 54 (640 * u + 64 * k + j)).toInt = b.toInt := a42
             simp only [q_want, z_want, x_if_f e0, y_u, y_k, y_j, x_if_t e1] at hK
             exact hK)
          | (have e0 : ¬ (¬ (g_hr I (nI u) ∧ g_ce I (nI k) (nI j))) := fun z => z ⟨qh, q⟩
             have e1 : ¬ (I 54 (640 * u + 64 * k + j)).toInt = b.toInt := a42
             simp only [q_want, z_want, x_if_f e0, y_u, y_k, y_j, x_if_f e1] at hK
             exact hK)
      · refine v_iconst (v := nI 0) d_X12_want_45 x_ic_0 ?_
        refine v_goto d_X12_want_46 ?_
        refine v_istore (ls' := [_, _, _, _, _, _, _]) d_X12_want_50 (by decide) rfl ?_
        refine v_aload_n d_X12_want_52 rfl ?_
        refine v_gr d_X12_want_53 lf_X12_57_12 rfl (hS _ _ rfl) (hP _ _ _ rfl) ?_
        refine v_iload d_X12_want_56 rfl ?_
        refine v_iload d_X12_want_58 rfl ?_
        refine v_zast _ d_X12_want_60 (rfl) (hS _ _ rfl) (⟨by omega, by omega⟩) (hb) ?_
        refine v_iload d_X12_want_61 rfl ?_
        refine v_ret (v := some (.int _)) d_X12_want_63 rfl ⟨rfl, _, rfl, rfl⟩ (by decide) (by decide) ?_
        first
          | (have e0 : ¬ (¬ (g_hr I (nI u) ∧ g_ce I (nI k) (nI j))) := fun z => z ⟨qh, q⟩
             have e1 : (I 54 (640 * u + 64 * k + j)).toInt = b.toInt := a42
             simp only [q_want, z_want, x_if_f e0, y_u, y_k, y_j, x_if_t e1] at hK
             exact hK)
          | (have e0 : ¬ (¬ (g_hr I (nI u) ∧ g_ce I (nI k) (nI j))) := fun z => z ⟨qh, q⟩
             have e1 : ¬ (I 54 (640 * u + 64 * k + j)).toInt = b.toInt := a42
             simp only [q_want, z_want, x_if_f e0, y_u, y_k, y_j, x_if_f e1] at hK
             exact hK)
    · refine w_if_ne d_X12_want_14 (fun h14 => absurd h14 (by decide)) (fun _ => ?_)
      refine v_iconst (v := (-1)) d_X12_want_17 x_ic_m1 ?_
      refine v_ret (v := some (.int _)) d_X12_want_18 rfl ⟨rfl, _, rfl, rfl⟩ (by decide) (by decide) ?_
      have e0 : ¬ (g_hr I t ∧ g_ce I s c) := fun z => by first | exact qh z.1 | exact q z.2
      simp only [q_want, z_want, x_if_t e0] at hK
      exact hK
  · refine w_if_eq d_X12_want_5 (fun _ => ?_) (fun h5 => absurd h5 (by decide))
    refine v_iconst (v := (-1)) d_X12_want_17 x_ic_m1 ?_
    refine v_ret (v := some (.int _)) d_X12_want_18 rfl ⟨rfl, _, rfl, rfl⟩ (by decide) (by decide) ?_
    have e0 : ¬ (g_hr I t ∧ g_ce I s c) := fun z => by first | exact qh z.1 | exact q z.2
    simp only [q_want, z_want, x_if_t e0] at hK
    exact hK

set_option maxRecDepth 100000 in
set_option maxHeartbeats 4000000 in
theorem l_X12_wantedMany {K : x_K} {S : x_S} {P : x_P} {I : x_I} {J : x_J} {n : Nat} (hS : x_hS S) (hP : x_hP P) (hK : K (some (.int (nI (x_ct (fun k => decide (¬ (I 54 k).toInt = 0)) 3840)))) S P I J n) : ∀ d k : Nat, k + d = 3840 → x_V f_X12_wantedMany K 4 [some (.ref 39), some (.int (nI (x_ct (fun k => decide (¬ (I 54 k).toInt = 0)) k))), some (.int (nI k))] [] S P I J n 0 0 := by
  intro d
  induction d with
  | zero =>
    intro k hd
    have e : k = 3840 := by omega
    subst e
    refine v_iload_n d_X12_wantedMany_4 rfl ?_
    refine v_sipush (v := nI 3840) d_X12_wantedMany_5 x_sp_3840 ?_
    refine w_icmp_ge d_X12_wantedMany_8 (fun h8 => ?_) (fun h8 => False.elim (by (try simp (disch := omega) only [x_ti, x_tm1] at h8); omega))
    refine v_iload_n d_X12_wantedMany_34 rfl ?_
    refine v_ret (v := some (.int _)) d_X12_wantedMany_35 rfl ⟨rfl, _, rfl, rfl⟩ (by decide) (by decide) ?_
    exact hK
  | succ d ih =>
    intro k hd
    refine v_iload_n d_X12_wantedMany_4 rfl ?_
    refine v_sipush (v := nI 3840) d_X12_wantedMany_5 x_sp_3840 ?_
    refine w_icmp_ge d_X12_wantedMany_8 (fun h8 => False.elim (by (try simp (disch := omega) only [x_ti, x_tm1] at h8); omega)) (fun h8 => ?_)
    refine v_iload_n d_X12_wantedMany_11 rfl ?_
    refine v_aload_n d_X12_wantedMany_12 rfl ?_
    refine v_gr d_X12_wantedMany_13 lf_X12_57_12 rfl (hS _ _ rfl) (hP _ _ _ rfl) ?_
    refine v_iload_n d_X12_wantedMany_16 rfl ?_
    refine v_zald _ d_X12_wantedMany_17 (rfl) (hS _ _ rfl) (⟨by omega, by omega⟩) (rfl) ?_
    refine w_if_eq d_X12_wantedMany_18 (fun h18 => ?_) (fun h18 => ?_)
    · try simp (disch := omega) only [x_ti, x_tm1] at h18
      refine v_iconst (v := nI 0) d_X12_wantedMany_25 x_ic_0 ?_
      first | refine v_iaddN d_X12_wantedMany_26 ?_ | refine v_iadd d_X12_wantedMany_26 ?_
      refine v_istore_n (ls' := [_, _, _]) d_X12_wantedMany_27 (by decide) rfl ?_
      first | refine v_iinc (ls' := [_, _, _]) d_X12_wantedMany_28 rfl (x_inc_1 _) (by decide) rfl ?_ | refine v_iinc (ls' := [_, _, _]) d_X12_wantedMany_28 rfl rfl (by decide) rfl ?_
      refine v_goto d_X12_wantedMany_31 ?_
      first | (rw [x_ct_y (p := (fun k => decide (¬ (I 54 k).toInt = 0))) (k := k) (by simp; omega)]; exact ih (k + 1) (by omega)) | (rw [x_ct_n (p := (fun k => decide (¬ (I 54 k).toInt = 0))) (k := k) (by simp; omega)]; exact ih (k + 1) (by omega))
    · try simp (disch := omega) only [x_ti, x_tm1] at h18
      refine v_iconst (v := nI 1) d_X12_wantedMany_21 x_ic_1 ?_
      refine v_goto d_X12_wantedMany_22 ?_
      first | refine v_iaddN d_X12_wantedMany_26 ?_ | refine v_iadd d_X12_wantedMany_26 ?_
      refine v_istore_n (ls' := [_, _, _]) d_X12_wantedMany_27 (by decide) rfl ?_
      first | refine v_iinc (ls' := [_, _, _]) d_X12_wantedMany_28 rfl (x_inc_1 _) (by decide) rfl ?_ | refine v_iinc (ls' := [_, _, _]) d_X12_wantedMany_28 rfl rfl (by decide) rfl ?_
      refine v_goto d_X12_wantedMany_31 ?_
      first | (rw [x_ct_y (p := (fun k => decide (¬ (I 54 k).toInt = 0))) (k := k) (by simp; omega)]; exact ih (k + 1) (by omega)) | (rw [x_ct_n (p := (fun k => decide (¬ (I 54 k).toInt = 0))) (k := k) (by simp; omega)]; exact ih (k + 1) (by omega))

set_option maxRecDepth 100000 in
set_option maxHeartbeats 4000000 in
theorem t_X12_wantedMany {K : x_K} {S : x_S} {P : x_P} {I : x_I} {J : x_J} {n : Nat} (hS : x_hS S) (hP : x_hP P) (hK : K (some (.int (nI (m_wm I)))) S P I J n) : x_Call f_X12_wantedMany [.ref 39] K S P I J n := by
  refine x_intro (by decide) 2 (ls := [_, _, _]) rfl (Nat.le_of_ble_eq_true rfl) ?_
  refine v_iconst (v := nI 0) d_X12_wantedMany_0 x_ic_0 ?_
  refine v_istore_n (ls' := [_, _, _]) d_X12_wantedMany_1 (by decide) rfl ?_
  refine v_iconst (v := nI 0) d_X12_wantedMany_2 x_ic_0 ?_
  refine v_istore_n (ls' := [_, _, _]) d_X12_wantedMany_3 (by decide) rfl ?_
  exact l_X12_wantedMany hS hP hK 3840 0 (by omega)

set_option maxRecDepth 100000 in
set_option maxHeartbeats 4000000 in
theorem l_X12_many {K : x_K} {S : x_S} {P : x_P} {I : x_I} {J : x_J} {n : Nat} {w : Int32} (N : Nat) (hN : (I 39 2).toInt = (N : Int)) (hN6 : N ≤ 10) (hfo : ∀ s, s < N → m_fo I s) (hS : x_hS S) (hP : x_hP P) (hK : K (some (.int (nI (x_sm (fun s => (m_ce I s).toNat) N)))) S P I J n) : ∀ d k : Nat, k + d = N → x_V f_X12_many K 47 [some (.ref 39), some (.int w), some (.int (nI (x_sm (fun s => (m_ce I s).toNat) k))), some (.int (nI k))] [] S P I J n 0 0 := by
  intro d
  induction d with
  | zero =>
    intro k hd
    have e : k = N := by omega
    subst e
    refine v_iload_n d_X12_many_47 rfl ?_
    refine v_aload_n d_X12_many_48 rfl ?_
    refine v_gi d_X12_many_49 lf_X12_94_12 rfl (hS _ _ rfl) ?_
    refine w_icmp_ge d_X12_many_52 (fun h52 => ?_) (fun h52 => False.elim (by (try simp (disch := omega) only [x_ti, x_tm1] at h52); omega))
    refine v_iload_n d_X12_many_69 rfl ?_
    refine v_ret (v := some (.int _)) d_X12_many_70 rfl ⟨rfl, _, rfl, rfl⟩ (by decide) (by decide) ?_
    exact hK
  | succ d ih =>
    intro k hd
    refine v_iload_n d_X12_many_47 rfl ?_
    refine v_aload_n d_X12_many_48 rfl ?_
    refine v_gi d_X12_many_49 lf_X12_94_12 rfl (hS _ _ rfl) ?_
    refine w_icmp_ge d_X12_many_52 (fun h52 => False.elim (by (try simp (disch := omega) only [x_ti, x_tm1] at h52); omega)) (fun h52 => ?_)
    refine v_iload_n d_X12_many_55 rfl ?_
    refine v_aload_n d_X12_many_56 rfl ?_
    refine v_iload_n d_X12_many_57 rfl ?_
    refine v_cv (as := [_]) (rest := [_]) d_X12_many_58 lv_X12_101_12 (hS _ _ rfl) rfl ⟨by decide, by decide⟩ rfl (Nat.le_of_ble_eq_true rfl) (by decide) (by decide) ?_
    refine t_X12_cellsOf k rfl (by omega) hS hP ?_
    have hc := m_ce_in (hfo k (by omega))
    have hce : I 41 (6 * k + 4) * I 41 (6 * k + 5) = nI (m_ce I k).toNat := x_of' (by unfold m_ce at hc ⊢; omega)
    rw [hce]
    first | refine v_iaddN d_X12_many_61 ?_ | refine v_iadd d_X12_many_61 ?_
    refine v_istore_n (ls' := [_, _, _, _]) d_X12_many_62 (by decide) rfl ?_
    first | refine v_iinc (ls' := [_, _, _, _]) d_X12_many_63 rfl (x_inc_1 _) (by decide) rfl ?_ | refine v_iinc (ls' := [_, _, _, _]) d_X12_many_63 rfl rfl (by decide) rfl ?_
    refine v_goto d_X12_many_66 ?_
    exact ih (k + 1) (by omega)

set_option maxRecDepth 100000 in
set_option maxHeartbeats 4000000 in
theorem t_X12_many {K : x_K} {S : x_S} {P : x_P} {I : x_I} {J : x_J} {n : Nat} {w : Int32} (hn : 0 ≤ (I 39 2).toInt ∧ (I 39 2).toInt ≤ 10) (hfo : ∀ s, s < m_ns I → m_fo I s) (hS : x_hS S) (hP : x_hP P) (hK : K (some (.int (q_many I w))) S P (z_many I w) J n) : x_Call f_X12_many [.ref 39, .int w] K S P I J n := by
  have hns : m_ns I = (I 39 2).toInt.toNat := rfl
  refine x_intro (by decide) 2 (ls := [_, _, _, _]) rfl (Nat.le_of_ble_eq_true rfl) ?_
  refine v_iconst (v := nI 0) d_X12_many_0 x_ic_0 ?_
  refine v_istore_n (ls' := [_, _, _, _]) d_X12_many_1 (by decide) rfl ?_
  refine v_iload_n d_X12_many_2 rfl ?_
  rcases (show w.toInt = 0 ∨ w.toInt = 1 ∨ w.toInt = 2 ∨ w.toInt = 3 ∨ w.toInt = 4 ∨ w.toInt = 5 ∨ (w.toInt < 0 ∨ 5 < w.toInt) by omega) with e | e | e | e | e | e | e
  · refine v_tin (off := 37) (tgt := 40) d_X12_many_3 (by omega) (by omega) (by rw [e]; rfl) (by decide) ?_
    refine v_aload_n d_X12_many_40 rfl ?_
    refine v_gi d_X12_many_41 lf_X12_94_12 rfl (hS _ _ rfl) ?_
    refine v_ret (v := some (.int _)) d_X12_many_44 rfl ⟨rfl, _, rfl, rfl⟩ (by decide) (by decide) ?_
    have e0 : w.toInt = 0 := by omega
    have e1 : ¬ (w.toInt = 2) := by omega
    simp only [q_many, z_many, x_if_t e0, x_if_f e1] at hK
    exact hK
  · refine v_tin (off := 42) (tgt := 45) d_X12_many_3 (by omega) (by omega) (by rw [e]; rfl) (by decide) ?_
    refine v_iconst (v := nI 0) d_X12_many_45 x_ic_0 ?_
    refine v_istore_n (ls' := [_, _, _, _]) d_X12_many_46 (by decide) rfl ?_
    have e0 : ¬ (w.toInt = 0) := by omega
    have e1 : w.toInt = 1 := by omega
    have e2 : ¬ (w.toInt = 2) := by omega
    simp only [q_many, z_many, x_if_f e0, x_if_t e1, x_if_f e2] at hK
    exact l_X12_many (m_ns I) (by omega) (by omega) hfo hS hP hK (m_ns I) 0 (by omega)
  · refine v_tin (off := 68) (tgt := 71) d_X12_many_3 (by omega) (by omega) (by rw [e]; rfl) (by decide) ?_
    refine v_aload_n d_X12_many_71 rfl ?_
    refine v_cv (as := []) (rest := []) d_X12_many_72 lv_X12_138_12 (hS _ _ rfl) rfl ⟨by decide, by decide⟩ rfl (Nat.le_of_ble_eq_true rfl) (by decide) (by decide) ?_
    refine t_X12_boardCells hS hP ?_
    refine v_ret (v := some (.int _)) d_X12_many_75 rfl ⟨rfl, _, rfl, rfl⟩ (by decide) (by decide) ?_
    have e0 : ¬ (w.toInt = 0) := by omega
    have e1 : ¬ (w.toInt = 1) := by omega
    have e2 : w.toInt = 2 := by omega
    simp only [q_many, z_many, x_if_f e0, x_if_f e1, x_if_t e2] at hK
    exact hK
  · refine v_tin (off := 73) (tgt := 76) d_X12_many_3 (by omega) (by omega) (by rw [e]; rfl) (by decide) ?_
    refine v_aload_n d_X12_many_76 rfl ?_
    refine v_gi d_X12_many_77 lf_X12_229_12 rfl (hS _ _ rfl) ?_
    refine v_ret (v := some (.int _)) d_X12_many_80 rfl ⟨rfl, _, rfl, rfl⟩ (by decide) (by decide) ?_
    have e0 : ¬ (w.toInt = 0) := by omega
    have e1 : ¬ (w.toInt = 1) := by omega
    have e2 : ¬ (w.toInt = 2) := by omega
    have e3 : w.toInt = 3 := by omega
    simp only [q_many, z_many, x_if_f e0, x_if_f e1, x_if_f e2, x_if_t e3] at hK
    exact hK
  · refine v_tin (off := 78) (tgt := 81) d_X12_many_3 (by omega) (by omega) (by rw [e]; rfl) (by decide) ?_
    refine v_aload_n d_X12_many_81 rfl ?_
    refine v_cv (as := []) (rest := []) d_X12_many_82 lv_X12_220_12 (hS _ _ rfl) rfl ⟨by decide, by decide⟩ rfl (Nat.le_of_ble_eq_true rfl) (by decide) (by decide) ?_
    refine t_X12_allPainted hn hfo hS hP ?_
    refine v_ret (v := some (.int _)) d_X12_many_85 rfl ⟨rfl, _, rfl, rfl⟩ (by decide) (by decide) ?_
    have e0 : ¬ (w.toInt = 0) := by omega
    have e1 : ¬ (w.toInt = 1) := by omega
    have e2 : ¬ (w.toInt = 2) := by omega
    have e3 : ¬ (w.toInt = 3) := by omega
    have e4 : w.toInt = 4 := by omega
    simp only [q_many, z_many, x_if_f e0, x_if_f e1, x_if_f e2, x_if_f e3, x_if_t e4] at hK
    exact hK
  · refine v_tin (off := 83) (tgt := 86) d_X12_many_3 (by omega) (by omega) (by rw [e]; rfl) (by decide) ?_
    refine v_aload_n d_X12_many_86 rfl ?_
    refine v_cv (as := []) (rest := []) d_X12_many_87 lv_X12_279_12 (hS _ _ rfl) rfl ⟨by decide, by decide⟩ rfl (Nat.le_of_ble_eq_true rfl) (by decide) (by decide) ?_
    refine t_X12_wantedMany hS hP ?_
    refine v_ret (v := some (.int _)) d_X12_many_90 rfl ⟨rfl, _, rfl, rfl⟩ (by decide) (by decide) ?_
    have e0 : ¬ (w.toInt = 0) := by omega
    have e1 : ¬ (w.toInt = 1) := by omega
    have e2 : ¬ (w.toInt = 2) := by omega
    have e3 : ¬ (w.toInt = 3) := by omega
    have e4 : ¬ (w.toInt = 4) := by omega
    have e5 : w.toInt = 5 := by omega
    simp only [q_many, z_many, x_if_f e0, x_if_f e1, x_if_f e2, x_if_f e3, x_if_f e4, x_if_t e5] at hK
    exact hK
  · refine v_tout (tgt := 91) d_X12_many_3 e (by decide) ?_
    refine v_bipush (v := (-2)) d_X12_many_91 x_bp_m2 ?_
    refine v_ret (v := some (.int _)) d_X12_many_93 rfl ⟨rfl, _, rfl, rfl⟩ (by decide) (by decide) ?_
    have e0 : ¬ (w.toInt = 0) := by omega
    have e1 : ¬ (w.toInt = 1) := by omega
    have e2 : ¬ (w.toInt = 2) := by omega
    have e3 : ¬ (w.toInt = 3) := by omega
    have e4 : ¬ (w.toInt = 4) := by omega
    have e5 : ¬ (w.toInt = 5) := by omega
    simp only [q_many, z_many, x_if_f e0, x_if_f e1, x_if_f e2, x_if_f e3, x_if_f e4, x_if_f e5] at hK
    exact hK

set_option maxRecDepth 100000 in
set_option maxHeartbeats 4000000 in
theorem t_X12_tell {K : x_K} {S : x_S} {P : x_P} {I : x_I} {J : x_J} {n : Nat} {s : Int32} (hkd : ∀ s, s < m_ns I → 0 ≤ (I 40 s).toInt ∧ (I 40 s).toInt ≤ 2) (hn : 0 ≤ (I 39 2).toInt ∧ (I 39 2).toInt ≤ 10) (hfo : ∀ s, s < m_ns I → m_fo I s) (hS : x_hS S) (hP : x_hP P) (hK : K (some (.int (q_tell I s))) S P (x_u2 I 39 1 (q_tlt I s)) J n) (h0 : x_u2 I 39 1 (I 39 1) = I) : x_Call f_X12_tell [.ref 39, .int s] K S P I J n := by
  have hns : m_ns I = (I 39 2).toInt.toNat := rfl
  refine x_intro (by decide) 1 (ls := [_, _, _]) rfl (Nat.le_of_ble_eq_true rfl) ?_
  refine v_aload_n d_X12_tell_0 rfl ?_
  refine v_iload_n d_X12_tell_1 rfl ?_
  refine v_cv (as := [_]) (rest := []) d_X12_tell_2 lv_X12_97_12 (hS _ _ rfl) rfl ⟨by decide, by decide⟩ rfl (Nat.le_of_ble_eq_true rfl) (by decide) (by decide) ?_
  refine t_X12_isSurface hS hP (fun q => ?_) (fun q => ?_)
  · refine w_if_ne d_X12_tell_5 (fun _ => ?_) (fun h5 => absurd h5 (by decide))
    obtain ⟨k, rfl, hk_k, t_k, y_k⟩ := x_ex1 (s := s) (by omega)
    have hk3 := hkd k (by omega)
    refine v_aload_n d_X12_tell_10 rfl ?_
    refine v_iload_n d_X12_tell_11 rfl ?_
    refine v_cv (as := [_]) (rest := []) d_X12_tell_12 lv_X12_101_12 (hS _ _ rfl) rfl ⟨by decide, by decide⟩ rfl (Nat.le_of_ble_eq_true rfl) (by decide) (by decide) ?_
    refine t_X12_cellsOf k rfl (by omega) hS hP ?_
    refine v_istore_n (ls' := [_, _, _]) d_X12_tell_15 (by decide) rfl ?_
    refine v_aload_n d_X12_tell_16 rfl ?_
    refine v_gr d_X12_tell_17 lf_X12_7_12 rfl (hS _ _ rfl) (hP _ _ _ rfl) ?_
    refine v_iload_n d_X12_tell_20 rfl ?_
    refine v_iald _ d_X12_tell_21 (rfl) (hS _ _ rfl) (⟨by omega, by omega⟩) (rfl) ?_
    rcases (show (I 40 k).toInt = 1 ∨ (I 40 k).toInt = 2 ∨ (I 40 k).toInt = 0 by omega) with e | e | e
    · refine v_look (off := 26) (tgt := 48) d_X12_tell_22 (by decide) (by rw [e]; decide) (by decide) ?_
      refine v_aload_n d_X12_tell_48 rfl ?_
      refine v_iconst (v := nI 2) d_X12_tell_49 x_ic_2 ?_
      refine v_cv (as := [_]) (rest := []) d_X12_tell_50 lv_X12_275_12 (hS _ _ rfl) rfl ⟨by decide, by decide⟩ rfl (Nat.le_of_ble_eq_true rfl) (by decide) (by decide) ?_
      refine t_X12_begins hS hP ?_
      refine v_aload_n d_X12_tell_53 rfl ?_
      refine v_iconst (v := nI 1) d_X12_tell_54 x_ic_1 ?_
      refine v_cv (as := [_]) (rest := []) d_X12_tell_55 lv_X12_275_12 (hS _ _ rfl) rfl ⟨by decide, by decide⟩ rfl (Nat.le_of_ble_eq_true rfl) (by decide) (by decide) ?_
      refine t_X12_begins hS hP ?_
      refine v_iload_n d_X12_tell_58 rfl ?_
      refine v_aload_n d_X12_tell_59 rfl ?_
      refine v_gr d_X12_tell_60 lf_X12_13_12 rfl (hS _ _ rfl) (hP _ _ _ rfl) ?_
      refine v_bipush (v := nI 6) d_X12_tell_63 x_bp_6 ?_
      refine v_iload_n d_X12_tell_65 rfl ?_
      first | refine v_imulN d_X12_tell_66 ?_ | refine v_imul d_X12_tell_66 ?_
      refine v_iald _ d_X12_tell_67 (rfl) (hS _ _ rfl) (⟨by omega, by omega⟩) (rfl) ?_
      refine v_iadd d_X12_tell_68 ?_
      refine v_ret (v := some (.int _)) d_X12_tell_69 rfl ⟨rfl, _, rfl, rfl⟩ (by decide) (by decide) ?_
      have e0 : ¬ (¬ g_sf I (nI k)) := by unfold g_sf; omega
      have e1 : (I 40 k).toInt = 1 := e
      simp only [q_tell, q_tlt, x_if_f e0, y_k, x_if_t e1] at hK
      try simp only [x_uu, x_u2_s]
      exact hK
    · refine v_look (off := 48) (tgt := 70) d_X12_tell_22 (by decide) (by rw [e]; decide) (by decide) ?_
      refine v_aload_n d_X12_tell_70 rfl ?_
      refine v_iconst (v := nI 3) d_X12_tell_71 x_ic_3 ?_
      refine v_cv (as := [_]) (rest := []) d_X12_tell_72 lv_X12_275_12 (hS _ _ rfl) rfl ⟨by decide, by decide⟩ rfl (Nat.le_of_ble_eq_true rfl) (by decide) (by decide) ?_
      refine t_X12_begins hS hP ?_
      refine v_aload_n d_X12_tell_75 rfl ?_
      refine v_iconst (v := nI 2) d_X12_tell_76 x_ic_2 ?_
      refine v_cv (as := [_]) (rest := []) d_X12_tell_77 lv_X12_275_12 (hS _ _ rfl) rfl ⟨by decide, by decide⟩ rfl (Nat.le_of_ble_eq_true rfl) (by decide) (by decide) ?_
      refine t_X12_begins hS hP ?_
      refine v_aload_n d_X12_tell_80 rfl ?_
      refine v_iconst (v := nI 1) d_X12_tell_81 x_ic_1 ?_
      refine v_cv (as := [_]) (rest := []) d_X12_tell_82 lv_X12_275_12 (hS _ _ rfl) rfl ⟨by decide, by decide⟩ rfl (Nat.le_of_ble_eq_true rfl) (by decide) (by decide) ?_
      refine t_X12_begins hS hP ?_
      refine v_aload_n d_X12_tell_85 rfl ?_
      refine v_iconst (v := nI 1) d_X12_tell_86 x_ic_1 ?_
      refine v_cv (as := [_]) (rest := []) d_X12_tell_87 lv_X12_275_12 (hS _ _ rfl) rfl ⟨by decide, by decide⟩ rfl (Nat.le_of_ble_eq_true rfl) (by decide) (by decide) ?_
      refine t_X12_begins hS hP ?_
      refine v_iconst (v := nI 2) d_X12_tell_90 x_ic_2 ?_
      refine v_iload_n d_X12_tell_91 rfl ?_
      refine v_imul d_X12_tell_92 ?_
      refine v_aload_n d_X12_tell_93 rfl ?_
      refine v_gr d_X12_tell_94 lf_X12_13_12 rfl (hS _ _ rfl) (hP _ _ _ rfl) ?_
      refine v_bipush (v := nI 6) d_X12_tell_97 x_bp_6 ?_
      refine v_iload_n d_X12_tell_99 rfl ?_
      first | refine v_imulN d_X12_tell_100 ?_ | refine v_imul d_X12_tell_100 ?_
      refine v_iald _ d_X12_tell_101 (rfl) (hS _ _ rfl) (⟨by omega, by omega⟩) (rfl) ?_
      refine v_iadd d_X12_tell_102 ?_
      refine v_ret (v := some (.int _)) d_X12_tell_103 rfl ⟨rfl, _, rfl, rfl⟩ (by decide) (by decide) ?_
      have e0 : ¬ (¬ g_sf I (nI k)) := by unfold g_sf; omega
      have e1 : ¬ (I 40 k).toInt = 1 := by omega
      have e2 : (I 40 k).toInt = 2 := by omega
      simp only [q_tell, q_tlt, x_if_f e0, y_k, x_if_f e1, x_if_t e2] at hK
      try simp only [x_uu, x_u2_s]
      exact hK
    · refine v_look (off := 82) (tgt := 104) d_X12_tell_22 (by decide) (by rw [e]; decide) (by decide) ?_
      refine v_aload_n d_X12_tell_104 rfl ?_
      refine v_iconst (v := nI 1) d_X12_tell_105 x_ic_1 ?_
      refine v_cv (as := [_]) (rest := []) d_X12_tell_106 lv_X12_275_12 (hS _ _ rfl) rfl ⟨by decide, by decide⟩ rfl (Nat.le_of_ble_eq_true rfl) (by decide) (by decide) ?_
      refine t_X12_begins hS hP ?_
      refine v_iload_n d_X12_tell_109 rfl ?_
      refine v_ret (v := some (.int _)) d_X12_tell_110 rfl ⟨rfl, _, rfl, rfl⟩ (by decide) (by decide) ?_
      have e0 : ¬ (¬ g_sf I (nI k)) := by unfold g_sf; omega
      have e1 : ¬ (I 40 k).toInt = 1 := by omega
      have e2 : ¬ (I 40 k).toInt = 2 := by omega
      simp only [q_tell, q_tlt, x_if_f e0, y_k, x_if_f e1, x_if_f e2] at hK
      try simp only [x_uu, x_u2_s]
      exact hK
  · refine w_if_ne d_X12_tell_5 (fun h5 => absurd h5 (by decide)) (fun _ => ?_)
    refine v_iconst (v := (-1)) d_X12_tell_8 x_ic_m1 ?_
    refine v_ret (v := some (.int _)) d_X12_tell_9 rfl ⟨rfl, _, rfl, rfl⟩ (by decide) (by decide) ?_
    have e0 : ¬ g_sf I s := by unfold g_sf; omega
    simp only [q_tell, q_tlt, x_if_t e0, h0] at hK
    exact hK

