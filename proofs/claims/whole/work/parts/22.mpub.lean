set_option maxRecDepth 100000 in
set_option maxHeartbeats 4000000 in
theorem t_X12_about {K : x_K} {S : x_S} {P : x_P} {I : x_I} {J : x_J} {n : Nat} {s what : Int32} (hn : 0 ≤ (I 39 2).toInt ∧ (I 39 2).toInt ≤ 10) (hfo : ∀ s, s < m_ns I → m_fo I s) (hS : x_hS S) (hP : x_hP P) (hK : K (some (.int (q_about I s what))) S P I J n) : x_Call f_X12_about [.ref 39, .int s, .int what] K S P I J n := by
  have hns : m_ns I = (I 39 2).toInt.toNat := rfl
  refine x_intro (by decide) 0 (ls := [_, _, _]) rfl (Nat.le_of_ble_eq_true rfl) ?_
  refine v_aload_n d_X12_about_0 rfl ?_
  refine v_iload_n d_X12_about_1 rfl ?_
  refine v_cv (as := [_]) (rest := []) d_X12_about_2 lv_X12_97_12 (hS _ _ rfl) rfl ⟨by decide, by decide⟩ rfl (Nat.le_of_ble_eq_true rfl) (by decide) (by decide) ?_
  refine t_X12_isSurface hS hP (fun q => ?_) (fun q => ?_)
  · refine w_if_ne d_X12_about_5 (fun _ => ?_) (fun h5 => absurd h5 (by decide))
    refine v_iload_n d_X12_about_10 rfl ?_
    refine w_if_ne d_X12_about_11 (fun h11 => ?_) (fun h11 => ?_)
    · try simp (disch := omega) only [x_ti, x_tm1] at h11
      refine v_iload_n d_X12_about_21 rfl ?_
      refine v_iconst (v := nI 1) d_X12_about_22 x_ic_1 ?_
      refine v_bipush (v := nI 6) d_X12_about_23 x_bp_6 ?_
      refine v_cs (as := [_, _, _]) (rest := []) d_X12_about_25 ls_X12_90 rfl ⟨by decide, by decide⟩ rfl (Nat.le_of_ble_eq_true rfl) (by decide) (by decide) ?_
      refine t_X12_within (x_ti (k := 1) (by decide)) (x_ti (k := 6) (by decide)) (fun q2 => ?_) (fun q2 => ?_)
      · refine w_if_eq d_X12_about_28 (fun h28 => absurd h28 (by decide)) (fun _ => ?_)
        obtain ⟨k, rfl, hk_k, t_k, y_k⟩ := x_ex1 (s := s) (by omega)
        obtain ⟨w, rfl, hk_w, t_w, y_w⟩ := x_ex1 (s := what) (by omega)
        obtain ⟨w, rfl⟩ : ∃ z, w = z + 1 := ⟨w - 1, by omega⟩
        refine v_aload_n d_X12_about_31 rfl ?_
        refine v_gr d_X12_about_32 lf_X12_13_12 rfl (hS _ _ rfl) (hP _ _ _ rfl) ?_
        refine v_bipush (v := nI 6) d_X12_about_35 x_bp_6 ?_
        refine v_iload_n d_X12_about_37 rfl ?_
        first | refine v_imulN d_X12_about_38 ?_ | refine v_imul d_X12_about_38 ?_
        refine v_iload_n d_X12_about_39 rfl ?_
        first | refine v_iaddN d_X12_about_40 ?_ | refine v_iadd d_X12_about_40 ?_
        refine v_iconst (v := nI 1) d_X12_about_41 x_ic_1 ?_
        refine v_isub d_X12_about_42 ?_
        refine v_iald (6 * k + w) d_X12_about_43 (by rw [show nI (6 * k + (w + 1)) = nI (6 * k + w + 1) from rfl]; exact x_subN (a := 6 * k + w + 1) (b := 1) (by omega)) (hS _ _ rfl) (⟨by omega, by omega⟩) (rfl) ?_
        refine v_ret (v := some (.int _)) d_X12_about_44 rfl ⟨rfl, _, rfl, rfl⟩ (by decide) (by decide) ?_
        have e0 : ¬ (¬ g_sf I (nI k)) := by first | (unfold g_sf; omega) | omega
        have e1 : ¬ ((nI (w + 1)).toInt = 0) := by first | (unfold g_sf; omega) | omega
        have e2 : 1 ≤ (nI (w + 1)).toInt ∧ (nI (w + 1)).toInt ≤ 6 := by first | (unfold g_sf; omega) | omega
        simp only [q_about, x_if_f e0, x_if_f e1, x_if_t e2, y_k, y_w, Nat.add_sub_cancel] at hK
        exact hK
      · refine w_if_eq d_X12_about_28 (fun _ => ?_) (fun h28 => absurd h28 (by decide))
        refine v_iload_n d_X12_about_45 rfl ?_
        refine v_bipush (v := nI 7) d_X12_about_46 x_bp_7 ?_
        refine w_icmp_ne d_X12_about_48 (fun h48 => ?_) (fun h48 => ?_)
        · try simp (disch := omega) only [x_ti, x_tm1] at h48
          refine v_bipush (v := (-2)) d_X12_about_59 x_bp_m2 ?_
          refine v_ret (v := some (.int _)) d_X12_about_61 rfl ⟨rfl, _, rfl, rfl⟩ (by decide) (by decide) ?_
          have e0 : ¬ (¬ g_sf I s) := by first | (unfold g_sf; omega) | omega
          have e1 : ¬ (what.toInt = 0) := by first | (unfold g_sf; omega) | omega
          have e2 : ¬ (1 ≤ what.toInt ∧ what.toInt ≤ 6) := by first | (unfold g_sf; omega) | omega
          have e3 : ¬ (what.toInt = 7) := by first | (unfold g_sf; omega) | omega
          simp only [q_about, x_if_f e0, x_if_f e1, x_if_f e2, x_if_f e3] at hK
          exact hK
        · try simp (disch := omega) only [x_ti, x_tm1] at h48
          obtain ⟨k, rfl, hk_k, t_k, y_k⟩ := x_ex1 (s := s) (by omega)
          refine v_aload_n d_X12_about_51 rfl ?_
          refine v_iload_n d_X12_about_52 rfl ?_
          refine v_cv (as := [_]) (rest := []) d_X12_about_53 lv_X12_120_12 (hS _ _ rfl) rfl ⟨by decide, by decide⟩ rfl (Nat.le_of_ble_eq_true rfl) (by decide) (by decide) ?_
          refine t_X12_painted k rfl (by omega) (hfo k (by omega)) hS hP ?_
          refine v_goto d_X12_about_56 ?_
          refine v_ret (v := some (.int _)) d_X12_about_61 rfl ⟨rfl, _, rfl, rfl⟩ (by decide) (by decide) ?_
          have e0 : ¬ (¬ g_sf I (nI k)) := by first | (unfold g_sf; omega) | omega
          have e1 : ¬ (what.toInt = 0) := by first | (unfold g_sf; omega) | omega
          have e2 : ¬ (1 ≤ what.toInt ∧ what.toInt ≤ 6) := by first | (unfold g_sf; omega) | omega
          have e3 : what.toInt = 7 := by first | (unfold g_sf; omega) | omega
          simp only [q_about, x_if_f e0, x_if_f e1, x_if_f e2, x_if_t e3, y_k] at hK
          exact hK
    · try simp (disch := omega) only [x_ti, x_tm1] at h11
      obtain ⟨k, rfl, hk_k, t_k, y_k⟩ := x_ex1 (s := s) (by omega)
      refine v_aload_n d_X12_about_14 rfl ?_
      refine v_gr d_X12_about_15 lf_X12_7_12 rfl (hS _ _ rfl) (hP _ _ _ rfl) ?_
      refine v_iload_n d_X12_about_18 rfl ?_
      refine v_iald _ d_X12_about_19 (rfl) (hS _ _ rfl) (⟨by omega, by omega⟩) (rfl) ?_
      refine v_ret (v := some (.int _)) d_X12_about_20 rfl ⟨rfl, _, rfl, rfl⟩ (by decide) (by decide) ?_
      have e0 : ¬ (¬ g_sf I (nI k)) := by first | (unfold g_sf; omega) | omega
      have e1 : what.toInt = 0 := by first | (unfold g_sf; omega) | omega
      simp only [q_about, x_if_f e0, x_if_t e1, y_k] at hK
      exact hK
  · refine w_if_ne d_X12_about_5 (fun h5 => absurd h5 (by decide)) (fun _ => ?_)
    refine v_iconst (v := (-1)) d_X12_about_8 x_ic_m1 ?_
    refine v_ret (v := some (.int _)) d_X12_about_9 rfl ⟨rfl, _, rfl, rfl⟩ (by decide) (by decide) ?_
    have e0 : ¬ g_sf I s := by unfold g_sf; omega
    simp only [q_about, x_if_t e0] at hK
    exact hK

set_option maxRecDepth 100000 in
set_option maxHeartbeats 4000000 in
theorem t_X12_eye {K : x_K} {S : x_S} {P : x_P} {I : x_I} {J : x_J} {n : Nat} {e x y z : Int32} (hS : x_hS S) (hP : x_hP P) (hK : K (some (.int (q_eye e x y z))) S P (z_eye I e x y z) J n) : x_Call f_X12_eye [.ref 39, .int e, .int x, .int y, .int z] K S P I J n := by
  refine x_intro (by decide) 0 (ls := [_, _, _, _, _]) rfl (Nat.le_of_ble_eq_true rfl) ?_
  refine v_iload_n d_X12_eye_0 rfl ?_
  refine v_cs (as := [_]) (rest := []) d_X12_eye_1 ls_X12_123 rfl ⟨by decide, by decide⟩ rfl (Nat.le_of_ble_eq_true rfl) (by decide) (by decide) ?_
  refine t_X12_isEye (fun q => ?_) (fun q => ?_)
  · refine w_if_ne d_X12_eye_4 (fun _ => ?_) (fun h4 => absurd h4 (by decide))
    refine v_iload_n d_X12_eye_9 rfl ?_
    refine v_iload_n d_X12_eye_10 rfl ?_
    refine v_iload d_X12_eye_11 rfl ?_
    refine v_cs (as := [_, _, _]) (rest := []) d_X12_eye_13 ls_X12_126 rfl ⟨by decide, by decide⟩ rfl (Nat.le_of_ble_eq_true rfl) (by decide) (by decide) ?_
    refine t_X12_isPlace (fun q2 => ?_) (fun q2 => ?_)
    · refine w_if_ne d_X12_eye_16 (fun _ => ?_) (fun h16 => absurd h16 (by decide))
      obtain ⟨k, rfl, hk_k, t_k, y_k⟩ := x_ex1 (s := e) (by omega)
      refine v_aload_n d_X12_eye_22 rfl ?_
      refine v_gr d_X12_eye_23 lf_X12_19_12 rfl (hS _ _ rfl) (hP _ _ _ rfl) ?_
      refine v_iconst (v := nI 3) d_X12_eye_26 x_ic_3 ?_
      refine v_iload_n d_X12_eye_27 rfl ?_
      first | refine v_imulN d_X12_eye_28 ?_ | refine v_imul d_X12_eye_28 ?_
      refine v_iload_n d_X12_eye_29 rfl ?_
      refine v_iast _ d_X12_eye_30 (rfl) (hS _ _ rfl) (⟨by omega, by omega⟩) ?_
      refine v_aload_n d_X12_eye_31 rfl ?_
      refine v_gr d_X12_eye_32 lf_X12_19_12 rfl (hS _ _ rfl) (hP _ _ _ rfl) ?_
      refine v_iconst (v := nI 3) d_X12_eye_35 x_ic_3 ?_
      refine v_iload_n d_X12_eye_36 rfl ?_
      first | refine v_imulN d_X12_eye_37 ?_ | refine v_imul d_X12_eye_37 ?_
      refine v_iconst (v := nI 1) d_X12_eye_38 x_ic_1 ?_
      first | refine v_iaddN d_X12_eye_39 ?_ | refine v_iadd d_X12_eye_39 ?_
      refine v_iload_n d_X12_eye_40 rfl ?_
      refine v_iast _ d_X12_eye_41 (rfl) (hS _ _ rfl) (⟨by omega, by omega⟩) ?_
      refine v_aload_n d_X12_eye_42 rfl ?_
      refine v_gr d_X12_eye_43 lf_X12_19_12 rfl (hS _ _ rfl) (hP _ _ _ rfl) ?_
      refine v_iconst (v := nI 3) d_X12_eye_46 x_ic_3 ?_
      refine v_iload_n d_X12_eye_47 rfl ?_
      first | refine v_imulN d_X12_eye_48 ?_ | refine v_imul d_X12_eye_48 ?_
      refine v_iconst (v := nI 2) d_X12_eye_49 x_ic_2 ?_
      first | refine v_iaddN d_X12_eye_50 ?_ | refine v_iadd d_X12_eye_50 ?_
      refine v_iload d_X12_eye_51 rfl ?_
      refine v_iast _ d_X12_eye_53 (rfl) (hS _ _ rfl) (⟨by omega, by omega⟩) ?_
      refine v_iconst (v := nI 1) d_X12_eye_54 x_ic_1 ?_
      refine v_ret (v := some (.int _)) d_X12_eye_55 rfl ⟨rfl, _, rfl, rfl⟩ (by decide) (by decide) ?_
      have e0 : ¬ (¬ g_ey (nI k)) := by first | (unfold g_ey; omega) | (unfold g_pl; omega)
      have e1 : ¬ (¬ g_pl x y z) := by first | (unfold g_ey; omega) | (unfold g_pl; omega)
      simp only [q_eye, z_eye, x_if_f e0, x_if_f e1, y_k] at hK
      exact hK
    · refine w_if_ne d_X12_eye_16 (fun h16 => absurd h16 (by decide)) (fun _ => ?_)
      refine v_bipush (v := (-2)) d_X12_eye_19 x_bp_m2 ?_
      refine v_ret (v := some (.int _)) d_X12_eye_21 rfl ⟨rfl, _, rfl, rfl⟩ (by decide) (by decide) ?_
      have e0 : ¬ (¬ g_ey e) := by first | (unfold g_ey; omega) | (unfold g_pl; omega)
      have e1 : ¬ g_pl x y z := by first | (unfold g_ey; omega) | (unfold g_pl; omega)
      simp only [q_eye, z_eye, x_if_f e0, x_if_t e1] at hK
      exact hK
  · refine w_if_ne d_X12_eye_4 (fun h4 => absurd h4 (by decide)) (fun _ => ?_)
    refine v_iconst (v := (-1)) d_X12_eye_7 x_ic_m1 ?_
    refine v_ret (v := some (.int _)) d_X12_eye_8 rfl ⟨rfl, _, rfl, rfl⟩ (by decide) (by decide) ?_
    have e0 : ¬ g_ey e := by first | (unfold g_ey; omega) | omega
    simp only [q_eye, z_eye, x_if_t e0] at hK
    exact hK

set_option maxRecDepth 100000 in
set_option maxHeartbeats 4000000 in
theorem t_X12_paint {K : x_K} {S : x_S} {P : x_P} {I : x_I} {J : x_J} {n : Nat} {s c v : Int32} (hn : 0 ≤ (I 39 2).toInt ∧ (I 39 2).toInt ≤ 10) (hfo : ∀ s, s < m_ns I → m_fo I s) (hS : x_hS S) (hP : x_hP P) (hK : K (some (.int (q_paint I s c v))) S P (z_paint I s c v) J n) : x_Call f_X12_paint [.ref 39, .int s, .int c, .int v] K S P I J n := by
  have hns : m_ns I = (I 39 2).toInt.toNat := rfl
  refine x_intro (by decide) 1 (ls := [_, _, _, _, _]) rfl (Nat.le_of_ble_eq_true rfl) ?_
  refine v_aload_n d_X12_paint_0 rfl ?_
  refine v_iload_n d_X12_paint_1 rfl ?_
  refine v_iload_n d_X12_paint_2 rfl ?_
  refine v_cv (as := [_, _]) (rest := []) d_X12_paint_3 lv_X12_146_12 (hS _ _ rfl) rfl ⟨by decide, by decide⟩ rfl (Nat.le_of_ble_eq_true rfl) (by decide) (by decide) ?_
  refine t_X12_isCell hn.2 hS hP (fun q => ?_) (fun q => ?_)
  · refine w_if_ne d_X12_paint_6 (fun _ => ?_) (fun h6 => absurd h6 (by decide))
    refine v_iload_n d_X12_paint_11 rfl ?_
    refine v_iconst (v := nI 0) d_X12_paint_12 x_ic_0 ?_
    refine v_bipush (v := nI 9) d_X12_paint_13 x_bp_9 ?_
    refine v_cs (as := [_, _, _]) (rest := []) d_X12_paint_15 ls_X12_90 rfl ⟨by decide, by decide⟩ rfl (Nat.le_of_ble_eq_true rfl) (by decide) (by decide) ?_
    refine t_X12_within (x_ti (k := 0) (by decide)) (x_ti (k := 9) (by decide)) (fun q2 => ?_) (fun q2 => ?_)
    · refine w_if_ne d_X12_paint_18 (fun _ => ?_) (fun h18 => absurd h18 (by decide))
      obtain ⟨k, rfl, hk_k, t_k, y_k⟩ := x_ex1 (s := s) (by omega)
      obtain ⟨j, rfl, hk_j, t_j, y_j⟩ := x_ex1 (s := c) (by omega)
      have hk10 : k < 10 := by omega
      have hf := m_ce_in (hfo k (by omega))
      have hj64 : j < 64 := by rw [y_k] at q; omega
      refine v_aload_n d_X12_paint_24 rfl ?_
      refine v_gr d_X12_paint_25 lf_X12_7_12 rfl (hS _ _ rfl) (hP _ _ _ rfl) ?_
      refine v_iload_n d_X12_paint_28 rfl ?_
      refine v_iald _ d_X12_paint_29 (rfl) (hS _ _ rfl) (⟨by omega, by omega⟩) (rfl) ?_
      refine v_iconst (v := nI 1) d_X12_paint_30 x_ic_1 ?_
      refine w_icmp_ne d_X12_paint_31 (fun h31 => ?_) (fun h31 => ?_)
      · try simp (disch := omega) only [x_ti, x_tm1] at h31
        refine v_aload_n d_X12_paint_37 rfl ?_
        refine v_gr d_X12_paint_38 lf_X12_16_12 rfl (hS _ _ rfl) (hP _ _ _ rfl) ?_
        refine v_bipush (v := nI 64) d_X12_paint_41 x_bp_64 ?_
        refine v_iload_n d_X12_paint_43 rfl ?_
        first | refine v_imulN d_X12_paint_44 ?_ | refine v_imul d_X12_paint_44 ?_
        refine v_iload_n d_X12_paint_45 rfl ?_
        first | refine v_iaddN d_X12_paint_46 ?_ | refine v_iadd d_X12_paint_46 ?_
        refine v_iald _ d_X12_paint_47 (rfl) (hS _ _ rfl) (⟨by omega, by omega⟩) (rfl) ?_
        refine v_istore (ls' := [_, _, _, _, _]) d_X12_paint_48 (by decide) rfl ?_
        refine v_aload_n d_X12_paint_50 rfl ?_
        refine v_gr d_X12_paint_51 lf_X12_16_12 rfl (hS _ _ rfl) (hP _ _ _ rfl) ?_
        refine v_bipush (v := nI 64) d_X12_paint_54 x_bp_64 ?_
        refine v_iload_n d_X12_paint_56 rfl ?_
        first | refine v_imulN d_X12_paint_57 ?_ | refine v_imul d_X12_paint_57 ?_
        refine v_iload_n d_X12_paint_58 rfl ?_
        first | refine v_iaddN d_X12_paint_59 ?_ | refine v_iadd d_X12_paint_59 ?_
        refine v_iload_n d_X12_paint_60 rfl ?_
        refine v_iast _ d_X12_paint_61 (rfl) (hS _ _ rfl) (⟨by omega, by omega⟩) ?_
        refine v_iload d_X12_paint_62 rfl ?_
        refine v_ret (v := some (.int _)) d_X12_paint_64 rfl ⟨rfl, _, rfl, rfl⟩ (by decide) (by decide) ?_
        have e0 : ¬ (¬ g_ce I (nI k) (nI j)) := by first | (unfold g_ce; first | omega | (rw [y_k]; omega) | (rw [y_k] at q; rw [y_k]; omega)) | omega
        have e1 : ¬ (¬ (0 ≤ v.toInt ∧ v.toInt ≤ 9)) := by first | (unfold g_ce; first | omega | (rw [y_k]; omega) | (rw [y_k] at q; rw [y_k]; omega)) | omega
        have e2 : ¬ ((I 40 k).toInt = 1) := by first | (unfold g_ce; first | omega | (rw [y_k]; omega) | (rw [y_k] at q; rw [y_k]; omega)) | omega
        simp only [q_paint, z_paint, x_if_f e0, x_if_f e1, x_if_f e2, y_k, y_j] at hK
        exact hK
      · try simp (disch := omega) only [x_ti, x_tm1] at h31
        refine v_bipush (v := (-3)) d_X12_paint_34 x_bp_m3 ?_
        refine v_ret (v := some (.int _)) d_X12_paint_36 rfl ⟨rfl, _, rfl, rfl⟩ (by decide) (by decide) ?_
        have e0 : ¬ (¬ g_ce I (nI k) (nI j)) := by first | (unfold g_ce; first | omega | (rw [y_k]; omega) | (rw [y_k] at q; rw [y_k]; omega)) | omega
        have e1 : ¬ (¬ (0 ≤ v.toInt ∧ v.toInt ≤ 9)) := by first | (unfold g_ce; first | omega | (rw [y_k]; omega) | (rw [y_k] at q; rw [y_k]; omega)) | omega
        have e2 : (I 40 k).toInt = 1 := by first | (unfold g_ce; first | omega | (rw [y_k]; omega) | (rw [y_k] at q; rw [y_k]; omega)) | omega
        simp only [q_paint, z_paint, y_k, y_j, x_if_f e0, x_if_f e1, x_if_t e2, y_k, y_j] at hK
        exact hK
    · refine w_if_ne d_X12_paint_18 (fun h18 => absurd h18 (by decide)) (fun _ => ?_)
      refine v_bipush (v := (-2)) d_X12_paint_21 x_bp_m2 ?_
      refine v_ret (v := some (.int _)) d_X12_paint_23 rfl ⟨rfl, _, rfl, rfl⟩ (by decide) (by decide) ?_
      have e0 : ¬ (¬ g_ce I s c) := by first | (unfold g_ce; first | omega | (rw [y_k]; omega) | (rw [y_k] at q; rw [y_k]; omega)) | omega
      have e1 : ¬ (0 ≤ v.toInt ∧ v.toInt ≤ 9) := by first | (unfold g_ce; first | omega | (rw [y_k]; omega) | (rw [y_k] at q; rw [y_k]; omega)) | omega
      simp only [q_paint, z_paint, x_if_f e0, x_if_t e1] at hK
      exact hK
  · refine w_if_ne d_X12_paint_6 (fun h6 => absurd h6 (by decide)) (fun _ => ?_)
    refine v_iconst (v := (-1)) d_X12_paint_9 x_ic_m1 ?_
    refine v_ret (v := some (.int _)) d_X12_paint_10 rfl ⟨rfl, _, rfl, rfl⟩ (by decide) (by decide) ?_
    have e0 : ¬ g_ce I s c := by first | (unfold g_ce; first | omega | (rw [y_k]; omega) | (rw [y_k] at q; rw [y_k]; omega)) | omega
    simp only [q_paint, z_paint, x_if_t e0] at hK
    exact hK

set_option maxRecDepth 100000 in
set_option maxHeartbeats 4000000 in
theorem t_X12_colour {K : x_K} {S : x_S} {P : x_P} {I : x_I} {J : x_J} {n : Nat} {s c : Int32} (hn : 0 ≤ (I 39 2).toInt ∧ (I 39 2).toInt ≤ 10) (hfo : ∀ s, s < m_ns I → m_fo I s) (hS : x_hS S) (hP : x_hP P) (hK : K (some (.int (q_colour I s c))) S P I J n) : x_Call f_X12_colour [.ref 39, .int s, .int c] K S P I J n := by
  have hns : m_ns I = (I 39 2).toInt.toNat := rfl
  refine x_intro (by decide) 0 (ls := [_, _, _]) rfl (Nat.le_of_ble_eq_true rfl) ?_
  refine v_aload_n d_X12_colour_0 rfl ?_
  refine v_iload_n d_X12_colour_1 rfl ?_
  refine v_iload_n d_X12_colour_2 rfl ?_
  refine v_cv (as := [_, _]) (rest := []) d_X12_colour_3 lv_X12_146_12 (hS _ _ rfl) rfl ⟨by decide, by decide⟩ rfl (Nat.le_of_ble_eq_true rfl) (by decide) (by decide) ?_
  refine t_X12_isCell hn.2 hS hP (fun q => ?_) (fun q => ?_)
  · refine w_if_eq d_X12_colour_6 (fun h6 => absurd h6 (by decide)) (fun _ => ?_)
    obtain ⟨k, rfl, hk_k, t_k, y_k⟩ := x_ex1 (s := s) (by omega)
    obtain ⟨j, rfl, hk_j, t_j, y_j⟩ := x_ex1 (s := c) (by omega)
    have hk10 : k < 10 := by omega
    have hf := m_ce_in (hfo k (by omega))
    have hj64 : j < 64 := by rw [y_k] at q; omega
    refine v_aload_n d_X12_colour_9 rfl ?_
    refine v_gr d_X12_colour_10 lf_X12_16_12 rfl (hS _ _ rfl) (hP _ _ _ rfl) ?_
    refine v_bipush (v := nI 64) d_X12_colour_13 x_bp_64 ?_
    refine v_iload_n d_X12_colour_15 rfl ?_
    first | refine v_imulN d_X12_colour_16 ?_ | refine v_imul d_X12_colour_16 ?_
    refine v_iload_n d_X12_colour_17 rfl ?_
    first | refine v_iaddN d_X12_colour_18 ?_ | refine v_iadd d_X12_colour_18 ?_
    refine v_iald _ d_X12_colour_19 (rfl) (hS _ _ rfl) (⟨by omega, by omega⟩) (rfl) ?_
    refine v_goto d_X12_colour_20 ?_
    refine v_ret (v := some (.int _)) d_X12_colour_24 rfl ⟨rfl, _, rfl, rfl⟩ (by decide) (by decide) ?_
    have e0 : g_ce I (nI k) (nI j) := by first | (unfold g_ce; first | omega | (rw [y_k]; omega) | (rw [y_k] at q; rw [y_k]; omega)) | omega
    simp only [q_colour, x_if_t e0, y_k, y_j] at hK
    exact hK
  · refine w_if_eq d_X12_colour_6 (fun _ => ?_) (fun h6 => absurd h6 (by decide))
    refine v_iconst (v := (-1)) d_X12_colour_23 x_ic_m1 ?_
    refine v_ret (v := some (.int _)) d_X12_colour_24 rfl ⟨rfl, _, rfl, rfl⟩ (by decide) (by decide) ?_
    have e0 : ¬ (g_ce I s c) := by first | (unfold g_ce; first | omega | (rw [y_k]; omega) | (rw [y_k] at q; rw [y_k]; omega)) | omega
    simp only [q_colour, x_if_f e0] at hK
    exact hK

