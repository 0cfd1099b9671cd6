set_option maxRecDepth 100000 in
set_option maxHeartbeats 4000000 in
theorem t_X11_eye {K : x_K} {S : x_S} {P : x_P} {I : x_I} {J : x_J} {n : Nat} {e x y z : Int32} {fa : Nat → Nat} {bd : Nat} {Z : x_I} (hR : c_R fa bd Z S P I J n) (mi : m_I Z) (hK : c_K K (z_eye Z e x y z) I J n (.int (q_eye e x y z))) : x_Call f_X11_eye [.ref 1, .int e, .int x, .int y, .int z] K S P I J n := by
  have hS := hR.hS
  have hP := hR.hP
  have hn := mi.hn
  have hfo := mi.fo
  have h9 : m_ns Z = (Z 39 2).toInt.toNat := rfl
  refine x_intro (by decide) 0 (ls := [_, _, _, _, _]) rfl (Nat.le_of_ble_eq_true rfl) ?_
  refine v_iload_n d_X11_eye_0 rfl ?_
  refine v_cs (as := [_]) (rest := []) d_X11_eye_1 ls_X11_118 rfl ⟨by decide, by decide⟩ rfl (Nat.le_of_ble_eq_true rfl) (by decide) (by decide) ?_
  refine t_X2_hasEye (fun q1 => ?_) (fun q1 => ?_)
  · refine w_if_ne d_X11_eye_4 (fun _ => ?_) (fun h4 => absurd h4 (by decide))
    refine v_iload_n d_X11_eye_9 rfl ?_
    refine v_iload_n d_X11_eye_10 rfl ?_
    refine v_iload d_X11_eye_11 rfl ?_
    refine v_cs (as := [_, _, _]) (rest := []) d_X11_eye_13 ls_X11_122 rfl ⟨by decide, by decide⟩ rfl (Nat.le_of_ble_eq_true rfl) (by decide) (by decide) ?_
    refine t_X11_isPlace (fun q2 => ?_) (fun q2 => ?_)
    · obtain ⟨k, rfl, hk_k, t_k, y_k⟩ := x_ex1 (s := e) (q1.1)
      have q3 := q1.2
      rw [t_k] at q3
      refine w_if_ne d_X11_eye_16 (fun _ => ?_) (fun h16 => absurd h16 (by decide))
      refine v_aload_n d_X11_eye_22 rfl ?_
      refine v_gr d_X11_eye_23 lf_X11_39_11 rfl (hS _ _ rfl) (hP _ _ _ rfl) ?_
      refine v_iload_n d_X11_eye_26 rfl ?_
      refine v_iload_n d_X11_eye_27 rfl ?_
      refine v_iload_n d_X11_eye_28 rfl ?_
      refine v_iload d_X11_eye_29 rfl ?_
      refine v_cv (as := [_, _, _, _]) (rest := []) d_X11_eye_31 lv_X11_125_2 (hS _ _ rfl) rfl ⟨by decide, by decide⟩ rfl (Nat.le_of_ble_eq_true rfl) (by decide) (by decide) ?_
      refine t_X2_moveEye k rfl (by omega) hS hP ?_
      refine v_iconst (v := nI 1) d_X11_eye_34 x_ic_1 ?_
      refine v_ret (v := some (.int _)) d_X11_eye_35 rfl ⟨rfl, _, rfl, rfl⟩ (by decide) (by decide) ?_
      have ec0 : ¬ (¬ g_ey (nI k)) := fun z => z q1
      have ec1 : ¬ (¬ g_pl x y z) := fun z => z q2
      simp only [q_eye, z_eye, x_if_f ec0, x_if_f ec1, y_k] at hK
      exact hK _ _ _ _ _ ⟨fa, bd, hR.ey_ hn.2⟩ (((x_ex.rf.ui rfl).ui rfl).ui rfl) (by omega)
    · refine w_if_ne d_X11_eye_16 (fun h16 => absurd h16 (by decide)) (fun _ => ?_)
      refine v_bipush (v := (-2)) d_X11_eye_19 x_bp_m2 ?_
      refine v_ret (v := some (.int _)) d_X11_eye_21 rfl ⟨rfl, _, rfl, rfl⟩ (by decide) (by decide) ?_
      have ec0 : ¬ (¬ g_ey e) := fun z => z q1
      have ec1 : ¬ g_pl x y z := q2
      simp only [q_eye, z_eye, x_if_f ec0, x_if_t ec1] at hK
      exact hK _ _ _ _ _ ⟨fa, bd, hR⟩ (x_ex.rf) (by omega)
  · refine w_if_ne d_X11_eye_4 (fun h4 => absurd h4 (by decide)) (fun _ => ?_)
    refine v_iconst (v := (-1)) d_X11_eye_7 x_ic_m1 ?_
    refine v_ret (v := some (.int _)) d_X11_eye_8 rfl ⟨rfl, _, rfl, rfl⟩ (by decide) (by decide) ?_
    have ec0 : ¬ g_ey e := q1
    simp only [q_eye, z_eye, x_if_t ec0] at hK
    exact hK _ _ _ _ _ ⟨fa, bd, hR⟩ (x_ex.rf) (by omega)

set_option maxRecDepth 100000 in
set_option maxHeartbeats 4000000 in
theorem t_X11_wish {K : x_K} {S : x_S} {P : x_P} {I : x_I} {J : x_J} {n : Nat} {e c : Int32} {fa : Nat → Nat} {bd : Nat} {Z : x_I} (hR : c_R fa bd Z S P I J n) (mi : m_I Z) (hK : c_K K (z_wish Z e) I J n (.int (q_wish Z e c))) : x_Call f_X11_wish [.ref 1, .int e, .int c] K S P I J n := by
  have hS := hR.hS
  have hP := hR.hP
  have hn := mi.hn
  have hfo := mi.fo
  have h9 : m_ns Z = (Z 39 2).toInt.toNat := rfl
  refine x_intro (by decide) 0 (ls := [_, _, _]) rfl (Nat.le_of_ble_eq_true rfl) ?_
  refine v_aload_n d_X11_wish_0 rfl ?_
  refine v_gr d_X11_wish_1 lf_X11_39_11 rfl (hS _ _ rfl) (hP _ _ _ rfl) ?_
  refine v_iload_n d_X11_wish_4 rfl ?_
  refine v_iload_n d_X11_wish_5 rfl ?_
  refine v_cv (as := [_, _]) (rest := []) d_X11_wish_6 lv_X11_156_2 (hS _ _ rfl) rfl ⟨by decide, by decide⟩ rfl (Nat.le_of_ble_eq_true rfl) (by decide) (by decide) ?_
  refine t_X2_sees hR mi (fun q => ?_) (fun q => ?_)
  · have hbm := m_ce_in mi.bo
    have q1 := q.1.1
    have q2 := q.1.2
    have q3 := q.2.1
    have q4 := q.2.2
    obtain ⟨k, rfl, hk_k, t_k, y_k⟩ := x_ex1 (s := e) (q1)
    obtain ⟨j, rfl, hk_j, t_j, y_j⟩ := x_ex1 (s := c) (q3)
    refine w_if_eq d_X11_wish_9 (fun h9 => absurd h9 (by decide)) (fun _ => ?_)
    refine v_aload_n d_X11_wish_12 rfl ?_
    refine v_gr d_X11_wish_13 lf_X11_39_11 rfl (hS _ _ rfl) (hP _ _ _ rfl) ?_
    refine v_iload_n d_X11_wish_16 rfl ?_
    refine v_iload_n d_X11_wish_17 rfl ?_
    refine v_cv (as := [_, _]) (rest := []) d_X11_wish_18 lv_X11_160_2 (hS _ _ rfl) rfl ⟨by decide, by decide⟩ rfl (Nat.le_of_ble_eq_true rfl) (by decide) (by decide) ?_
    refine t_X2_wished hR mi k j rfl (by omega) rfl (by omega) ?_
    refine v_goto d_X11_wish_21 ?_
    refine v_ret (v := some (.int _)) d_X11_wish_25 rfl ⟨rfl, _, rfl, rfl⟩ (by decide) (by decide) ?_
    have ec0 : g_ey (nI k) ∧ 0 ≤ (nI j).toInt ∧ (nI j).toInt < m_ce (m_nb Z) 10 := q
    simp only [q_wish, x_if_t ec0, y_k, y_j, m_nb_at Z (show 44 ≠ 41 by decide) (show ¬ (44 = 39 ∧ 64 * k + j = 8) by omega)] at hK
    exact hK _ _ _ _ _ ⟨fa, bd, hR.zw hn.2 _⟩ (x_ex.rf) (by omega)
  · refine w_if_eq d_X11_wish_9 (fun _ => ?_) (fun h9 => absurd h9 (by decide))
    refine v_iconst (v := (-1)) d_X11_wish_24 x_ic_m1 ?_
    refine v_ret (v := some (.int _)) d_X11_wish_25 rfl ⟨rfl, _, rfl, rfl⟩ (by decide) (by decide) ?_
    have ec0 : ¬ (g_ey e ∧ 0 ≤ c.toInt ∧ c.toInt < m_ce (m_nb Z) 10) := q
    simp only [q_wish, x_if_f ec0] at hK
    exact hK _ _ _ _ _ ⟨fa, bd, hR.zw hn.2 e⟩ (x_ex.rf) (by omega)

set_option maxRecDepth 100000 in
set_option maxHeartbeats 4000000 in
theorem t_X11_seen {K : x_K} {S : x_S} {P : x_P} {I : x_I} {J : x_J} {n : Nat} {e c : Int32} {fa : Nat → Nat} {bd : Nat} {Z : x_I} (hR : c_R fa bd Z S P I J n) (mi : m_I Z) (hK : c_K K (z_wish Z e) I J n (.int (q_seen Z e c))) : x_Call f_X11_seen [.ref 1, .int e, .int c] K S P I J n := by
  have hS := hR.hS
  have hP := hR.hP
  have hn := mi.hn
  have hfo := mi.fo
  have h9 : m_ns Z = (Z 39 2).toInt.toNat := rfl
  refine x_intro (by decide) 0 (ls := [_, _, _]) rfl (Nat.le_of_ble_eq_true rfl) ?_
  refine v_aload_n d_X11_seen_0 rfl ?_
  refine v_gr d_X11_seen_1 lf_X11_39_11 rfl (hS _ _ rfl) (hP _ _ _ rfl) ?_
  refine v_iload_n d_X11_seen_4 rfl ?_
  refine v_iload_n d_X11_seen_5 rfl ?_
  refine v_cv (as := [_, _]) (rest := []) d_X11_seen_6 lv_X11_156_2 (hS _ _ rfl) rfl ⟨by decide, by decide⟩ rfl (Nat.le_of_ble_eq_true rfl) (by decide) (by decide) ?_
  refine t_X2_sees hR mi (fun q => ?_) (fun q => ?_)
  · have hbm := m_ce_in mi.bo
    have q1 := q.1.1
    have q2 := q.1.2
    have q3 := q.2.1
    have q4 := q.2.2
    obtain ⟨k, rfl, hk_k, t_k, y_k⟩ := x_ex1 (s := e) (q1)
    obtain ⟨j, rfl, hk_j, t_j, y_j⟩ := x_ex1 (s := c) (q3)
    refine w_if_eq d_X11_seen_9 (fun h9 => absurd h9 (by decide)) (fun _ => ?_)
    refine v_aload_n d_X11_seen_12 rfl ?_
    refine v_gr d_X11_seen_13 lf_X11_39_11 rfl (hS _ _ rfl) (hP _ _ _ rfl) ?_
    refine v_iload_n d_X11_seen_16 rfl ?_
    refine v_iload_n d_X11_seen_17 rfl ?_
    refine v_cv (as := [_, _]) (rest := []) d_X11_seen_18 lv_X11_192_2 (hS _ _ rfl) rfl ⟨by decide, by decide⟩ rfl (Nat.le_of_ble_eq_true rfl) (by decide) (by decide) ?_
    refine t_X2_look (hR.nb hn.2) mi.nb (m_nb_nb Z) k j rfl (by omega) rfl (by omega) (fun P' I' h1 h2 => ?_)
    refine v_goto d_X11_seen_21 ?_
    refine v_ret (v := some (.int _)) d_X11_seen_25 rfl ⟨rfl, _, rfl, rfl⟩ (by decide) (by decide) ?_
    have ec0 : g_ey (nI k) ∧ 0 ≤ (nI j).toInt ∧ (nI j).toInt < m_ce (m_nb Z) 10 := q
    simp only [q_seen, x_if_t ec0, y_k, y_j] at hK
    exact hK _ _ _ _ _ ⟨fa, bd, (hR.zw hn.2 _).cgE h2 h1⟩ (h2.EC) (by omega)
  · refine w_if_eq d_X11_seen_9 (fun _ => ?_) (fun h9 => absurd h9 (by decide))
    refine v_iconst (v := (-1)) d_X11_seen_24 x_ic_m1 ?_
    refine v_ret (v := some (.int _)) d_X11_seen_25 rfl ⟨rfl, _, rfl, rfl⟩ (by decide) (by decide) ?_
    have ec0 : ¬ (g_ey e ∧ 0 ≤ c.toInt ∧ c.toInt < m_ce (m_nb Z) 10) := q
    simp only [q_seen, x_if_f ec0] at hK
    exact hK _ _ _ _ _ ⟨fa, bd, hR.zw hn.2 e⟩ (x_ex.rf) (by omega)

set_option maxRecDepth 100000 in
set_option maxHeartbeats 4000000 in
theorem t_X11_paint {K : x_K} {S : x_S} {P : x_P} {I : x_I} {J : x_J} {n : Nat} {s c v : Int32} {fa : Nat → Nat} {bd : Nat} {Z : x_I} (hR : c_R fa bd Z S P I J n) (mi : m_I Z) (hK : c_K K (z_paint Z s c v) I J n (.int (q_paint Z s c v))) : x_Call f_X11_paint [.ref 1, .int s, .int c, .int v] K S P I J n := by
  have hS := hR.hS
  have hP := hR.hP
  have hn := mi.hn
  have hfo := mi.fo
  have h9 : m_ns Z = (Z 39 2).toInt.toNat := rfl
  refine x_intro (by decide) 2 (ls := [_, _, _, _, _, _]) rfl (Nat.le_of_ble_eq_true rfl) ?_
  refine v_aload_n d_X11_paint_0 rfl ?_
  refine v_gr d_X11_paint_1 lf_X11_21_11 rfl (hS _ _ rfl) (hP _ _ _ rfl) ?_
  refine v_iload_n d_X11_paint_4 rfl ?_
  refine v_cv (as := [_]) (rest := []) d_X11_paint_5 lv_X11_78_8 (hS _ _ rfl) rfl ⟨by decide, by decide⟩ rfl (Nat.le_of_ble_eq_true rfl) (by decide) (by decide) ?_
  refine t_X8_wall hR mi (fun q => ?_) (fun k e hk hk10 => ?_)
  · refine v_astoreN (ls' := [_, _, _, _, _, _]) d_X11_paint_8 (by decide) rfl ?_
    refine v_aloadN d_X11_paint_10 rfl ?_
    refine v_ifnullN d_X11_paint_12 ?_
    refine v_iconst (v := (-1)) d_X11_paint_27 x_ic_m1 ?_
    refine v_ret (v := some (.int _)) d_X11_paint_28 rfl ⟨rfl, _, rfl, rfl⟩ (by decide) (by decide) ?_
    first
      | (have ec0 : ¬ g_ce Z s c := fun z => q z.1
         simp only [q_paint, z_paint, x_if_t ec0] at hK
         exact hK _ _ _ _ _ ⟨fa, bd, hR⟩ (x_ex.rf) (by omega))
      | (have ec0 : ¬ g_ce Z (nI k) c := fun z => q2 (by have z2 := z.2; rw [y_k] at z2; exact z2)
         simp only [q_paint, z_paint, x_if_t ec0] at hK
         exact hK _ _ _ _ _ ⟨fa, bd, hR⟩ (x_ex.rf) (by omega))
  · subst e
    have hw := hR.w hk
    have y_k := x_kn (show k < 2147483648 by omega)
    refine v_astore (ls' := [_, _, _, _, _, _]) d_X11_paint_8 (by decide) rfl ?_
    refine v_aload d_X11_paint_10 rfl ?_
    refine v_ifnull d_X11_paint_12 ?_
    refine v_aload d_X11_paint_15 rfl ?_
    refine v_gr d_X11_paint_17 (lfw_X11_82 (c_kc_ok _)) (x_ftw1 (c_kc_ok _)) (hw.sw) (hw.pf) ?_
    refine v_iload_n d_X11_paint_20 rfl ?_
    refine v_cv (as := [_]) (rest := []) d_X11_paint_21 lv_X11_164_1 (hw.sf) rfl ⟨by decide, by decide⟩ rfl (Nat.le_of_ble_eq_true rfl) (by decide) (by decide) ?_
    refine t_X1_has hw.sf hw.fl (fun q2 => ?_) (fun q2 => ?_)
    · have hmc := m_ce_in (hfo k hk)
      obtain ⟨j, rfl, hk_j, t_j, y_j⟩ := x_ex1 (s := c) (q2.1)
      have qj := q2.2
      rw [t_j] at qj
      refine w_if_ne d_X11_paint_24 (fun _ => ?_) (fun h24 => absurd h24 (by decide))
      refine v_iload_n d_X11_paint_29 rfl ?_
      refine v_cs (as := [_]) (rest := []) d_X11_paint_30 ls_X11_165 rfl ⟨by decide, by decide⟩ rfl (Nat.le_of_ble_eq_true rfl) (by decide) (by decide) ?_
      refine t_X11_isColour (fun q3 => ?_) (fun q3 => ?_)
      · refine w_if_ne d_X11_paint_33 (fun _ => ?_) (fun h33 => absurd h33 (by decide))
        refine v_aload d_X11_paint_39 rfl ?_
        refine sv_X11_paint_41 hw (mi.kd k hk) (fun qk => ?_) (fun qk => ?_)
        · refine w_if_ne d_X11_paint_44 (fun _ => ?_) (fun h44 => absurd h44 (by decide))
          refine v_aload d_X11_paint_50 rfl ?_
          refine v_gr d_X11_paint_52 (lfw_X11_171 (c_kc_ok _)) (x_ftw2 (c_kc_ok _)) (hw.sw) (hw.pc) ?_
          refine v_iload_n d_X11_paint_55 rfl ?_
          refine v_iald _ d_X11_paint_56 (rfl) (hw.sc) (⟨by omega, by omega⟩) (hw.co j (by omega)) ?_
          refine v_istore (ls' := [_, _, _, _, _, _]) d_X11_paint_57 (by decide) rfl ?_
          refine v_aload d_X11_paint_59 rfl ?_
          refine v_gr d_X11_paint_61 (lfw_X11_171 (c_kc_ok _)) (x_ftw2 (c_kc_ok _)) (hw.sw) (hw.pc) ?_
          refine v_iload_n d_X11_paint_64 rfl ?_
          refine v_iload_n d_X11_paint_65 rfl ?_
          refine v_iast _ d_X11_paint_66 (rfl) (hw.sc) (⟨by omega, by omega⟩) ?_
          refine v_iload d_X11_paint_67 rfl ?_
          refine v_ret (v := some (.int _)) d_X11_paint_69 rfl ⟨rfl, _, rfl, rfl⟩ (by decide) (by decide) ?_
          have ec0 : ¬ (¬ g_ce Z (nI k) (nI j)) := fun z => z (by unfold g_ce; rw [y_k, x_ti (by omega), x_ti (by omega)]; omega)
          have ec1 : ¬ (¬ (0 ≤ v.toInt ∧ v.toInt ≤ 9)) := fun z => z q3
          have ec2 : ¬ ((Z 40 k).toInt = 1) := qk
          simp only [q_paint, z_paint, x_if_f ec0, x_if_f ec1, x_if_f ec2, y_k, y_j] at hK
          exact hK _ _ _ _ _ ⟨fa, bd, hR.co_ hk (by omega) mi.ce6⟩ (x_ex.rf.ui (cC_hi (by have := hw.ad; omega) _)) (by omega)
        · refine w_if_ne d_X11_paint_44 (fun h44 => absurd h44 (by decide)) (fun _ => ?_)
          refine v_bipush (v := (-3)) d_X11_paint_47 x_bp_m3 ?_
          refine v_ret (v := some (.int _)) d_X11_paint_49 rfl ⟨rfl, _, rfl, rfl⟩ (by decide) (by decide) ?_
          have ec0 : ¬ (¬ g_ce Z (nI k) (nI j)) := fun z => z (by unfold g_ce; rw [y_k, x_ti (by omega), x_ti (by omega)]; omega)
          have ec1 : ¬ (¬ (0 ≤ v.toInt ∧ v.toInt ≤ 9)) := fun z => z q3
          have ec2 : (Z 40 k).toInt = 1 := qk
          simp only [q_paint, z_paint, x_if_f ec0, x_if_f ec1, x_if_t ec2, y_k] at hK
          exact hK _ _ _ _ _ ⟨fa, bd, hR⟩ (x_ex.rf) (by omega)
      · refine w_if_ne d_X11_paint_33 (fun h33 => absurd h33 (by decide)) (fun _ => ?_)
        refine v_bipush (v := (-2)) d_X11_paint_36 x_bp_m2 ?_
        refine v_ret (v := some (.int _)) d_X11_paint_38 rfl ⟨rfl, _, rfl, rfl⟩ (by decide) (by decide) ?_
        have ec0 : ¬ (¬ g_ce Z (nI k) (nI j)) := fun z => z (by unfold g_ce; rw [y_k, x_ti (by omega), x_ti (by omega)]; omega)
        have ec1 : ¬ (0 ≤ v.toInt ∧ v.toInt ≤ 9) := q3
        simp only [q_paint, z_paint, x_if_f ec0, x_if_t ec1, y_k] at hK
        exact hK _ _ _ _ _ ⟨fa, bd, hR⟩ (x_ex.rf) (by omega)
    · refine w_if_ne d_X11_paint_24 (fun h24 => absurd h24 (by decide)) (fun _ => ?_)
      refine v_iconst (v := (-1)) d_X11_paint_27 x_ic_m1 ?_
      refine v_ret (v := some (.int _)) d_X11_paint_28 rfl ⟨rfl, _, rfl, rfl⟩ (by decide) (by decide) ?_
      first
        | (have ec0 : ¬ g_ce Z s c := fun z => q z.1
           simp only [q_paint, z_paint, x_if_t ec0] at hK
           exact hK _ _ _ _ _ ⟨fa, bd, hR⟩ (x_ex.rf) (by omega))
        | (have ec0 : ¬ g_ce Z (nI k) c := fun z => q2 (by have z2 := z.2; rw [y_k] at z2; exact z2)
           simp only [q_paint, z_paint, x_if_t ec0] at hK
           exact hK _ _ _ _ _ ⟨fa, bd, hR⟩ (x_ex.rf) (by omega))

set_option maxRecDepth 100000 in
set_option maxHeartbeats 4000000 in
theorem t_X11_colour {K : x_K} {S : x_S} {P : x_P} {I : x_I} {J : x_J} {n : Nat} {s c : Int32} {fa : Nat → Nat} {bd : Nat} {Z : x_I} (hR : c_R fa bd Z S P I J n) (mi : m_I Z) (hK : c_K K (Z) I J n (.int (q_colour Z s c))) : x_Call f_X11_colour [.ref 1, .int s, .int c] K S P I J n := by
  have hS := hR.hS
  have hP := hR.hP
  have hn := mi.hn
  have hfo := mi.fo
  have h9 : m_ns Z = (Z 39 2).toInt.toNat := rfl
  refine x_intro (by decide) 1 (ls := [_, _, _, _]) rfl (Nat.le_of_ble_eq_true rfl) ?_
  refine v_aload_n d_X11_colour_0 rfl ?_
  refine v_gr d_X11_colour_1 lf_X11_21_11 rfl (hS _ _ rfl) (hP _ _ _ rfl) ?_
  refine v_iload_n d_X11_colour_4 rfl ?_
  refine v_cv (as := [_]) (rest := []) d_X11_colour_5 lv_X11_78_8 (hS _ _ rfl) rfl ⟨by decide, by decide⟩ rfl (Nat.le_of_ble_eq_true rfl) (by decide) (by decide) ?_
  refine t_X8_wall hR mi (fun q => ?_) (fun k e hk hk10 => ?_)
  · refine v_astore_nN (ls' := [_, _, _, _]) d_X11_colour_8 (by decide) rfl ?_
    refine v_aload_nN d_X11_colour_9 rfl ?_
    refine v_ifnullN d_X11_colour_10 ?_
    refine v_iconst (v := (-1)) d_X11_colour_24 x_ic_m1 ?_
    refine v_ret (v := some (.int _)) d_X11_colour_25 rfl ⟨rfl, _, rfl, rfl⟩ (by decide) (by decide) ?_
    first
      | (have ec0 : ¬ g_ce Z s c := fun z => q z.1
         simp only [q_colour, x_if_f ec0] at hK
         exact hK _ _ _ _ _ ⟨fa, bd, hR⟩ (x_ex.rf) (by omega))
      | (have ec0 : ¬ g_ce Z (nI k) c := fun z => q2 (by have z2 := z.2; rw [y_k] at z2; exact z2)
         simp only [q_colour, x_if_f ec0] at hK
         exact hK _ _ _ _ _ ⟨fa, bd, hR⟩ (x_ex.rf) (by omega))
  · subst e
    have hw := hR.w hk
    have y_k := x_kn (show k < 2147483648 by omega)
    refine v_astore_n (ls' := [_, _, _, _]) d_X11_colour_8 (by decide) rfl ?_
    refine v_aload_n d_X11_colour_9 rfl ?_
    refine v_ifnull d_X11_colour_10 ?_
    refine v_aload_n d_X11_colour_13 rfl ?_
    refine v_gr d_X11_colour_14 (lfw_X11_82 (c_kc_ok _)) (x_ftw1 (c_kc_ok _)) (hw.sw) (hw.pf) ?_
    refine v_iload_n d_X11_colour_17 rfl ?_
    refine v_cv (as := [_]) (rest := []) d_X11_colour_18 lv_X11_164_1 (hw.sf) rfl ⟨by decide, by decide⟩ rfl (Nat.le_of_ble_eq_true rfl) (by decide) (by decide) ?_
    refine t_X1_has hw.sf hw.fl (fun q2 => ?_) (fun q2 => ?_)
    · have hmc := m_ce_in (hfo k hk)
      obtain ⟨j, rfl, hk_j, t_j, y_j⟩ := x_ex1 (s := c) (q2.1)
      have qj := q2.2
      rw [t_j] at qj
      refine w_if_ne d_X11_colour_21 (fun _ => ?_) (fun h21 => absurd h21 (by decide))
      refine v_aload_n d_X11_colour_26 rfl ?_
      refine v_gr d_X11_colour_27 (lfw_X11_171 (c_kc_ok _)) (x_ftw2 (c_kc_ok _)) (hw.sw) (hw.pc) ?_
      refine v_iload_n d_X11_colour_30 rfl ?_
      refine v_iald _ d_X11_colour_31 (rfl) (hw.sc) (⟨by omega, by omega⟩) (hw.co j (by omega)) ?_
      refine v_ret (v := some (.int _)) d_X11_colour_32 rfl ⟨rfl, _, rfl, rfl⟩ (by decide) (by decide) ?_
      have ec0 : g_ce Z (nI k) (nI j) := by unfold g_ce; rw [y_k, x_ti (by omega), x_ti (by omega)]; omega
      simp only [q_colour, x_if_t ec0, y_k, y_j] at hK
      exact hK _ _ _ _ _ ⟨fa, bd, hR⟩ (x_ex.rf) (by omega)
    · refine w_if_ne d_X11_colour_21 (fun h21 => absurd h21 (by decide)) (fun _ => ?_)
      refine v_iconst (v := (-1)) d_X11_colour_24 x_ic_m1 ?_
      refine v_ret (v := some (.int _)) d_X11_colour_25 rfl ⟨rfl, _, rfl, rfl⟩ (by decide) (by decide) ?_
      first
        | (have ec0 : ¬ g_ce Z s c := fun z => q z.1
           simp only [q_colour, x_if_f ec0] at hK
           exact hK _ _ _ _ _ ⟨fa, bd, hR⟩ (x_ex.rf) (by omega))
        | (have ec0 : ¬ g_ce Z (nI k) c := fun z => q2 (by have z2 := z.2; rw [y_k] at z2; exact z2)
           simp only [q_colour, x_if_f ec0] at hK
           exact hK _ _ _ _ _ ⟨fa, bd, hR⟩ (x_ex.rf) (by omega))

set_option maxRecDepth 100000 in
set_option maxHeartbeats 4000000 in
theorem t_X11_ray {K : x_K} {S : x_S} {P : x_P} {I : x_I} {J : x_J} {n : Nat} {x y z a b c : Int32} {fa : Nat → Nat} {bd : Nat} {Z : x_I} (hR : c_R fa bd Z S P I J n) (mi : m_I Z) (hK : c_K K (Z) I J n (.int (q_ray Z x y z a b c))) : x_Call f_X11_ray [.ref 1, .int x, .int y, .int z, .int a, .int b, .int c] K S P I J n := by
  have hS := hR.hS
  have hP := hR.hP
  have hn := mi.hn
  have hfo := mi.fo
  have h9 : m_ns Z = (Z 39 2).toInt.toNat := rfl
  refine x_intro (by decide) 0 (ls := [_, _, _, _, _, _, _]) rfl (Nat.le_of_ble_eq_true rfl) ?_
  refine v_iload_n d_X11_ray_0 rfl ?_
  refine v_iload_n d_X11_ray_1 rfl ?_
  refine v_iload_n d_X11_ray_2 rfl ?_
  refine v_cs (as := [_, _, _]) (rest := []) d_X11_ray_3 ls_X11_122 rfl ⟨by decide, by decide⟩ rfl (Nat.le_of_ble_eq_true rfl) (by decide) (by decide) ?_
  refine t_X11_isPlace (fun q1 => ?_) (fun q1 => ?_)
  · refine w_if_eq d_X11_ray_6 (fun h6 => absurd h6 (by decide)) (fun _ => ?_)
    refine v_iload d_X11_ray_9 rfl ?_
    refine v_iload d_X11_ray_11 rfl ?_
    refine v_iload d_X11_ray_13 rfl ?_
    refine v_bipush (v := nI 99) d_X11_ray_15 x_bp_99 ?_
    refine v_cs (as := [_, _, _, _]) (rest := []) d_X11_ray_17 ls_X11_175 rfl ⟨by decide, by decide⟩ rfl (Nat.le_of_ble_eq_true rfl) (by decide) (by decide) ?_
    refine t_X11_isDirection 99 rfl (by decide) (fun q2 => ?_) (fun q2 => ?_)
    · obtain ⟨p1, p2, p3⟩ := id q1
      obtain ⟨⟨d1, d2, d3⟩, -⟩ := id q2
      have y1 := x_t2 (x := x) (by omega)
      have y2 := x_t2 (x := y) (by omega)
      have y3 := x_t2 (x := z) (by omega)
      refine w_if_ne d_X11_ray_20 (fun _ => ?_) (fun h20 => absurd h20 (by decide))
      refine v_aload_n d_X11_ray_26 rfl ?_
      refine v_gr d_X11_ray_27 lf_X11_30_11 rfl (hS _ _ rfl) (hP _ _ _ rfl) ?_
      refine v_iconst (v := nI 2) d_X11_ray_30 x_ic_2 ?_
      refine v_iload_n d_X11_ray_31 rfl ?_
      refine v_imul d_X11_ray_32 ?_
      refine v_iconst (v := nI 2) d_X11_ray_33 x_ic_2 ?_
      refine v_iload_n d_X11_ray_34 rfl ?_
      refine v_imul d_X11_ray_35 ?_
      refine v_iconst (v := nI 2) d_X11_ray_36 x_ic_2 ?_
      refine v_iload_n d_X11_ray_37 rfl ?_
      refine v_imul d_X11_ray_38 ?_
      refine v_cv (as := [_, _, _]) (rest := []) d_X11_ray_39 lv_X11_179_6 (hS _ _ rfl) rfl ⟨by decide, by decide⟩ rfl (Nat.le_of_ble_eq_true rfl) (by decide) (by decide) ?_
      refine t_X6_standAt hS hP ?_
      refine v_aload_n d_X11_ray_42 rfl ?_
      refine v_gr d_X11_ray_43 lf_X11_30_11 rfl (hS _ _ rfl) (hP _ _ _ rfl) ?_
      refine v_iload d_X11_ray_46 rfl ?_
      refine v_iload d_X11_ray_48 rfl ?_
      refine v_iload d_X11_ray_50 rfl ?_
      refine v_cv (as := [_, _, _]) (rest := []) d_X11_ray_52 lv_X11_183_6 (hS _ _ rfl) rfl ⟨by decide, by decide⟩ rfl (Nat.le_of_ble_eq_true rfl) (by decide) (by decide) ?_
      refine t_X6_headFor hS hP ?_
      have hx2 : x_ex cE I (x_u2 (x_u2 (x_u2 (x_u2 (x_u2 (x_u2 I 6 0 (nI 2 * x)) 6 1 (nI 2 * y)) 6 2 (nI 2 * z)) 7 0 a) 7 1 b) 7 2 c) J J := (((((x_ex.rf.ui rfl).ui rfl).ui rfl).ui rfl).ui rfl).ui rfl
      have hR2 := hR.cgE hx2 p_ex.rf
      refine v_aload_n d_X11_ray_55 rfl ?_
      refine v_gr d_X11_ray_56 lf_X11_30_11 rfl (hS _ _ rfl) (hP _ _ _ rfl) ?_
      refine v_iconst (v := (-1)) d_X11_ray_59 x_ic_m1 ?_
      refine v_cv (as := [_]) (rest := []) d_X11_ray_60 lv_X11_186_6 (hS _ _ rfl) rfl ⟨by decide, by decide⟩ rfl (Nat.le_of_ble_eq_true rfl) (by decide) (by decide) ?_
      refine t_X6_go hR2 mi (fun a ha => by
    rcases (show a = 0 ∨ a = 1 ∨ a = 2 by omega) with rfl | rfl | rfl
    · show -90 ≤ (nI 2 * x).toInt ∧ (nI 2 * x).toInt ≤ 90; omega
    · show -90 ≤ (nI 2 * y).toInt ∧ (nI 2 * y).toInt ≤ 90; omega
    · show -90 ≤ (nI 2 * z).toInt ∧ (nI 2 * z).toInt ≤ 90; omega) (fun i ha => by
    rcases (show i = 0 ∨ i = 1 ∨ i = 2 by omega) with rfl | rfl | rfl
    · show -100 ≤ a.toInt ∧ a.toInt ≤ 100; omega
    · show -100 ≤ b.toInt ∧ b.toInt ≤ 100; omega
    · show -100 ≤ c.toInt ∧ c.toInt ≤ 100; omega) (fun P' I' h1 h2 h3 => ?_)
      refine v_ret (v := some (.int _)) d_X11_ray_63 rfl ⟨rfl, _, rfl, rfl⟩ (by decide) (by decide) ?_
      have ec0 : g_ry x y z a b c := ⟨q1, q2⟩
      simp only [q_ray, x_if_t ec0] at hK
      have es := r_see (I := (x_u2 (x_u2 (x_u2 (x_u2 (x_u2 (x_u2 I 6 0 (nI 2 * x)) 6 1 (nI 2 * y)) 6 2 (nI 2 * z)) 7 0 a) 7 1 b) 7 2 c)) (X := x.toInt) (Y := y.toInt) (W := z.toInt) (A := a.toInt) (B := b.toInt) (C := c.toInt) hfo (fun i ha => by
        rcases (show i = 0 ∨ i = 1 ∨ i = 2 by omega) with rfl | rfl | rfl
        · exact y1
        · exact y2
        · exact y3) (fun i ha => by
        rcases (show i = 0 ∨ i = 1 ∨ i = 2 by omega) with rfl | rfl | rfl <;> rfl)
      rw [← es] at hK
      exact hK _ _ _ _ _ ⟨fa, bd, hR.cgE (hx2.tr h2) h1⟩ (hx2.tr h2).EC (by omega)
    · refine w_if_ne d_X11_ray_20 (fun h20 => absurd h20 (by decide)) (fun _ => ?_)
      refine v_bipush (v := (-2)) d_X11_ray_23 x_bp_m2 ?_
      refine v_ret (v := some (.int _)) d_X11_ray_25 rfl ⟨rfl, _, rfl, rfl⟩ (by decide) (by decide) ?_
      first
        | (have ec0 : ¬ (g_ry x y z a b c) := fun w => q1 w.1
           simp only [q_ray, x_if_f ec0] at hK
           exact hK _ _ _ _ _ ⟨fa, bd, hR⟩ (x_ex.rf) (by omega))
        | (have ec0 : ¬ (g_ry x y z a b c) := fun w => q2 w.2
           simp only [q_ray, x_if_f ec0] at hK
           exact hK _ _ _ _ _ ⟨fa, bd, hR⟩ (x_ex.rf) (by omega))
  · refine w_if_eq d_X11_ray_6 (fun _ => ?_) (fun h6 => absurd h6 (by decide))
    refine v_bipush (v := (-2)) d_X11_ray_23 x_bp_m2 ?_
    refine v_ret (v := some (.int _)) d_X11_ray_25 rfl ⟨rfl, _, rfl, rfl⟩ (by decide) (by decide) ?_
    first
      | (have ec0 : ¬ (g_ry x y z a b c) := fun w => q1 w.1
         simp only [q_ray, x_if_f ec0] at hK
         exact hK _ _ _ _ _ ⟨fa, bd, hR⟩ (x_ex.rf) (by omega))
      | (have ec0 : ¬ (g_ry x y z a b c) := fun w => q2 w.2
         simp only [q_ray, x_if_f ec0] at hK
         exact hK _ _ _ _ _ ⟨fa, bd, hR⟩ (x_ex.rf) (by omega))

set_option maxRecDepth 100000 in
set_option maxHeartbeats 4000000 in
theorem t_X11_bounces {K : x_K} {S : x_S} {P : x_P} {I : x_I} {J : x_J} {n : Nat} {x y z a b c : Int32} {fa : Nat → Nat} {bd : Nat} {Z : x_I} (hR : c_R fa bd Z S P I J n) (mi : m_I Z) (hK : c_K K (Z) I J n (.int (q_bounces Z x y z a b c))) : x_Call f_X11_bounces [.ref 1, .int x, .int y, .int z, .int a, .int b, .int c] K S P I J n := by
  have hS := hR.hS
  have hP := hR.hP
  have hn := mi.hn
  have hfo := mi.fo
  have h9 : m_ns Z = (Z 39 2).toInt.toNat := rfl
  refine x_intro (by decide) 0 (ls := [_, _, _, _, _, _, _]) rfl (Nat.le_of_ble_eq_true rfl) ?_
  refine v_iload_n d_X11_bounces_0 rfl ?_
  refine v_iload_n d_X11_bounces_1 rfl ?_
  refine v_iload_n d_X11_bounces_2 rfl ?_
  refine v_cs (as := [_, _, _]) (rest := []) d_X11_bounces_3 ls_X11_122 rfl ⟨by decide, by decide⟩ rfl (Nat.le_of_ble_eq_true rfl) (by decide) (by decide) ?_
  refine t_X11_isPlace (fun q1 => ?_) (fun q1 => ?_)
  · refine w_if_eq d_X11_bounces_6 (fun h6 => absurd h6 (by decide)) (fun _ => ?_)
    refine v_iload d_X11_bounces_9 rfl ?_
    refine v_iload d_X11_bounces_11 rfl ?_
    refine v_iload d_X11_bounces_13 rfl ?_
    refine v_bipush (v := nI 99) d_X11_bounces_15 x_bp_99 ?_
    refine v_cs (as := [_, _, _, _]) (rest := []) d_X11_bounces_17 ls_X11_175 rfl ⟨by decide, by decide⟩ rfl (Nat.le_of_ble_eq_true rfl) (by decide) (by decide) ?_
    refine t_X11_isDirection 99 rfl (by decide) (fun q2 => ?_) (fun q2 => ?_)
    · obtain ⟨p1, p2, p3⟩ := id q1
      obtain ⟨⟨d1, d2, d3⟩, -⟩ := id q2
      have y1 := x_t2 (x := x) (by omega)
      have y2 := x_t2 (x := y) (by omega)
      have y3 := x_t2 (x := z) (by omega)
      refine w_if_ne d_X11_bounces_20 (fun _ => ?_) (fun h20 => absurd h20 (by decide))
      refine v_aload_n d_X11_bounces_26 rfl ?_
      refine v_gr d_X11_bounces_27 lf_X11_30_11 rfl (hS _ _ rfl) (hP _ _ _ rfl) ?_
      refine v_iconst (v := nI 2) d_X11_bounces_30 x_ic_2 ?_
      refine v_iload_n d_X11_bounces_31 rfl ?_
      refine v_imul d_X11_bounces_32 ?_
      refine v_iconst (v := nI 2) d_X11_bounces_33 x_ic_2 ?_
      refine v_iload_n d_X11_bounces_34 rfl ?_
      refine v_imul d_X11_bounces_35 ?_
      refine v_iconst (v := nI 2) d_X11_bounces_36 x_ic_2 ?_
      refine v_iload_n d_X11_bounces_37 rfl ?_
      refine v_imul d_X11_bounces_38 ?_
      refine v_cv (as := [_, _, _]) (rest := []) d_X11_bounces_39 lv_X11_179_6 (hS _ _ rfl) rfl ⟨by decide, by decide⟩ rfl (Nat.le_of_ble_eq_true rfl) (by decide) (by decide) ?_
      refine t_X6_standAt hS hP ?_
      refine v_aload_n d_X11_bounces_42 rfl ?_
      refine v_gr d_X11_bounces_43 lf_X11_30_11 rfl (hS _ _ rfl) (hP _ _ _ rfl) ?_
      refine v_iload d_X11_bounces_46 rfl ?_
      refine v_iload d_X11_bounces_48 rfl ?_
      refine v_iload d_X11_bounces_50 rfl ?_
      refine v_cv (as := [_, _, _]) (rest := []) d_X11_bounces_52 lv_X11_183_6 (hS _ _ rfl) rfl ⟨by decide, by decide⟩ rfl (Nat.le_of_ble_eq_true rfl) (by decide) (by decide) ?_
      refine t_X6_headFor hS hP ?_
      have hx2 : x_ex cE I (x_u2 (x_u2 (x_u2 (x_u2 (x_u2 (x_u2 I 6 0 (nI 2 * x)) 6 1 (nI 2 * y)) 6 2 (nI 2 * z)) 7 0 a) 7 1 b) 7 2 c) J J := (((((x_ex.rf.ui rfl).ui rfl).ui rfl).ui rfl).ui rfl).ui rfl
      have hR2 := hR.cgE hx2 p_ex.rf
      refine v_aload_n d_X11_bounces_55 rfl ?_
      refine v_gr d_X11_bounces_56 lf_X11_30_11 rfl (hS _ _ rfl) (hP _ _ _ rfl) ?_
      refine v_iconst (v := (-1)) d_X11_bounces_59 x_ic_m1 ?_
      refine v_cv (as := [_]) (rest := []) d_X11_bounces_60 lv_X11_186_6 (hS _ _ rfl) rfl ⟨by decide, by decide⟩ rfl (Nat.le_of_ble_eq_true rfl) (by decide) (by decide) ?_
      refine t_X6_go hR2 mi (fun a ha => by
    rcases (show a = 0 ∨ a = 1 ∨ a = 2 by omega) with rfl | rfl | rfl
    · show -90 ≤ (nI 2 * x).toInt ∧ (nI 2 * x).toInt ≤ 90; omega
    · show -90 ≤ (nI 2 * y).toInt ∧ (nI 2 * y).toInt ≤ 90; omega
    · show -90 ≤ (nI 2 * z).toInt ∧ (nI 2 * z).toInt ≤ 90; omega) (fun i ha => by
    rcases (show i = 0 ∨ i = 1 ∨ i = 2 by omega) with rfl | rfl | rfl
    · show -100 ≤ a.toInt ∧ a.toInt ≤ 100; omega
    · show -100 ≤ b.toInt ∧ b.toInt ≤ 100; omega
    · show -100 ≤ c.toInt ∧ c.toInt ≤ 100; omega) (fun P' I' h1 h2 h3 => ?_)
      refine v_pop d_X11_bounces_63 rfl ?_
      have hP := h1.hP hP
      refine v_aload_n d_X11_bounces_64 rfl ?_
      refine v_gr d_X11_bounces_65 lf_X11_30_11 rfl (hS _ _ rfl) (hP _ _ _ rfl) ?_
      refine v_gie d_X11_bounces_68 lf_X11_189_6 rfl (hS _ _ rfl) (h3) ?_
      refine v_ret (v := some (.int _)) d_X11_bounces_71 rfl ⟨rfl, _, rfl, rfl⟩ (by decide) (by decide) ?_
      have ec0 : g_ry x y z a b c := ⟨q1, q2⟩
      simp only [q_bounces, x_if_t ec0] at hK
      have es := r_see (I := (x_u2 (x_u2 (x_u2 (x_u2 (x_u2 (x_u2 I 6 0 (nI 2 * x)) 6 1 (nI 2 * y)) 6 2 (nI 2 * z)) 7 0 a) 7 1 b) 7 2 c)) (X := x.toInt) (Y := y.toInt) (W := z.toInt) (A := a.toInt) (B := b.toInt) (C := c.toInt) hfo (fun i ha => by
        rcases (show i = 0 ∨ i = 1 ∨ i = 2 by omega) with rfl | rfl | rfl
        · exact y1
        · exact y2
        · exact y3) (fun i ha => by
        rcases (show i = 0 ∨ i = 1 ∨ i = 2 by omega) with rfl | rfl | rfl <;> rfl)
      rw [← es] at hK
      exact hK _ _ _ _ _ ⟨fa, bd, hR.cgE (hx2.tr h2) h1⟩ (hx2.tr h2).EC (by omega)
    · refine w_if_ne d_X11_bounces_20 (fun h20 => absurd h20 (by decide)) (fun _ => ?_)
      refine v_bipush (v := (-2)) d_X11_bounces_23 x_bp_m2 ?_
      refine v_ret (v := some (.int _)) d_X11_bounces_25 rfl ⟨rfl, _, rfl, rfl⟩ (by decide) (by decide) ?_
      first
        | (have ec0 : ¬ (g_ry x y z a b c) := fun w => q1 w.1
           simp only [q_bounces, x_if_f ec0] at hK
           exact hK _ _ _ _ _ ⟨fa, bd, hR⟩ (x_ex.rf) (by omega))
        | (have ec0 : ¬ (g_ry x y z a b c) := fun w => q2 w.2
           simp only [q_bounces, x_if_f ec0] at hK
           exact hK _ _ _ _ _ ⟨fa, bd, hR⟩ (x_ex.rf) (by omega))
  · refine w_if_eq d_X11_bounces_6 (fun _ => ?_) (fun h6 => absurd h6 (by decide))
    refine v_bipush (v := (-2)) d_X11_bounces_23 x_bp_m2 ?_
    refine v_ret (v := some (.int _)) d_X11_bounces_25 rfl ⟨rfl, _, rfl, rfl⟩ (by decide) (by decide) ?_
    first
      | (have ec0 : ¬ (g_ry x y z a b c) := fun w => q1 w.1
         simp only [q_bounces, x_if_f ec0] at hK
         exact hK _ _ _ _ _ ⟨fa, bd, hR⟩ (x_ex.rf) (by omega))
      | (have ec0 : ¬ (g_ry x y z a b c) := fun w => q2 w.2
         simp only [q_bounces, x_if_f ec0] at hK
         exact hK _ _ _ _ _ ⟨fa, bd, hR⟩ (x_ex.rf) (by omega))

set_option maxRecDepth 100000 in
set_option maxHeartbeats 4000000 in
theorem t_X11_trace {K : x_K} {S : x_S} {P : x_P} {I : x_I} {J : x_J} {n : Nat} {fa : Nat → Nat} {bd : Nat} {Z : x_I} (hR : c_R fa bd Z S P I J n) (mi : m_I Z) (hK : c_K K (Z) I J n (.int (Z 39 1))) : x_Call f_X11_trace [.ref 1] K S P I J n := by
  have hS := hR.hS
  have hP := hR.hP
  have hn := mi.hn
  have hfo := mi.fo
  have h9 : m_ns Z = (Z 39 2).toInt.toNat := rfl
  refine x_intro (by decide) 0 (ls := [_]) rfl (Nat.le_of_ble_eq_true rfl) ?_
  refine v_aload_n d_X11_trace_0 rfl ?_
  refine v_gr d_X11_trace_1 lf_X11_12_11 rfl (hS _ _ rfl) (hP _ _ _ rfl) ?_
  refine v_gie d_X11_trace_4 lf_X11_314_9 rfl (hS _ _ rfl) (hR.tra) ?_
  refine v_ret (v := some (.int _)) d_X11_trace_7 rfl ⟨rfl, _, rfl, rfl⟩ (by decide) (by decide) ?_
  exact hK _ _ _ _ _ ⟨fa, bd, hR⟩ x_ex.rf (by omega)

set_option maxRecDepth 100000 in
set_option maxHeartbeats 4000000 in
theorem t_X11_fault {K : x_K} {S : x_S} {P : x_P} {I : x_I} {J : x_J} {n : Nat} {fa : Nat → Nat} {bd : Nat} {Z : x_I} (hR : c_R fa bd Z S P I J n) (mi : m_I Z) (hK : c_K K (Z) I J n (.int (Z 39 0))) : x_Call f_X11_fault [.ref 1] K S P I J n := by
  have hS := hR.hS
  have hP := hR.hP
  have hn := mi.hn
  have hfo := mi.fo
  have h9 : m_ns Z = (Z 39 2).toInt.toNat := rfl
  refine x_intro (by decide) 0 (ls := [_]) rfl (Nat.le_of_ble_eq_true rfl) ?_
  refine v_aload_n d_X11_fault_0 rfl ?_
  refine v_gr d_X11_fault_1 lf_X11_53_11 rfl (hS _ _ rfl) (hP _ _ _ rfl) ?_
  refine v_gie d_X11_fault_4 lf_X11_317_7 rfl (hS _ _ rfl) (hR.fau) ?_
  refine v_ret (v := some (.int _)) d_X11_fault_7 rfl ⟨rfl, _, rfl, rfl⟩ (by decide) (by decide) ?_
  exact hK _ _ _ _ _ ⟨fa, bd, hR⟩ x_ex.rf (by omega)

set_option maxRecDepth 100000 in
set_option maxHeartbeats 4000000 in
theorem t_X11_hour {K : x_K} {S : x_S} {P : x_P} {I : x_I} {J : x_J} {n : Nat} {a b c : Int32} {fa : Nat → Nat} {bd : Nat} {Z : x_I} (hR : c_R fa bd Z S P I J n) (mi : m_I Z) (hK : c_K K (z_hour Z a b c) I J n (.int (q_hour Z a b c))) : x_Call f_X11_hour [.ref 1, .int a, .int b, .int c] K S P I J n := by
  have hS := hR.hS
  have hP := hR.hP
  have hn := mi.hn
  have hfo := mi.fo
  have h9 : m_ns Z = (Z 39 2).toInt.toNat := rfl
  have hh := mi.hh
  refine x_intro (by decide) 0 (ls := [_, _, _, _]) rfl (Nat.le_of_ble_eq_true rfl) ?_
  refine v_iload_n d_X11_hour_0 rfl ?_
  refine v_iload_n d_X11_hour_1 rfl ?_
  refine v_iload_n d_X11_hour_2 rfl ?_
  refine v_bipush (v := nI 9) d_X11_hour_3 x_bp_9 ?_
  refine v_cs (as := [_, _, _, _]) (rest := []) d_X11_hour_5 ls_X11_175 rfl ⟨by decide, by decide⟩ rfl (Nat.le_of_ble_eq_true rfl) (by decide) (by decide) ?_
  refine t_X11_isDirection 9 rfl (by decide) (fun q1 => ?_) (fun q1 => ?_)
  · refine w_if_ne d_X11_hour_8 (fun _ => ?_) (fun h8 => absurd h8 (by decide))
    refine v_aload_n d_X11_hour_14 rfl ?_
    refine v_gr d_X11_hour_15 lf_X11_46_11 rfl (hS _ _ rfl) (hP _ _ _ rfl) ?_
    refine v_gie d_X11_hour_18 lf_X11_228_4 rfl (hS _ _ rfl) (hR.Li.1) ?_
    refine v_bipush (v := nI 6) d_X11_hour_21 x_bp_6 ?_
    refine w_icmp_lt d_X11_hour_23 (fun a23 => ?_) (fun a23 => ?_)
    · try simp (disch := omega) only [x_ti, x_tm1] at a23
      refine v_aload_n d_X11_hour_29 rfl ?_
      refine v_gr d_X11_hour_30 lf_X11_46_11 rfl (hS _ _ rfl) (hP _ _ _ rfl) ?_
      refine v_iload_n d_X11_hour_33 rfl ?_
      refine v_iload_n d_X11_hour_34 rfl ?_
      refine v_iload_n d_X11_hour_35 rfl ?_
      refine v_cv (as := [_, _, _]) (rest := []) d_X11_hour_36 lv_X11_231_4 (hS _ _ rfl) rfl ⟨by decide, by decide⟩ rfl (Nat.le_of_ble_eq_true rfl) (by decide) (by decide) ?_
      refine t_X4_addHour hR mi (by omega) ?_
      refine v_ret (v := some (.int _)) d_X11_hour_39 rfl ⟨rfl, _, rfl, rfl⟩ (by decide) (by decide) ?_
      have ec0 : ¬ (¬ g_dr a b c 9) := fun z => z q1
      have ec1 : ¬ ((Z 39 24).toInt = 6) := by omega
      simp only [q_hour, z_hour, x_if_f ec0, x_if_f ec1] at hK
      exact hK _ _ _ _ _ ⟨fa, bd, hR.hr_ hn.2⟩ ((((x_ex.rf.ui rfl).ui rfl).ui rfl).ui rfl) (by omega)
    · try simp (disch := omega) only [x_ti, x_tm1] at a23
      refine v_bipush (v := (-4)) d_X11_hour_26 x_bp_m4 ?_
      refine v_ret (v := some (.int _)) d_X11_hour_28 rfl ⟨rfl, _, rfl, rfl⟩ (by decide) (by decide) ?_
      have ec0 : ¬ (¬ g_dr a b c 9) := fun z => z q1
      have ec1 : (Z 39 24).toInt = 6 := by omega
      simp only [q_hour, z_hour, x_if_f ec0, x_if_t ec1] at hK
      exact hK _ _ _ _ _ ⟨fa, bd, hR⟩ (x_ex.rf) (by omega)
  · refine w_if_ne d_X11_hour_8 (fun h8 => absurd h8 (by decide)) (fun _ => ?_)
    refine v_bipush (v := (-2)) d_X11_hour_11 x_bp_m2 ?_
    refine v_ret (v := some (.int _)) d_X11_hour_13 rfl ⟨rfl, _, rfl, rfl⟩ (by decide) (by decide) ?_
    have ec0 : ¬ g_dr a b c 9 := q1
    simp only [q_hour, z_hour, x_if_t ec0] at hK
    exact hK _ _ _ _ _ ⟨fa, bd, hR⟩ (x_ex.rf) (by omega)

set_option maxRecDepth 100000 in
set_option maxHeartbeats 4000000 in
theorem t_X11_plate {K : x_K} {S : x_S} {P : x_P} {I : x_I} {J : x_J} {n : Nat} {s : Int32} {fa : Nat → Nat} {bd : Nat} {Z : x_I} (hR : c_R fa bd Z S P I J n) (mi : m_I Z) (hK : c_K K (z_plate Z s) I J n (.int (q_plate Z s))) : x_Call f_X11_plate [.ref 1, .int s] K S P I J n := by
  have hS := hR.hS
  have hP := hR.hP
  have hn := mi.hn
  have hfo := mi.fo
  have h9 : m_ns Z = (Z 39 2).toInt.toNat := rfl
  have cp := c_pl mi
  refine x_intro (by decide) 1 (ls := [_, _, _]) rfl (Nat.le_of_ble_eq_true rfl) ?_
  refine v_iload_n d_X11_plate_0 rfl ?_
  refine v_iconst (v := (-1)) d_X11_plate_1 x_ic_m1 ?_
  refine w_icmp_eq d_X11_plate_2 (fun a2 => ?_) (fun a2 => ?_)
  · try simp (disch := omega) only [x_ti, x_tm1] at a2
    refine v_aload_n d_X11_plate_18 rfl ?_
    refine v_gr d_X11_plate_19 lf_X11_46_11 rfl (hS _ _ rfl) (hP _ _ _ rfl) ?_
    refine v_cv (as := []) (rest := []) d_X11_plate_22 lv_X11_235_4 (hS _ _ rfl) rfl ⟨by decide, by decide⟩ rfl (Nat.le_of_ble_eq_true rfl) (by decide) (by decide) ?_
    refine t_X4_hasPlate hR mi (fun qp => ?_) (fun qp => ?_)
    · refine w_if_eq d_X11_plate_25 (fun h25 => absurd h25 (by decide)) (fun _ => ?_)
      refine v_aload_n d_X11_plate_28 rfl ?_
      refine v_gr d_X11_plate_29 lf_X11_46_11 rfl (hS _ _ rfl) (hP _ _ _ rfl) ?_
      refine v_gie d_X11_plate_32 lf_X11_238_4 rfl (hS _ _ rfl) (hR.Li.2.1.trans (cp.2 qp)) ?_
      refine v_goto d_X11_plate_35 ?_
      try rw [ep]
      refine v_istore_n (ls' := [_, _, _]) d_X11_plate_40 (by decide) rfl ?_
      refine v_aload_n d_X11_plate_41 rfl ?_
      refine v_gr d_X11_plate_42 lf_X11_46_11 rfl (hS _ _ rfl) (hP _ _ _ rfl) ?_
      refine v_iload_n d_X11_plate_45 rfl ?_
      refine v_pi d_X11_plate_46 (lp_X11_238_4 _) rfl (hS _ _ rfl) (rfl) rfl ?_
      refine v_iload_n d_X11_plate_49 rfl ?_
      refine v_ret (v := some (.int _)) d_X11_plate_50 rfl ⟨rfl, _, rfl, rfl⟩ (by decide) (by decide) ?_
      first
        | (have ec0 : ¬ (¬ (s.toInt = -1 ∨ g_sf Z s)) := fun z => z (Or.inl (by omega))
           simp only [q_plate, z_plate, x_if_f ec0] at hK
           exact hK _ _ _ _ _ ⟨fa, bd, hR.pl_ hn.2 (by unfold c_pn; rw [x_if_t (show s.toInt = -1 by omega), if_pos (by decide)]; exact Int32.toInt_inj.mp (by rw [x_tm1]; omega))⟩ (x_ex.rf.ui rfl) (by omega))
        | (have ec0 : ¬ (¬ (s.toInt = -1 ∨ g_sf Z s)) := fun z => z (Or.inr gs)
           simp only [q_plate, z_plate, x_if_f ec0] at hK
           exact hK _ _ _ _ _ ⟨fa, bd, hR.pl_ hn.2 (by unfold c_pn; rw [x_if_f (show ¬ s.toInt = -1 by have := gs.1; omega), if_neg (by have := gs.1; omega)])⟩ (x_ex.rf.ui rfl) (by omega))
    · refine w_if_eq d_X11_plate_25 (fun _ => ?_) (fun h25 => absurd h25 (by decide))
      have ep : (-9 : Int32) = Z 39 26 := Int32.toInt_inj.mp (by rw [show (-9 : Int32).toInt = -9 by decide]; omega)
      refine v_bipush (v := (-9)) d_X11_plate_38 x_bp_m9 ?_
      try rw [ep]
      refine v_istore_n (ls' := [_, _, _]) d_X11_plate_40 (by decide) rfl ?_
      refine v_aload_n d_X11_plate_41 rfl ?_
      refine v_gr d_X11_plate_42 lf_X11_46_11 rfl (hS _ _ rfl) (hP _ _ _ rfl) ?_
      refine v_iload_n d_X11_plate_45 rfl ?_
      refine v_pi d_X11_plate_46 (lp_X11_238_4 _) rfl (hS _ _ rfl) (rfl) rfl ?_
      refine v_iload_n d_X11_plate_49 rfl ?_
      refine v_ret (v := some (.int _)) d_X11_plate_50 rfl ⟨rfl, _, rfl, rfl⟩ (by decide) (by decide) ?_
      first
        | (have ec0 : ¬ (¬ (s.toInt = -1 ∨ g_sf Z s)) := fun z => z (Or.inl (by omega))
           simp only [q_plate, z_plate, x_if_f ec0] at hK
           exact hK _ _ _ _ _ ⟨fa, bd, hR.pl_ hn.2 (by unfold c_pn; rw [x_if_t (show s.toInt = -1 by omega), if_pos (by decide)]; exact Int32.toInt_inj.mp (by rw [x_tm1]; omega))⟩ (x_ex.rf.ui rfl) (by omega))
        | (have ec0 : ¬ (¬ (s.toInt = -1 ∨ g_sf Z s)) := fun z => z (Or.inr gs)
           simp only [q_plate, z_plate, x_if_f ec0] at hK
           exact hK _ _ _ _ _ ⟨fa, bd, hR.pl_ hn.2 (by unfold c_pn; rw [x_if_f (show ¬ s.toInt = -1 by have := gs.1; omega), if_neg (by have := gs.1; omega)])⟩ (x_ex.rf.ui rfl) (by omega))
  · try simp (disch := omega) only [x_ti, x_tm1] at a2
    refine v_aload_n d_X11_plate_5 rfl ?_
    refine v_gr d_X11_plate_6 lf_X11_21_11 rfl (hS _ _ rfl) (hP _ _ _ rfl) ?_
    refine v_iload_n d_X11_plate_9 rfl ?_
    refine v_cv (as := [_]) (rest := []) d_X11_plate_10 lv_X11_78_8 (hS _ _ rfl) rfl ⟨by decide, by decide⟩ rfl (Nat.le_of_ble_eq_true rfl) (by decide) (by decide) ?_
    refine t_X8_wall hR mi (fun q => ?_) (fun k e hk hk10 => ?_)
    · refine v_ifnonnullN d_X11_plate_13 ?_
      refine v_iconst (v := (-1)) d_X11_plate_16 x_ic_m1 ?_
      refine v_ret (v := some (.int _)) d_X11_plate_17 rfl ⟨rfl, _, rfl, rfl⟩ (by decide) (by decide) ?_
      have ec0 : ¬ (s.toInt = -1 ∨ g_sf Z s) := fun z => z.elim a2 q
      simp only [q_plate, z_plate, x_if_t ec0] at hK
      exact hK _ _ _ _ _ ⟨fa, bd, hR⟩ (x_ex.rf) (by omega)
    · have gs : g_sf Z s := by unfold g_sf; rw [e, x_ti (by omega)]; omega
      clear e
      refine v_ifnonnull d_X11_plate_13 ?_
      refine v_aload_n d_X11_plate_18 rfl ?_
      refine v_gr d_X11_plate_19 lf_X11_46_11 rfl (hS _ _ rfl) (hP _ _ _ rfl) ?_
      refine v_cv (as := []) (rest := []) d_X11_plate_22 lv_X11_235_4 (hS _ _ rfl) rfl ⟨by decide, by decide⟩ rfl (Nat.le_of_ble_eq_true rfl) (by decide) (by decide) ?_
      refine t_X4_hasPlate hR mi (fun qp => ?_) (fun qp => ?_)
      · refine w_if_eq d_X11_plate_25 (fun h25 => absurd h25 (by decide)) (fun _ => ?_)
        refine v_aload_n d_X11_plate_28 rfl ?_
        refine v_gr d_X11_plate_29 lf_X11_46_11 rfl (hS _ _ rfl) (hP _ _ _ rfl) ?_
        refine v_gie d_X11_plate_32 lf_X11_238_4 rfl (hS _ _ rfl) (hR.Li.2.1.trans (cp.2 qp)) ?_
        refine v_goto d_X11_plate_35 ?_
        try rw [ep]
        refine v_istore_n (ls' := [_, _, _]) d_X11_plate_40 (by decide) rfl ?_
        refine v_aload_n d_X11_plate_41 rfl ?_
        refine v_gr d_X11_plate_42 lf_X11_46_11 rfl (hS _ _ rfl) (hP _ _ _ rfl) ?_
        refine v_iload_n d_X11_plate_45 rfl ?_
        refine v_pi d_X11_plate_46 (lp_X11_238_4 _) rfl (hS _ _ rfl) (rfl) rfl ?_
        refine v_iload_n d_X11_plate_49 rfl ?_
        refine v_ret (v := some (.int _)) d_X11_plate_50 rfl ⟨rfl, _, rfl, rfl⟩ (by decide) (by decide) ?_
        first
          | (have ec0 : ¬ (¬ (s.toInt = -1 ∨ g_sf Z s)) := fun z => z (Or.inl (by omega))
             simp only [q_plate, z_plate, x_if_f ec0] at hK
             exact hK _ _ _ _ _ ⟨fa, bd, hR.pl_ hn.2 (by unfold c_pn; rw [x_if_t (show s.toInt = -1 by omega), if_pos (by decide)]; exact Int32.toInt_inj.mp (by rw [x_tm1]; omega))⟩ (x_ex.rf.ui rfl) (by omega))
          | (have ec0 : ¬ (¬ (s.toInt = -1 ∨ g_sf Z s)) := fun z => z (Or.inr gs)
             simp only [q_plate, z_plate, x_if_f ec0] at hK
             exact hK _ _ _ _ _ ⟨fa, bd, hR.pl_ hn.2 (by unfold c_pn; rw [x_if_f (show ¬ s.toInt = -1 by have := gs.1; omega), if_neg (by have := gs.1; omega)])⟩ (x_ex.rf.ui rfl) (by omega))
      · refine w_if_eq d_X11_plate_25 (fun _ => ?_) (fun h25 => absurd h25 (by decide))
        have ep : (-9 : Int32) = Z 39 26 := Int32.toInt_inj.mp (by rw [show (-9 : Int32).toInt = -9 by decide]; omega)
        refine v_bipush (v := (-9)) d_X11_plate_38 x_bp_m9 ?_
        try rw [ep]
        refine v_istore_n (ls' := [_, _, _]) d_X11_plate_40 (by decide) rfl ?_
        refine v_aload_n d_X11_plate_41 rfl ?_
        refine v_gr d_X11_plate_42 lf_X11_46_11 rfl (hS _ _ rfl) (hP _ _ _ rfl) ?_
        refine v_iload_n d_X11_plate_45 rfl ?_
        refine v_pi d_X11_plate_46 (lp_X11_238_4 _) rfl (hS _ _ rfl) (rfl) rfl ?_
        refine v_iload_n d_X11_plate_49 rfl ?_
        refine v_ret (v := some (.int _)) d_X11_plate_50 rfl ⟨rfl, _, rfl, rfl⟩ (by decide) (by decide) ?_
        first
          | (have ec0 : ¬ (¬ (s.toInt = -1 ∨ g_sf Z s)) := fun z => z (Or.inl (by omega))
             simp only [q_plate, z_plate, x_if_f ec0] at hK
             exact hK _ _ _ _ _ ⟨fa, bd, hR.pl_ hn.2 (by unfold c_pn; rw [x_if_t (show s.toInt = -1 by omega), if_pos (by decide)]; exact Int32.toInt_inj.mp (by rw [x_tm1]; omega))⟩ (x_ex.rf.ui rfl) (by omega))
          | (have ec0 : ¬ (¬ (s.toInt = -1 ∨ g_sf Z s)) := fun z => z (Or.inr gs)
             simp only [q_plate, z_plate, x_if_f ec0] at hK
             exact hK _ _ _ _ _ ⟨fa, bd, hR.pl_ hn.2 (by unfold c_pn; rw [x_if_f (show ¬ s.toInt = -1 by have := gs.1; omega), if_neg (by have := gs.1; omega)])⟩ (x_ex.rf.ui rfl) (by omega))

set_option maxRecDepth 100000 in
set_option maxHeartbeats 4000000 in
theorem t_X11_want {K : x_K} {S : x_S} {P : x_P} {I : x_I} {J : x_J} {n : Nat} {t s c b : Int32} (hb : b.toInt = 0 ∨ b.toInt = 1) {fa : Nat → Nat} {bd : Nat} {Z : x_I} (hR : c_R fa bd Z S P I J n) (mi : m_I Z) (hK : c_K K (z_want Z t s c b) I J n (.int (q_want Z t s c b))) : x_Call f_X11_want [.ref 1, .int t, .int s, .int c, .int b] K S P I J n := by
  have hS := hR.hS
  have hP := hR.hP
  have hn := mi.hn
  have hfo := mi.fo
  have h9 : m_ns Z = (Z 39 2).toInt.toNat := rfl
  have hh := mi.hh
  refine x_intro (by decide) 0 (ls := [_, _, _, _, _]) rfl (Nat.le_of_ble_eq_true rfl) ?_
  refine v_aload_n d_X11_want_0 rfl ?_
  refine v_gr d_X11_want_1 lf_X11_46_11 rfl (hS _ _ rfl) (hP _ _ _ rfl) ?_
  refine v_iload_n d_X11_want_4 rfl ?_
  refine v_cv (as := [_]) (rest := []) d_X11_want_5 lv_X11_241_4 (hS _ _ rfl) rfl ⟨by decide, by decide⟩ rfl (Nat.le_of_ble_eq_true rfl) (by decide) (by decide) ?_
  refine t_X4_hasHour hR mi (fun q1 => ?_) (fun q1 => ?_)
  · refine w_if_eq d_X11_want_8 (fun h8 => absurd h8 (by decide)) (fun _ => ?_)
    refine v_aload_n d_X11_want_11 rfl ?_
    refine v_gr d_X11_want_12 lf_X11_21_11 rfl (hS _ _ rfl) (hP _ _ _ rfl) ?_
    refine v_iload_n d_X11_want_15 rfl ?_
    refine v_iload_n d_X11_want_16 rfl ?_
    refine v_cv (as := [_, _]) (rest := []) d_X11_want_17 lv_X11_244_8 (hS _ _ rfl) rfl ⟨by decide, by decide⟩ rfl (Nat.le_of_ble_eq_true rfl) (by decide) (by decide) ?_
    refine t_X8_hasCell hR mi (fun q2 => ?_) (fun q2 => ?_)
    · have w1 := q1.1
      have w2 := q1.2
      have w3 := q2.1.1
      have w4 := q2.1.2
      have w5 := q2.2.1
      have w6 := q2.2.2
      obtain ⟨i, rfl, hk_i, t_i, y_i⟩ := x_ex1 (s := t) (w1)
      obtain ⟨k, rfl, hk_k, t_k, y_k⟩ := x_ex1 (s := s) (w3)
      obtain ⟨j, rfl, hk_j, t_j, y_j⟩ := x_ex1 (s := c) (w5)
      rw [y_k] at w6
      have hmc := m_ce_in (hfo k (by omega))
      have hwa := (mi.wa i k j (by omega) (by omega) (by omega)).1
      refine w_if_ne d_X11_want_20 (fun _ => ?_) (fun h20 => absurd h20 (by decide))
      refine v_aload_n d_X11_want_25 rfl ?_
      refine v_gr d_X11_want_26 lf_X11_46_11 rfl (hS _ _ rfl) (hP _ _ _ rfl) ?_
      refine v_iload_n d_X11_want_29 rfl ?_
      refine v_iload_n d_X11_want_30 rfl ?_
      refine v_iload_n d_X11_want_31 rfl ?_
      refine v_cv (as := [_, _, _]) (rest := []) d_X11_want_32 lv_X11_247_4 (hS _ _ rfl) rfl ⟨by decide, by decide⟩ rfl (Nat.le_of_ble_eq_true rfl) (by decide) (by decide) ?_
      refine t_X4_isWanted hR mi i k j rfl (by omega) rfl (by omega) rfl (by omega) (fun q3 => ?_) (fun q3 => ?_)
      · refine v_iload d_X11_want_35 rfl ?_
        refine w_icmp_ne d_X11_want_37 (fun a37 => ?_) (fun a37 => ?_)
        · try simp (disch := omega) only [x_ti, x_tm1] at a37
          refine v_aload_n d_X11_want_42 rfl ?_
          refine v_gr d_X11_want_43 lf_X11_46_11 rfl (hS _ _ rfl) (hP _ _ _ rfl) ?_
          refine v_iload_n d_X11_want_46 rfl ?_
          refine v_iload_n d_X11_want_47 rfl ?_
          refine v_iload_n d_X11_want_48 rfl ?_
          refine v_cv (as := [_, _, _]) (rest := []) d_X11_want_49 lv_X11_250_4 (hS _ _ rfl) rfl ⟨by decide, by decide⟩ rfl (Nat.le_of_ble_eq_true rfl) (by decide) (by decide) ?_
          refine t_X4_turnWanted i k j rfl (by omega) rfl (by omega) rfl (by omega) hS hP ?_
          refine v_iconst (v := nI 1) d_X11_want_52 x_ic_1 ?_
          refine v_ret (v := some (.int _)) d_X11_want_53 rfl ⟨rfl, _, rfl, rfl⟩ (by decide) (by decide) ?_
          have ew : ¬ (Z 54 (640 * i + 64 * k + j)).toInt = b.toInt := by omega
          have ec0 : ¬ (¬ (g_hr Z (nI i) ∧ g_ce Z (nI k) (nI j))) := fun z => z ⟨q1, q2⟩
          simp only [q_want, z_want, x_if_f ec0, y_i, y_k, y_j, x_if_f ew] at hK
          exact hK _ _ _ _ _ ⟨fa, bd, hR.wa_ hn.2 (by omega) (by omega) (by omega) (by omega)⟩ (x_ex.rf.uj rfl) (by omega)
        · try simp (disch := omega) only [x_ti, x_tm1] at a37
          refine v_iconst (v := nI 0) d_X11_want_40 x_ic_0 ?_
          refine v_ret (v := some (.int _)) d_X11_want_41 rfl ⟨rfl, _, rfl, rfl⟩ (by decide) (by decide) ?_
          have ew : (Z 54 (640 * i + 64 * k + j)).toInt = b.toInt := by omega
          have ev : b = Z 54 (640 * i + 64 * k + j) := Int32.toInt_inj.mp ew.symm
          have ec0 : ¬ (¬ (g_hr Z (nI i) ∧ g_ce Z (nI k) (nI j))) := fun z => z ⟨q1, q2⟩
          simp only [q_want, z_want, x_if_f ec0, y_i, y_k, y_j, x_if_t ew] at hK
          rw [ev, x_uid] at hK
          exact hK _ _ _ _ _ ⟨fa, bd, hR⟩ x_ex.rf (by omega)
      · refine v_iload d_X11_want_35 rfl ?_
        refine w_icmp_ne d_X11_want_37 (fun a37 => ?_) (fun a37 => ?_)
        · try simp (disch := omega) only [x_ti, x_tm1] at a37
          refine v_aload_n d_X11_want_42 rfl ?_
          refine v_gr d_X11_want_43 lf_X11_46_11 rfl (hS _ _ rfl) (hP _ _ _ rfl) ?_
          refine v_iload_n d_X11_want_46 rfl ?_
          refine v_iload_n d_X11_want_47 rfl ?_
          refine v_iload_n d_X11_want_48 rfl ?_
          refine v_cv (as := [_, _, _]) (rest := []) d_X11_want_49 lv_X11_250_4 (hS _ _ rfl) rfl ⟨by decide, by decide⟩ rfl (Nat.le_of_ble_eq_true rfl) (by decide) (by decide) ?_
          refine t_X4_turnWanted i k j rfl (by omega) rfl (by omega) rfl (by omega) hS hP ?_
          refine v_iconst (v := nI 1) d_X11_want_52 x_ic_1 ?_
          refine v_ret (v := some (.int _)) d_X11_want_53 rfl ⟨rfl, _, rfl, rfl⟩ (by decide) (by decide) ?_
          have ew : ¬ (Z 54 (640 * i + 64 * k + j)).toInt = b.toInt := by omega
          have ec0 : ¬ (¬ (g_hr Z (nI i) ∧ g_ce Z (nI k) (nI j))) := fun z => z ⟨q1, q2⟩
          simp only [q_want, z_want, x_if_f ec0, y_i, y_k, y_j, x_if_f ew] at hK
          exact hK _ _ _ _ _ ⟨fa, bd, hR.wa_ hn.2 (by omega) (by omega) (by omega) (by omega)⟩ (x_ex.rf.uj rfl) (by omega)
        · try simp (disch := omega) only [x_ti, x_tm1] at a37
          refine v_iconst (v := nI 0) d_X11_want_40 x_ic_0 ?_
          refine v_ret (v := some (.int _)) d_X11_want_41 rfl ⟨rfl, _, rfl, rfl⟩ (by decide) (by decide) ?_
          have ew : (Z 54 (640 * i + 64 * k + j)).toInt = b.toInt := by omega
          have ev : b = Z 54 (640 * i + 64 * k + j) := Int32.toInt_inj.mp ew.symm
          have ec0 : ¬ (¬ (g_hr Z (nI i) ∧ g_ce Z (nI k) (nI j))) := fun z => z ⟨q1, q2⟩
          simp only [q_want, z_want, x_if_f ec0, y_i, y_k, y_j, x_if_t ew] at hK
          rw [ev, x_uid] at hK
          exact hK _ _ _ _ _ ⟨fa, bd, hR⟩ x_ex.rf (by omega)
    · refine w_if_ne d_X11_want_20 (fun h20 => absurd h20 (by decide)) (fun _ => ?_)
      refine v_iconst (v := (-1)) d_X11_want_23 x_ic_m1 ?_
      refine v_ret (v := some (.int _)) d_X11_want_24 rfl ⟨rfl, _, rfl, rfl⟩ (by decide) (by decide) ?_
      first
        | (have ec0 : ¬ (g_hr Z t ∧ g_ce Z s c) := fun z => q1 z.1
           simp only [q_want, z_want, x_if_t ec0] at hK
           exact hK _ _ _ _ _ ⟨fa, bd, hR⟩ (x_ex.rf) (by omega))
        | (have ec0 : ¬ (g_hr Z t ∧ g_ce Z s c) := fun z => q2 z.2
           simp only [q_want, z_want, x_if_t ec0] at hK
           exact hK _ _ _ _ _ ⟨fa, bd, hR⟩ (x_ex.rf) (by omega))
  · refine w_if_eq d_X11_want_8 (fun _ => ?_) (fun h8 => absurd h8 (by decide))
    refine v_iconst (v := (-1)) d_X11_want_23 x_ic_m1 ?_
    refine v_ret (v := some (.int _)) d_X11_want_24 rfl ⟨rfl, _, rfl, rfl⟩ (by decide) (by decide) ?_
    first
      | (have ec0 : ¬ (g_hr Z t ∧ g_ce Z s c) := fun z => q1 z.1
         simp only [q_want, z_want, x_if_t ec0] at hK
         exact hK _ _ _ _ _ ⟨fa, bd, hR⟩ (x_ex.rf) (by omega))
      | (have ec0 : ¬ (g_hr Z t ∧ g_ce Z s c) := fun z => q2 z.2
         simp only [q_want, z_want, x_if_t ec0] at hK
         exact hK _ _ _ _ _ ⟨fa, bd, hR⟩ (x_ex.rf) (by omega))

