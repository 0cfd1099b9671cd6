theorem m_ag3_le (a b c d e : Int) : m_ag3 a b c d e ≤ 4 := by
  unfold m_ag3
  repeat' split
  all_goals omega
theorem x_ex.fi_ {E : Nat → Nat → Bool} {I I' : x_I} {J J' : x_J} {a lo k : Nat} {v : Int32} (h : x_ex E I I' J J') (he : ∀ j, E a j = true) : x_ex E I (x_fi I' a lo k v) J J' := fun b j hj => by
  have hne : b ≠ a := fun q => by subst q; rw [he] at hj; cases hj
  rw [x_fi_na _ _ _ _ _ hne]
  exact h b j hj
theorem x_ex.fj_ {E : Nat → Nat → Bool} {I I' : x_I} {J J' : x_J} {a lo k : Nat} {v : Int64} (h : x_ex E I I' J J') (he : ∀ j, E a j = true) : x_ex E I I' J (x_fi J' a lo k v) := fun b j hj => by
  have hne : b ≠ a := fun q => by subst q; rw [he] at hj; cases hj
  rw [x_fi_na _ _ _ _ _ hne]
  exact h b j hj

set_option maxRecDepth 100000 in
set_option maxHeartbeats 4000000 in
theorem t_X11_sheet {K : x_K} {S : x_S} {P : x_P} {I : x_I} {J : x_J} {n : Nat} {k l m : Int32} {fa : Nat → Nat} {bd : Nat} {Z : x_I} (hR : c_R fa bd Z S P I J n) (mi : m_I Z) (hK : c_K K (z_sheet Z k l m) I J n (.int (q_sheet k l m))) : x_Call f_X11_sheet [.ref 1, .int k, .int l, .int m] K S P I J n := by
  have hS := hR.hS
  have hP := hR.hP
  have hn := mi.hn
  have hfo := mi.fo
  have h9 : m_ns Z = (Z 39 2).toInt.toNat := rfl
  refine x_intro (by decide) 0 (ls := [_, _, _, _]) rfl (Nat.le_of_ble_eq_true rfl) ?_
  refine v_aload_n d_X11_sheet_0 rfl ?_
  refine v_gr d_X11_sheet_1 lf_X11_53_11 rfl (hS _ _ rfl) (hP _ _ _ rfl) ?_
  refine v_cv (as := []) (rest := []) d_X11_sheet_4 lv_X11_129_7 (hS _ _ rfl) rfl ⟨by decide, by decide⟩ rfl (Nat.le_of_ble_eq_true rfl) (by decide) (by decide) ?_
  refine t_X7_begin hS hP ?_
  refine v_iload_n d_X11_sheet_7 rfl ?_
  refine v_cs (as := [_]) (rest := []) d_X11_sheet_8 ls_X11_132 rfl ⟨by decide, by decide⟩ rfl (Nat.le_of_ble_eq_true rfl) (by decide) (by decide) ?_
  refine t_X7_has (fun q1 => ?_) (fun q1 => ?_)
  · obtain ⟨j, rfl, hk_j, t_j, y_j⟩ := x_ex1 (s := k) (q1.1)
    have q1b := q1.2
    rw [t_j] at q1b
    refine w_if_ne d_X11_sheet_11 (fun _ => ?_) (fun h11 => absurd h11 (by decide))
    refine v_iload_n d_X11_sheet_16 rfl ?_
    refine v_cs (as := [_]) (rest := []) d_X11_sheet_17 ls_X11_135 rfl ⟨by decide, by decide⟩ rfl (Nat.le_of_ble_eq_true rfl) (by decide) (by decide) ?_
    refine t_X7_isLane (fun q2 => ?_) (fun q2 => ?_)
    · refine w_if_eq d_X11_sheet_20 (fun h20 => absurd h20 (by decide)) (fun _ => ?_)
      refine v_iload_n d_X11_sheet_23 rfl ?_
      refine v_bipush (v := nI 64) d_X11_sheet_24 x_bp_64 ?_
      refine w_icmp_le d_X11_sheet_26 (fun a26 => ?_) (fun a26 => ?_)
      · try simp (disch := omega) only [x_ti, x_tm1] at a26
        refine v_iload_n d_X11_sheet_32 rfl ?_
        refine w_if_ge d_X11_sheet_33 (fun a33 => ?_) (fun a33 => ?_)
        · try simp (disch := omega) only [x_ti, x_tm1] at a33
          refine v_aload_n d_X11_sheet_45 rfl ?_
          refine v_gr d_X11_sheet_46 lf_X11_53_11 rfl (hS _ _ rfl) (hP _ _ _ rfl) ?_
          refine v_iload_n d_X11_sheet_49 rfl ?_
          refine v_iload_n d_X11_sheet_50 rfl ?_
          refine v_iload_n d_X11_sheet_51 rfl ?_
          refine v_cv (as := [_, _, _]) (rest := []) d_X11_sheet_52 lv_X11_286_7 (hS _ _ rfl) rfl ⟨by decide, by decide⟩ rfl (Nat.le_of_ble_eq_true rfl) (by decide) (by decide) ?_
          refine t_X7_renew j rfl (by omega) hS hP ?_
          refine v_iconst (v := nI 1) d_X11_sheet_55 x_ic_1 ?_
          refine v_ret (v := some (.int _)) d_X11_sheet_56 rfl ⟨rfl, _, rfl, rfl⟩ (by decide) (by decide) ?_
          have ec0 : ¬ (¬ g_ey (nI j)) := fun z => z q1
          have ec1 : ¬ (¬ ((0 ≤ l.toInt ∧ l.toInt ≤ 2) ∧ m.toInt ≤ 64)) := by omega
          have ec2 : ¬ (m.toInt < 0) := by omega
          simp only [q_sheet, z_sheet, x_if_f ec0, x_if_f ec1, x_if_f ec2, y_j] at hK
          exact hK _ _ _ _ _ ⟨fa, bd, (hR.fa_ (f := nI 0) hn.2).sr_ hn.2 (by omega) q2⟩ (x_ex.fi_ (((x_ex.rf.ui rfl).ui rfl).ui rfl) (fun b => cC_lo (by omega) (by omega) b)) (by omega)
        · try simp (disch := omega) only [x_ti, x_tm1] at a33
          refine v_aload_n d_X11_sheet_36 rfl ?_
          refine v_gr d_X11_sheet_37 lf_X11_53_11 rfl (hS _ _ rfl) (hP _ _ _ rfl) ?_
          refine v_iconst (v := nI 4) d_X11_sheet_40 x_ic_4 ?_
          refine v_cv (as := [_]) (rest := []) d_X11_sheet_41 lv_X11_148_7 (hS _ _ rfl) rfl ⟨by decide, by decide⟩ rfl (Nat.le_of_ble_eq_true rfl) (by decide) (by decide) ?_
          refine t_X7_failBy hS hP ?_
          refine v_ret (v := some (.int _)) d_X11_sheet_44 rfl ⟨rfl, _, rfl, rfl⟩ (by decide) (by decide) ?_
          have ec0 : ¬ (¬ g_ey (nI j)) := fun z => z q1
          have ec1 : ¬ (¬ ((0 ≤ l.toInt ∧ l.toInt ≤ 2) ∧ m.toInt ≤ 64)) := by omega
          have ec2 : m.toInt < 0 := by omega
          simp only [q_sheet, z_sheet, x_if_f ec0, x_if_f ec1, x_if_t ec2] at hK
          exact hK _ _ _ _ _ ⟨fa, bd, (hR.fa_ (f := nI 0) hn.2).fa_ hn.2⟩ ((x_ex.rf.ui rfl).ui rfl) (by omega)
      · try simp (disch := omega) only [x_ti, x_tm1] at a26
        refine v_bipush (v := (-2)) d_X11_sheet_29 x_bp_m2 ?_
        refine v_ret (v := some (.int _)) d_X11_sheet_31 rfl ⟨rfl, _, rfl, rfl⟩ (by decide) (by decide) ?_
        have ec0 : ¬ (¬ g_ey (nI j)) := fun z => z q1
        have ec1 : ¬ ((0 ≤ l.toInt ∧ l.toInt ≤ 2) ∧ m.toInt ≤ 64) := by omega
        simp only [q_sheet, z_sheet, x_if_f ec0, x_if_t ec1] at hK
        exact hK _ _ _ _ _ ⟨fa, bd, (hR.fa_ (f := nI 0) hn.2)⟩ (x_ex.rf.ui rfl) (by omega)
    · refine w_if_eq d_X11_sheet_20 (fun _ => ?_) (fun h20 => absurd h20 (by decide))
      refine v_bipush (v := (-2)) d_X11_sheet_29 x_bp_m2 ?_
      refine v_ret (v := some (.int _)) d_X11_sheet_31 rfl ⟨rfl, _, rfl, rfl⟩ (by decide) (by decide) ?_
      have ec0 : ¬ (¬ g_ey (nI j)) := fun z => z q1
      have ec1 : ¬ ((0 ≤ l.toInt ∧ l.toInt ≤ 2) ∧ m.toInt ≤ 64) := by omega
      simp only [q_sheet, z_sheet, x_if_f ec0, x_if_t ec1] at hK
      exact hK _ _ _ _ _ ⟨fa, bd, (hR.fa_ (f := nI 0) hn.2)⟩ (x_ex.rf.ui rfl) (by omega)
  · refine w_if_ne d_X11_sheet_11 (fun h11 => absurd h11 (by decide)) (fun _ => ?_)
    refine v_iconst (v := (-1)) d_X11_sheet_14 x_ic_m1 ?_
    refine v_ret (v := some (.int _)) d_X11_sheet_15 rfl ⟨rfl, _, rfl, rfl⟩ (by decide) (by decide) ?_
    have ec0 : ¬ g_ey k := q1
    simp only [q_sheet, z_sheet, x_if_t ec0] at hK
    exact hK _ _ _ _ _ ⟨fa, bd, (hR.fa_ (f := nI 0) hn.2)⟩ (x_ex.rf.ui rfl) (by omega)

set_option maxRecDepth 100000 in
set_option maxHeartbeats 4000000 in
theorem t_X11_lose {K : x_K} {S : x_S} {P : x_P} {I : x_I} {J : x_J} {n : Nat} {k : Int32} {fa : Nat → Nat} {bd : Nat} {Z : x_I} (hR : c_R fa bd Z S P I J n) (mi : m_I Z) (hK : c_K K (z_lose Z k) I J n (.int (q_lose Z k))) : x_Call f_X11_lose [.ref 1, .int k] K S P I J n := by
  have hS := hR.hS
  have hP := hR.hP
  have hn := mi.hn
  have hfo := mi.fo
  have h9 : m_ns Z = (Z 39 2).toInt.toNat := rfl
  refine x_intro (by decide) 0 (ls := [_, _]) rfl (Nat.le_of_ble_eq_true rfl) ?_
  refine v_iload_n d_X11_lose_0 rfl ?_
  refine v_cs (as := [_]) (rest := []) d_X11_lose_1 ls_X11_132 rfl ⟨by decide, by decide⟩ rfl (Nat.le_of_ble_eq_true rfl) (by decide) (by decide) ?_
  refine t_X7_has (fun q1 => ?_) (fun q1 => ?_)
  · obtain ⟨j, rfl, hk_j, t_j, y_j⟩ := x_ex1 (s := k) (q1.1)
    have q1b := q1.2
    rw [t_j] at q1b
    refine w_if_ne d_X11_lose_4 (fun _ => ?_) (fun h4 => absurd h4 (by decide))
    refine v_aload_n d_X11_lose_9 rfl ?_
    refine v_gr d_X11_lose_10 lf_X11_53_11 rfl (hS _ _ rfl) (hP _ _ _ rfl) ?_
    refine v_iload_n d_X11_lose_13 rfl ?_
    refine v_cv (as := [_]) (rest := []) d_X11_lose_14 lv_X11_289_7 (hS _ _ rfl) rfl ⟨by decide, by decide⟩ rfl (Nat.le_of_ble_eq_true rfl) (by decide) (by decide) ?_
    refine t_X7_drop j rfl (by omega) hS hP ?_
    have hsh := hR.Sh j (by omega)
    have cpn := c_pn1 (mi.la j (by omega)).1
    rw [hsh.1]
    refine w_if_eq d_X11_lose_17 (fun a17 => ?_) (fun a17 => ?_)
    · refine v_iconst (v := nI 0) d_X11_lose_24 x_ic_0 ?_
      refine v_ret (v := some (.int _)) d_X11_lose_25 rfl ⟨rfl, _, rfl, rfl⟩ (by decide) (by decide) ?_
      have e9 : (Z 45 j).toInt = -9 := by
        by_cases z : (Z 45 j).toInt = -9
        · exact z
        · rw [if_neg (fun w => z (cpn.1.mp w))] at a17; exact absurd a17 (by decide)
      have ec0 : ¬ (¬ g_ey (nI j)) := fun z => z q1
      have ec1 : (Z 45 j).toInt = -9 := e9
      simp only [q_lose, z_lose, x_if_f ec0, x_if_t ec1, y_j] at hK
      exact hK _ _ _ _ _ ⟨fa, bd, hR.sd_ hn.2 (by omega)⟩ ((x_ex.rf.ui rfl).ui rfl) (by omega)
    · refine v_iconst (v := nI 1) d_X11_lose_20 x_ic_1 ?_
      refine v_goto d_X11_lose_21 ?_
      refine v_ret (v := some (.int _)) d_X11_lose_25 rfl ⟨rfl, _, rfl, rfl⟩ (by decide) (by decide) ?_
      have e9 : ¬ (Z 45 j).toInt = -9 := fun z => by rw [if_pos (cpn.1.mpr z)] at a17; exact a17 (by decide)
      have ec0 : ¬ (¬ g_ey (nI j)) := fun z => z q1
      have ec1 : ¬ ((Z 45 j).toInt = -9) := e9
      simp only [q_lose, z_lose, x_if_f ec0, x_if_f ec1, y_j] at hK
      exact hK _ _ _ _ _ ⟨fa, bd, hR.sd_ hn.2 (by omega)⟩ ((x_ex.rf.ui rfl).ui rfl) (by omega)
  · refine w_if_ne d_X11_lose_4 (fun h4 => absurd h4 (by decide)) (fun _ => ?_)
    refine v_iconst (v := (-1)) d_X11_lose_7 x_ic_m1 ?_
    refine v_ret (v := some (.int _)) d_X11_lose_8 rfl ⟨rfl, _, rfl, rfl⟩ (by decide) (by decide) ?_
    have ec0 : ¬ g_ey k := q1
    simp only [q_lose, z_lose, x_if_t ec0] at hK
    exact hK _ _ _ _ _ ⟨fa, bd, hR⟩ (x_ex.rf) (by omega)

set_option maxRecDepth 100000 in
set_option maxHeartbeats 4000000 in
theorem t_X11_put {K : x_K} {S : x_S} {P : x_P} {I : x_I} {J : x_J} {n : Nat} {k i v : Int32} {fa : Nat → Nat} {bd : Nat} {Z : x_I} (hR : c_R fa bd Z S P I J n) (mi : m_I Z) (hK : c_K K (z_put Z k i v) I J n (.int (q_put Z k i v))) : x_Call f_X11_put [.ref 1, .int k, .int i, .int v] K S P I J n := by
  have hS := hR.hS
  have hP := hR.hP
  have hn := mi.hn
  have hfo := mi.fo
  have h9 : m_ns Z = (Z 39 2).toInt.toNat := rfl
  refine x_intro (by decide) 1 (ls := [_, _, _, _, _]) rfl (Nat.le_of_ble_eq_true rfl) ?_
  refine v_aload_n d_X11_put_0 rfl ?_
  refine v_gr d_X11_put_1 lf_X11_53_11 rfl (hS _ _ rfl) (hP _ _ _ rfl) ?_
  refine v_cv (as := []) (rest := []) d_X11_put_4 lv_X11_129_7 (hS _ _ rfl) rfl ⟨by decide, by decide⟩ rfl (Nat.le_of_ble_eq_true rfl) (by decide) (by decide) ?_
  refine t_X7_begin hS hP ?_
  refine v_iload_n d_X11_put_7 rfl ?_
  refine v_cs (as := [_]) (rest := []) d_X11_put_8 ls_X11_132 rfl ⟨by decide, by decide⟩ rfl (Nat.le_of_ble_eq_true rfl) (by decide) (by decide) ?_
  refine t_X7_has (fun q1 => ?_) (fun q1 => ?_)
  · obtain ⟨j, rfl, hk_j, t_j, y_j⟩ := x_ex1 (s := k) (q1.1)
    have q1b := q1.2
    rw [t_j] at q1b
    refine w_if_ne d_X11_put_11 (fun _ => ?_) (fun h11 => absurd h11 (by decide))
    refine v_aload_n d_X11_put_16 rfl ?_
    refine v_gr d_X11_put_17 lf_X11_53_11 rfl (hS _ _ rfl) (hP _ _ _ rfl) ?_
    refine v_iload_n d_X11_put_20 rfl ?_
    refine v_aload_n d_X11_put_21 rfl ?_
    refine v_gr d_X11_put_22 lf_X11_53_11 rfl (hS _ _ rfl) (hP _ _ _ rfl) ?_
    refine v_iload_n d_X11_put_25 rfl ?_
    refine v_cv (as := [_]) (rest := [_, _]) d_X11_put_26 lv_X11_292_7 (hS _ _ rfl) rfl ⟨by decide, by decide⟩ rfl (Nat.le_of_ble_eq_true rfl) (by decide) (by decide) ?_
    refine t_X7_laneOf j rfl (by omega) hS hP ?_
    have hsh := hR.Sh j (by omega)
    rw [show x_u2 I 31 3 (nI 0) 37 j = I 37 j from rfl, hsh.1]
    refine v_iload_n d_X11_put_29 rfl ?_
    refine v_lconst (v := 1) d_X11_put_30 rfl ?_
    refine v_cv (as := [_, _, _, _]) (rest := []) d_X11_put_31 lv_X11_144_7 (hS _ _ rfl) rfl ⟨by decide, by decide⟩ rfl (Nat.le_of_ble_eq_true rfl) (by decide) (by decide) ?_
    refine t_X7_faultOfTaking (Z := Z) j rfl (by omega) (mi.la j (by omega)).1 (mi.la j (by omega)).2 (hR.Sh j (by omega)).1 (hR.Sh j (by omega)).2.1 (by decide) hS hP ?_
    have hla := (mi.la j (by omega))
    have t1 : (1 : Int64).toInt = 1 := by decide
    have cpn := c_pn1 hla.1
    refine v_istore (ls' := [_, _, _, _, _]) d_X11_put_34 (by decide) rfl ?_
    refine v_iload d_X11_put_36 rfl ?_
    have hle : m_ag3 (Z 45 j).toInt (Z 46 j).toInt (c_pn (Z 45 j)).toInt i.toInt (1 : Int64).toInt ≤ 4 := m_ag3_le _ _ _ _ _
    refine w_if_eq d_X11_put_38 (fun a38 => ?_) (fun a38 => ?_)
    · rw [x_ti (by omega)] at a38
      have a38 : m_ag3 (Z 45 j).toInt (Z 46 j).toInt (c_pn (Z 45 j)).toInt i.toInt (1 : Int64).toInt = 0 := by omega
      have e9 : ¬ (Z 45 j).toInt = -9 := fun z => by unfold m_ag3 at a38; rw [if_pos z] at a38; cases a38
      have ei : 0 ≤ i.toInt ∧ i.toInt < (Z 46 j).toInt := by
        unfold m_ag3 at a38
        rw [if_neg e9, cpn.2 e9, if_neg (fun z => z rfl), t1, if_neg (by omega)] at a38
        by_cases w : i.toInt < 0 ∨ (Z 46 j).toInt < i.toInt + 1
        · rw [if_pos w] at a38; cases a38
        · omega
      obtain ⟨i0, rfl, hk_i0, t_i0, y_i0⟩ := x_ex1 (s := i) (ei.1)
      have ei2 := ei.2
      rw [t_i0] at ei2
      refine v_aload_n d_X11_put_51 rfl ?_
      refine v_gr d_X11_put_52 lf_X11_53_11 rfl (hS _ _ rfl) (hP _ _ _ rfl) ?_
      refine v_iload_n d_X11_put_55 rfl ?_
      refine v_iload_n d_X11_put_56 rfl ?_
      refine v_iload_n d_X11_put_57 rfl ?_
      refine v_cv (as := [_, _, _]) (rest := []) d_X11_put_58 lv_X11_295_7 (hS _ _ rfl) rfl ⟨by decide, by decide⟩ rfl (Nat.le_of_ble_eq_true rfl) (by decide) (by decide) ?_
      refine t_X7_write j i0 rfl (by omega) rfl (by omega) hS hP ?_
      rw [show x_u2 I 31 3 (nI 0) 37 j = I 37 j from rfl, hsh.1, cpn.2 e9]
      refine v_iconst (v := nI 1) d_X11_put_61 x_ic_1 ?_
      refine v_ret (v := some (.int _)) d_X11_put_62 rfl ⟨rfl, _, rfl, rfl⟩ (by decide) (by decide) ?_
      have ec0 : ¬ (¬ g_ey (nI j)) := fun z => z q1
      have ec1 : ¬ ((Z 45 j).toInt = -9) := e9
      have ec2 : ¬ (¬ (0 ≤ (nI i0).toInt ∧ (nI i0).toInt < (Z 46 j).toInt)) := fun w => w ei
      simp only [q_put, z_put, x_if_f ec0, x_if_f ec1, x_if_f ec2, y_j, y_i0] at hK
      exact hK _ _ _ _ _ ⟨fa, bd, (hR.fa_ (f := nI 0) hn.2).sp_ hn.2 (by omega) (by omega)⟩ ((x_ex.rf.ui rfl).ui (cC_lo (by omega) (by omega) _)) (by omega)
    · have a38 : ¬ m_ag3 (Z 45 j).toInt (Z 46 j).toInt (c_pn (Z 45 j)).toInt i.toInt (1 : Int64).toInt = 0 := fun z => a38 (by rw [z]; decide)
      refine v_aload_n d_X11_put_41 rfl ?_
      refine v_gr d_X11_put_42 lf_X11_53_11 rfl (hS _ _ rfl) (hP _ _ _ rfl) ?_
      refine v_iload d_X11_put_45 rfl ?_
      refine v_cv (as := [_]) (rest := []) d_X11_put_47 lv_X11_148_7 (hS _ _ rfl) rfl ⟨by decide, by decide⟩ rfl (Nat.le_of_ble_eq_true rfl) (by decide) (by decide) ?_
      refine t_X7_failBy hS hP ?_
      refine v_ret (v := some (.int _)) d_X11_put_50 rfl ⟨rfl, _, rfl, rfl⟩ (by decide) (by decide) ?_
      by_cases e9 : (Z 45 j).toInt = -9
      · have eg : m_ag3 (Z 45 j).toInt (Z 46 j).toInt (c_pn (Z 45 j)).toInt i.toInt (1 : Int64).toInt = 1 := by unfold m_ag3; rw [if_pos e9]
        rw [eg]
        have ec0 : ¬ (¬ g_ey (nI j)) := fun z => z q1
        have ec1 : (Z 45 j).toInt = -9 := e9
        simp only [q_put, z_put, x_if_f ec0, x_if_t ec1, y_j] at hK
        exact hK _ _ _ _ _ ⟨fa, bd, (hR.fa_ (f := nI 0) hn.2).fa_ hn.2⟩ ((x_ex.rf.ui rfl).ui rfl) (by omega)
      · have ei : ¬ (0 ≤ i.toInt ∧ i.toInt < (Z 46 j).toInt) := fun w => a38 (by unfold m_ag3; rw [if_neg e9, cpn.2 e9, if_neg (fun z => z rfl), t1, if_neg (by omega), if_neg (by omega)])
        have eg : m_ag3 (Z 45 j).toInt (Z 46 j).toInt (c_pn (Z 45 j)).toInt i.toInt (1 : Int64).toInt = 3 := by unfold m_ag3; rw [if_neg e9, cpn.2 e9, if_neg (fun z => z rfl), t1, if_neg (by omega), if_pos (by omega)]
        rw [eg]
        have ec0 : ¬ (¬ g_ey (nI j)) := fun z => z q1
        have ec1 : ¬ ((Z 45 j).toInt = -9) := e9
        have ec2 : ¬ (0 ≤ i.toInt ∧ i.toInt < (Z 46 j).toInt) := ei
        simp only [q_put, z_put, x_if_f ec0, x_if_f ec1, x_if_t ec2, y_j] at hK
        exact hK _ _ _ _ _ ⟨fa, bd, (hR.fa_ (f := nI 0) hn.2).fa_ hn.2⟩ ((x_ex.rf.ui rfl).ui rfl) (by omega)
  · refine w_if_ne d_X11_put_11 (fun h11 => absurd h11 (by decide)) (fun _ => ?_)
    refine v_iconst (v := (-1)) d_X11_put_14 x_ic_m1 ?_
    refine v_ret (v := some (.int _)) d_X11_put_15 rfl ⟨rfl, _, rfl, rfl⟩ (by decide) (by decide) ?_
    have ec0 : ¬ g_ey k := q1
    simp only [q_put, z_put, x_if_t ec0] at hK
    exact hK _ _ _ _ _ ⟨fa, bd, (hR.fa_ (f := nI 0) hn.2)⟩ (x_ex.rf.ui rfl) (by omega)

set_option maxRecDepth 100000 in
set_option maxHeartbeats 4000000 in
theorem t_X11_at {K : x_K} {S : x_S} {P : x_P} {I : x_I} {J : x_J} {n : Nat} {k i l : Int32} {fa : Nat → Nat} {bd : Nat} {Z : x_I} (hR : c_R fa bd Z S P I J n) (mi : m_I Z) (hK : c_K K (z_at Z k i l) I J n (.long (q_at Z k i l))) : x_Call f_X11_at [.ref 1, .int k, .int i, .int l] K S P I J n := by
  have hS := hR.hS
  have hP := hR.hP
  have hn := mi.hn
  have hfo := mi.fo
  have h9 : m_ns Z = (Z 39 2).toInt.toNat := rfl
  refine x_intro (by decide) 1 (ls := [_, _, _, _, _]) rfl (Nat.le_of_ble_eq_true rfl) ?_
  refine v_aload_n d_X11_at_0 rfl ?_
  refine v_gr d_X11_at_1 lf_X11_53_11 rfl (hS _ _ rfl) (hP _ _ _ rfl) ?_
  refine v_cv (as := []) (rest := []) d_X11_at_4 lv_X11_129_7 (hS _ _ rfl) rfl ⟨by decide, by decide⟩ rfl (Nat.le_of_ble_eq_true rfl) (by decide) (by decide) ?_
  refine t_X7_begin hS hP ?_
  refine v_iload_n d_X11_at_7 rfl ?_
  refine v_cs (as := [_]) (rest := []) d_X11_at_8 ls_X11_132 rfl ⟨by decide, by decide⟩ rfl (Nat.le_of_ble_eq_true rfl) (by decide) (by decide) ?_
  refine t_X7_has (fun q1 => ?_) (fun q1 => ?_)
  · obtain ⟨j, rfl, hk_j, t_j, y_j⟩ := x_ex1 (s := k) (q1.1)
    have q1b := q1.2
    rw [t_j] at q1b
    refine w_if_eq d_X11_at_11 (fun h11 => absurd h11 (by decide)) (fun _ => ?_)
    refine v_iload_n d_X11_at_14 rfl ?_
    refine v_cs (as := [_]) (rest := []) d_X11_at_15 ls_X11_135 rfl ⟨by decide, by decide⟩ rfl (Nat.le_of_ble_eq_true rfl) (by decide) (by decide) ?_
    refine t_X7_isLane (fun q2 => ?_) (fun q2 => ?_)
    · refine w_if_ne d_X11_at_18 (fun _ => ?_) (fun h18 => absurd h18 (by decide))
      refine v_aload_n d_X11_at_25 rfl ?_
      refine v_gr d_X11_at_26 lf_X11_53_11 rfl (hS _ _ rfl) (hP _ _ _ rfl) ?_
      refine v_iload_n d_X11_at_29 rfl ?_
      refine v_iload_n d_X11_at_30 rfl ?_
      refine v_iload_n d_X11_at_31 rfl ?_
      refine v_lconst (v := 1) d_X11_at_32 rfl ?_
      refine v_cv (as := [_, _, _, _]) (rest := []) d_X11_at_33 lv_X11_144_7 (hS _ _ rfl) rfl ⟨by decide, by decide⟩ rfl (Nat.le_of_ble_eq_true rfl) (by decide) (by decide) ?_
      refine t_X7_faultOfTaking (Z := Z) j rfl (by omega) (mi.la j (by omega)).1 (mi.la j (by omega)).2 (hR.Sh j (by omega)).1 (hR.Sh j (by omega)).2.1 (by decide) hS hP ?_
      have hla := (mi.la j (by omega))
      have t1 : (1 : Int64).toInt = 1 := by decide
      have cpn := c_pn1 hla.1
      have hag : m_ag3 (Z 45 j).toInt (Z 46 j).toInt l.toInt i.toInt (1 : Int64).toInt = m_ag (Z 45 j).toInt (Z 46 j).toInt l.toInt i.toInt 1 1 := by rw [t1]; exact m_ag3_1 _ _ _ _ 1 1 (Or.inl rfl)
      rw [hag]
      have hle := m_ag_le (Z 45 j).toInt (Z 46 j).toInt l.toInt i.toInt 1 1
      refine v_istore (ls' := [_, _, _, _, _]) d_X11_at_36 (by decide) rfl ?_
      refine v_iload d_X11_at_38 rfl ?_
      refine w_if_eq d_X11_at_40 (fun a40 => ?_) (fun a40 => ?_)
      · rw [x_ti (by omega)] at a40
        have a40 : m_ag (Z 45 j).toInt (Z 46 j).toInt l.toInt i.toInt 1 1 = 0 := by omega
        obtain ⟨g1, g2, g3, g4, g5, g6⟩ := m_ag_0 a40
        obtain ⟨i0, rfl, hk_i0, t_i0, y_i0⟩ := x_ex1 (s := i) (g4)
        rw [t_i0] at g5 g6
        refine v_aload_n d_X11_at_57 rfl ?_
        refine v_gr d_X11_at_58 lf_X11_53_11 rfl (hS _ _ rfl) (hP _ _ _ rfl) ?_
        refine v_iload_n d_X11_at_61 rfl ?_
        refine v_iload_n d_X11_at_62 rfl ?_
        refine v_cv (as := [_, _]) (rest := []) d_X11_at_63 lv_X11_300_7 (hS _ _ rfl) rfl ⟨by decide, by decide⟩ rfl (Nat.le_of_ble_eq_true rfl) (by decide) (by decide) ?_
        refine t_X7_read j i0 rfl (by omega) rfl (by omega) hS hP ?_
        rw [show x_u2 I 31 3 (nI 0) (33 + j) i0 = I (33 + j) i0 from x_u2_na _ _ _ _ (by omega), (hR.Sh j (by omega)).2.2 i0 (by omega)]
        refine v_i2l d_X11_at_66 ?_
        refine v_ret (v := some (.long _)) d_X11_at_67 rfl ⟨rfl, rfl⟩ (by decide) (by decide) ?_
        have ec0 : ¬ (¬ (g_ey (nI j) ∧ 0 ≤ l.toInt ∧ l.toInt ≤ 2)) := fun z => z ⟨q1, q2⟩
        have ec1 : ¬ (¬ m_ag (Z 45 j).toInt (Z 46 j).toInt l.toInt (nI i0).toInt 1 1 = 0) := fun z => z a40
        simp only [q_at, z_at, x_if_f ec0, x_if_f ec1, y_j, y_i0] at hK
        exact hK _ _ _ _ _ ⟨fa, bd, (hR.fa_ (f := nI 0) hn.2)⟩ (x_ex.rf.ui rfl) (by omega)
      · have a40 : ¬ m_ag (Z 45 j).toInt (Z 46 j).toInt l.toInt i.toInt 1 1 = 0 := fun z => a40 (by rw [z]; decide)
        refine v_aload_n d_X11_at_43 rfl ?_
        refine v_gr d_X11_at_44 lf_X11_53_11 rfl (hS _ _ rfl) (hP _ _ _ rfl) ?_
        refine v_iload d_X11_at_47 rfl ?_
        refine v_cv (as := [_]) (rest := []) d_X11_at_49 lv_X11_148_7 (hS _ _ rfl) rfl ⟨by decide, by decide⟩ rfl (Nat.le_of_ble_eq_true rfl) (by decide) (by decide) ?_
        refine t_X7_failBy hS hP ?_
        refine v_pop d_X11_at_52 rfl ?_
        refine v_ldc2 d_X11_at_53 lk_X11_298 ?_
        refine v_ret (v := some (.long _)) d_X11_at_56 rfl ⟨rfl, rfl⟩ (by decide) (by decide) ?_
        have ec0 : ¬ (¬ (g_ey (nI j) ∧ 0 ≤ l.toInt ∧ l.toInt ≤ 2)) := fun z => z ⟨q1, q2⟩
        have ec1 : ¬ m_ag (Z 45 j).toInt (Z 46 j).toInt l.toInt i.toInt 1 1 = 0 := a40
        simp only [q_at, z_at, x_if_f ec0, x_if_t ec1, y_j] at hK
        exact hK _ _ _ _ _ ⟨fa, bd, (hR.fa_ (f := nI 0) hn.2).fa_ hn.2⟩ ((x_ex.rf.ui rfl).ui rfl) (by omega)
    · refine w_if_ne d_X11_at_18 (fun h18 => absurd h18 (by decide)) (fun _ => ?_)
      refine v_ldc2 d_X11_at_21 lk_X11_298 ?_
      refine v_ret (v := some (.long _)) d_X11_at_24 rfl ⟨rfl, rfl⟩ (by decide) (by decide) ?_
      first
        | (have ec0 : ¬ (g_ey k ∧ 0 ≤ l.toInt ∧ l.toInt ≤ 2) := fun z => q1 z.1
           simp only [q_at, z_at, x_if_t ec0] at hK
           exact hK _ _ _ _ _ ⟨fa, bd, (hR.fa_ (f := nI 0) hn.2)⟩ (x_ex.rf.ui rfl) (by omega))
        | (have ec0 : ¬ (g_ey (nI j) ∧ 0 ≤ l.toInt ∧ l.toInt ≤ 2) := fun z => q2 z.2
           simp only [q_at, z_at, x_if_t ec0] at hK
           exact hK _ _ _ _ _ ⟨fa, bd, (hR.fa_ (f := nI 0) hn.2)⟩ (x_ex.rf.ui rfl) (by omega))
  · refine w_if_eq d_X11_at_11 (fun _ => ?_) (fun h11 => absurd h11 (by decide))
    refine v_ldc2 d_X11_at_21 lk_X11_298 ?_
    refine v_ret (v := some (.long _)) d_X11_at_24 rfl ⟨rfl, rfl⟩ (by decide) (by decide) ?_
    first
      | (have ec0 : ¬ (g_ey k ∧ 0 ≤ l.toInt ∧ l.toInt ≤ 2) := fun z => q1 z.1
         simp only [q_at, z_at, x_if_t ec0] at hK
         exact hK _ _ _ _ _ ⟨fa, bd, (hR.fa_ (f := nI 0) hn.2)⟩ (x_ex.rf.ui rfl) (by omega))
      | (have ec0 : ¬ (g_ey (nI j) ∧ 0 ≤ l.toInt ∧ l.toInt ≤ 2) := fun z => q2 z.2
         simp only [q_at, z_at, x_if_t ec0] at hK
         exact hK _ _ _ _ _ ⟨fa, bd, (hR.fa_ (f := nI 0) hn.2)⟩ (x_ex.rf.ui rfl) (by omega))

set_option maxRecDepth 100000 in
set_option maxHeartbeats 4000000 in
theorem t_X11_about {K : x_K} {S : x_S} {P : x_P} {I : x_I} {J : x_J} {n : Nat} {s what : Int32} {fa : Nat → Nat} {bd : Nat} {Z : x_I} (hR : c_R fa bd Z S P I J n) (mi : m_I Z) (hK : c_K K (Z) I J n (.int (q_about Z s what))) : x_Call f_X11_about [.ref 1, .int s, .int what] K S P I J n := by
  have hS := hR.hS
  have hP := hR.hP
  have hn := mi.hn
  have hfo := mi.fo
  have h9 : m_ns Z = (Z 39 2).toInt.toNat := rfl
  refine x_intro (by decide) 2 (ls := [_, _, _, _, _]) rfl (Nat.le_of_ble_eq_true rfl) ?_
  refine v_aload_n d_X11_about_0 rfl ?_
  refine v_gr d_X11_about_1 lf_X11_21_11 rfl (hS _ _ rfl) (hP _ _ _ rfl) ?_
  refine v_iload_n d_X11_about_4 rfl ?_
  refine v_cv (as := [_]) (rest := []) d_X11_about_5 lv_X11_78_8 (hS _ _ rfl) rfl ⟨by decide, by decide⟩ rfl (Nat.le_of_ble_eq_true rfl) (by decide) (by decide) ?_
  refine t_X8_wall hR mi (fun q => ?_) (fun k e hk hk10 => ?_)
  · refine v_astore_nN (ls' := [_, _, _, _, _]) d_X11_about_8 (by decide) rfl ?_
    refine v_aload_nN d_X11_about_9 rfl ?_
    refine v_ifnonnullN d_X11_about_10 ?_
    refine v_iconst (v := (-1)) d_X11_about_13 x_ic_m1 ?_
    refine v_ret (v := some (.int _)) d_X11_about_14 rfl ⟨rfl, _, rfl, rfl⟩ (by decide) (by decide) ?_
    have ec0 : ¬ g_sf Z s := q
    simp only [q_about, x_if_t ec0] at hK
    exact hK _ _ _ _ _ ⟨fa, bd, hR⟩ (x_ex.rf) (by omega)
  · subst e
    have hw := hR.w hk
    have y_k := x_kn (show k < 2147483648 by omega)
    refine v_astore_n (ls' := [_, _, _, _, _]) d_X11_about_8 (by decide) rfl ?_
    refine v_aload_n d_X11_about_9 rfl ?_
    refine v_ifnonnull d_X11_about_10 ?_
    refine v_aload_n d_X11_about_15 rfl ?_
    refine v_gr d_X11_about_16 (lfw_X11_82 (c_kc_ok _)) (x_ftw1 (c_kc_ok _)) (hw.sw) (hw.pf) ?_
    refine v_astore (ls' := [_, _, _, _, _]) d_X11_about_19 (by decide) rfl ?_
    refine v_iload_n d_X11_about_21 rfl ?_
    rcases (show what.toInt = 0 ∨ what.toInt = 1 ∨ what.toInt = 2 ∨ what.toInt = 3 ∨ what.toInt = 4 ∨ what.toInt = 5 ∨ what.toInt = 6 ∨ what.toInt = 7 ∨ (what.toInt < 0 ∨ 7 < what.toInt) by omega) with e | e | e | e | e | e | e | e | e
    · refine v_tin (off := 46) (tgt := 68) d_X11_about_22 (by omega) (by omega) (by rw [e]; rfl) (by decide) ?_
      refine v_aload_n d_X11_about_68 rfl ?_
      refine sv_X11_about_69 hw (mi.kd k hk) (fun v hv => ?_)
      rw [Int32.toInt_inj.mp hv]
      refine v_ret (v := some (.int _)) d_X11_about_72 rfl ⟨rfl, _, rfl, rfl⟩ (by decide) (by decide) ?_
      have ec0 : ¬ (¬ g_sf Z (nI k)) := fun z => z (by unfold g_sf; rw [x_ti (by omega)]; omega)
      have ec1 : what.toInt = 0 := e
      simp only [q_about, x_if_f ec0, x_if_t ec1, y_k] at hK
      exact hK _ _ _ _ _ ⟨fa, bd, hR⟩ (x_ex.rf) (by omega)
    · refine v_tin (off := 51) (tgt := 73) d_X11_about_22 (by omega) (by omega) (by rw [e]; rfl) (by decide) ?_
      refine v_aload d_X11_about_73 rfl ?_
      refine v_gie d_X11_about_75 lf_X11_92_1 rfl (hw.sf) (hw.fl.ax) ?_
      refine v_ret (v := some (.int _)) d_X11_about_78 rfl ⟨rfl, _, rfl, rfl⟩ (by decide) (by decide) ?_
      have ek : x_k what = 1 := by unfold x_k; rw [e]; rfl
      have ec0 : ¬ (¬ g_sf Z (nI k)) := fun z => z (by unfold g_sf; rw [x_ti (by omega)]; omega)
      have ec1 : ¬ (what.toInt = 0) := by omega
      have ec2 : 1 ≤ what.toInt ∧ what.toInt ≤ 6 := by omega
      simp only [q_about, x_if_f ec0, x_if_f ec1, x_if_t ec2, y_k, ek] at hK
      exact hK _ _ _ _ _ ⟨fa, bd, hR⟩ (x_ex.rf) (by omega)
    · refine v_tin (off := 57) (tgt := 79) d_X11_about_22 (by omega) (by omega) (by rw [e]; rfl) (by decide) ?_
      refine v_aload d_X11_about_79 rfl ?_
      refine v_gie d_X11_about_81 lf_X11_96_1 rfl (hw.sf) (hw.fl.c) ?_
      refine v_ret (v := some (.int _)) d_X11_about_84 rfl ⟨rfl, _, rfl, rfl⟩ (by decide) (by decide) ?_
      have ek : x_k what = 2 := by unfold x_k; rw [e]; rfl
      have ec0 : ¬ (¬ g_sf Z (nI k)) := fun z => z (by unfold g_sf; rw [x_ti (by omega)]; omega)
      have ec1 : ¬ (what.toInt = 0) := by omega
      have ec2 : 1 ≤ what.toInt ∧ what.toInt ≤ 6 := by omega
      simp only [q_about, x_if_f ec0, x_if_f ec1, x_if_t ec2, y_k, ek] at hK
      exact hK _ _ _ _ _ ⟨fa, bd, hR⟩ (x_ex.rf) (by omega)
    · refine v_tin (off := 63) (tgt := 85) d_X11_about_22 (by omega) (by omega) (by rw [e]; rfl) (by decide) ?_
      refine v_aload d_X11_about_85 rfl ?_
      refine v_gie d_X11_about_87 lf_X11_99_1 rfl (hw.sf) (hw.fl.u) ?_
      refine v_ret (v := some (.int _)) d_X11_about_90 rfl ⟨rfl, _, rfl, rfl⟩ (by decide) (by decide) ?_
      have ek : x_k what = 3 := by unfold x_k; rw [e]; rfl
      have ec0 : ¬ (¬ g_sf Z (nI k)) := fun z => z (by unfold g_sf; rw [x_ti (by omega)]; omega)
      have ec1 : ¬ (what.toInt = 0) := by omega
      have ec2 : 1 ≤ what.toInt ∧ what.toInt ≤ 6 := by omega
      simp only [q_about, x_if_f ec0, x_if_f ec1, x_if_t ec2, y_k, ek] at hK
      exact hK _ _ _ _ _ ⟨fa, bd, hR⟩ (x_ex.rf) (by omega)
    · refine v_tin (off := 69) (tgt := 91) d_X11_about_22 (by omega) (by omega) (by rw [e]; rfl) (by decide) ?_
      refine v_aload d_X11_about_91 rfl ?_
      refine v_gie d_X11_about_93 lf_X11_102_1 rfl (hw.sf) (hw.fl.v) ?_
      refine v_ret (v := some (.int _)) d_X11_about_96 rfl ⟨rfl, _, rfl, rfl⟩ (by decide) (by decide) ?_
      have ek : x_k what = 4 := by unfold x_k; rw [e]; rfl
      have ec0 : ¬ (¬ g_sf Z (nI k)) := fun z => z (by unfold g_sf; rw [x_ti (by omega)]; omega)
      have ec1 : ¬ (what.toInt = 0) := by omega
      have ec2 : 1 ≤ what.toInt ∧ what.toInt ≤ 6 := by omega
      simp only [q_about, x_if_f ec0, x_if_f ec1, x_if_t ec2, y_k, ek] at hK
      exact hK _ _ _ _ _ ⟨fa, bd, hR⟩ (x_ex.rf) (by omega)
    · refine v_tin (off := 75) (tgt := 97) d_X11_about_22 (by omega) (by omega) (by rw [e]; rfl) (by decide) ?_
      refine v_aload d_X11_about_97 rfl ?_
      refine v_gie d_X11_about_99 lf_X11_105_1 rfl (hw.sf) (hw.fl.w) ?_
      refine v_ret (v := some (.int _)) d_X11_about_102 rfl ⟨rfl, _, rfl, rfl⟩ (by decide) (by decide) ?_
      have ek : x_k what = 5 := by unfold x_k; rw [e]; rfl
      have ec0 : ¬ (¬ g_sf Z (nI k)) := fun z => z (by unfold g_sf; rw [x_ti (by omega)]; omega)
      have ec1 : ¬ (what.toInt = 0) := by omega
      have ec2 : 1 ≤ what.toInt ∧ what.toInt ≤ 6 := by omega
      simp only [q_about, x_if_f ec0, x_if_f ec1, x_if_t ec2, y_k, ek] at hK
      exact hK _ _ _ _ _ ⟨fa, bd, hR⟩ (x_ex.rf) (by omega)
    · refine v_tin (off := 81) (tgt := 103) d_X11_about_22 (by omega) (by omega) (by rw [e]; rfl) (by decide) ?_
      refine v_aload d_X11_about_103 rfl ?_
      refine v_gie d_X11_about_105 lf_X11_108_1 rfl (hw.sf) (hw.fl.h) ?_
      refine v_ret (v := some (.int _)) d_X11_about_108 rfl ⟨rfl, _, rfl, rfl⟩ (by decide) (by decide) ?_
      have ek : x_k what = 6 := by unfold x_k; rw [e]; rfl
      have ec0 : ¬ (¬ g_sf Z (nI k)) := fun z => z (by unfold g_sf; rw [x_ti (by omega)]; omega)
      have ec1 : ¬ (what.toInt = 0) := by omega
      have ec2 : 1 ≤ what.toInt ∧ what.toInt ≤ 6 := by omega
      simp only [q_about, x_if_f ec0, x_if_f ec1, x_if_t ec2, y_k, ek] at hK
      exact hK _ _ _ _ _ ⟨fa, bd, hR⟩ (x_ex.rf) (by omega)
    · refine v_tin (off := 87) (tgt := 109) d_X11_about_22 (by omega) (by omega) (by rw [e]; rfl) (by decide) ?_
      refine v_aload_n d_X11_about_109 rfl ?_
      refine sv_X11_about_110 (by omega) (hfo k hk) mi.co hw (mi.kd k hk) ?_
      refine v_ret (v := some (.int _)) d_X11_about_113 rfl ⟨rfl, _, rfl, rfl⟩ (by decide) (by decide) ?_
      have ec0 : ¬ (¬ g_sf Z (nI k)) := fun z => z (by unfold g_sf; rw [x_ti (by omega)]; omega)
      have ec1 : ¬ (what.toInt = 0) := by omega
      have ec2 : ¬ (1 ≤ what.toInt ∧ what.toInt ≤ 6) := by omega
      have ec3 : what.toInt = 7 := by omega
      simp only [q_about, x_if_f ec0, x_if_f ec1, x_if_f ec2, x_if_t ec3, y_k] at hK
      exact hK _ _ _ _ _ ⟨fa, bd, hR⟩ (x_ex.rf) (by omega)
    · refine v_tout (tgt := 114) d_X11_about_22 e (by decide) ?_
      refine v_bipush (v := (-2)) d_X11_about_114 x_bp_m2 ?_
      refine v_ret (v := some (.int _)) d_X11_about_116 rfl ⟨rfl, _, rfl, rfl⟩ (by decide) (by decide) ?_
      have ec0 : ¬ (¬ g_sf Z (nI k)) := fun z => z (by unfold g_sf; rw [x_ti (by omega)]; omega)
      have ec1 : ¬ (what.toInt = 0) := by omega
      have ec2 : ¬ (1 ≤ what.toInt ∧ what.toInt ≤ 6) := by omega
      have ec3 : ¬ (what.toInt = 7) := by omega
      simp only [q_about, x_if_f ec0, x_if_f ec1, x_if_f ec2, x_if_f ec3, y_k] at hK
      exact hK _ _ _ _ _ ⟨fa, bd, hR⟩ (x_ex.rf) (by omega)

theorem x_2x (x a : Int32) : x + a + x = nI 2 * x + a := by
  have e : nI 2 * x = x + x := by
    have e2 : nI 2 = 1 + 1 := by decide
    rw [e2, Int32.add_mul, Int32.one_mul]
  rw [e, Int32.add_assoc, Int32.add_comm a x, ← Int32.add_assoc]
theorem x_i2 {I I2 : x_I} {v : Int32} (h : ∀ a j, ¬ (a = 2 ∧ j = 0) → I2 a j = I a j) (h2 : I2 2 0 = v) : I2 = x_u2 I 2 0 v := by
  funext a j
  rw [x_u2_at]
  by_cases e : a = 2 ∧ j = 0
  · rw [if_pos e, e.1, e.2]; exact h2
  · rw [if_neg e]; exact h a j e

set_option maxRecDepth 100000 in
set_option maxHeartbeats 4000000 in
theorem sv_X11_tell_22 {K : x_K} {S : x_S} {P : x_P} {I : x_I} {J : x_J} {n : Nat} {fa : Nat → Nat} {Z : x_I} {s : Nat} {ls : List (Option Value)} (hS : x_hS S) (hP : x_hP P) (hw : c_w fa Z S P I n s) (hk : 0 ≤ (Z 40 s).toInt ∧ (Z 40 s).toInt ≤ 2) (h1 : (Z 40 s).toInt = 0 → x_V f_X11_tell K 25 ls [.int (Z 41 (6 * s + 4) * Z 41 (6 * s + 5))] S P (x_u2 I 2 0 (x_tw (I 2 0) (nI 1))) J n 0 0) (h2 : (Z 40 s).toInt = 1 → x_V f_X11_tell K 25 ls [.int (Z 41 (6 * s + 4) * Z 41 (6 * s + 5) + Z 41 (6 * s))] S P (x_u2 I 2 0 (x_tw (x_tw (I 2 0) (nI 2)) (nI 1))) J n 0 0) (h3 : (Z 40 s).toInt = 2 → x_V f_X11_tell K 25 ls [.int (nI 2 * (Z 41 (6 * s + 4) * Z 41 (6 * s + 5)) + Z 41 (6 * s))] S P (x_u2 I 2 0 (x_tw (x_tw (x_tw (x_tw (I 2 0) (nI 3)) (nI 2)) (nI 1)) (nI 1))) J n 0 0) : x_V f_X11_tell K 22 ls [.ref 2, .ref (fa s + 1)] S P I J n 0 0 := by
  have hs := hw.sw
  unfold c_kc at hs
  split at hs
  · refine v_cv (as := [_]) (rest := []) d_X11_tell_22 lv_X11_303_10 hs rfl ⟨by decide, by decide⟩ rfl (Nat.le_of_ble_eq_true rfl) (by decide) (by decide) ?_
    refine t_X10_told hw hS hP hs (Or.inl rfl) ?_
    exact h1 (by omega)
  · split at hs
    · refine v_cu (as := [_]) (rest := []) d_X11_tell_22 lu_X11_303_5 hs rfl ⟨by decide, by decide⟩ rfl (Nat.le_of_ble_eq_true rfl) (by decide) (by decide) ?_
      refine t_X5_told_5 hw hS hP hs ?_
      rw [x_uu]
      exact h2 (by omega)
    · refine v_cu (as := [_]) (rest := []) d_X11_tell_22 lu_X11_303_0 hs rfl ⟨by decide, by decide⟩ rfl (Nat.le_of_ble_eq_true rfl) (by decide) (by decide) ?_
      refine t_X0_told hw hS hP hs (fun I2 g1 g2 => ?_)
      rw [x_i2 g1 g2, x_2x]
      exact h3 (by omega)

set_option maxRecDepth 100000 in
set_option maxHeartbeats 4000000 in
theorem sv_X11_name_22 {K : x_K} {S : x_S} {P : x_P} {I : x_I} {J : x_J} {n : Nat} {fa : Nat → Nat} {Z : x_I} {s : Nat} {ls : List (Option Value)} (hS : x_hS S) (hP : x_hP P) (hw : c_w fa Z S P I n s) (hk : 0 ≤ (Z 40 s).toInt ∧ (Z 40 s).toInt ≤ 2) (h1 : ¬ (Z 40 s).toInt = 2 → x_V f_X11_name K 25 ls [.int (nI s)] S P (x_u2 I 2 0 (x_tw (I 2 0) (nI 4))) J n 0 0) (h3 : (Z 40 s).toInt = 2 → x_V f_X11_name K 25 ls [.int (nI 60)] S P (x_u2 I 2 0 (x_tw (I 2 0) (nI 5))) J n 0 0) : x_V f_X11_name K 22 ls [.ref 2, .ref (fa s + 1)] S P I J n 0 0 := by
  have hs := hw.sw
  unfold c_kc at hs
  split at hs
  · refine v_cv (as := [_]) (rest := []) d_X11_name_22 lv_X11_307_10 hs rfl ⟨by decide, by decide⟩ rfl (Nat.le_of_ble_eq_true rfl) (by decide) (by decide) ?_
    refine t_X10_named hw hS hP ?_
    exact h1 (by omega)
  · split at hs
    · refine v_cu (as := [_]) (rest := []) d_X11_name_22 lu_X11_307_5 hs rfl ⟨by decide, by decide⟩ rfl (Nat.le_of_ble_eq_true rfl) (by decide) (by decide) ?_
      refine t_X10_named hw hS hP ?_
      exact h1 (by omega)
    · refine v_cu (as := [_]) (rest := []) d_X11_name_22 lu_X11_307_0 hs rfl ⟨by decide, by decide⟩ rfl (Nat.le_of_ble_eq_true rfl) (by decide) (by decide) ?_
      refine t_X0_named hS hP ?_
      exact h3 (by omega)

set_option maxRecDepth 100000 in
set_option maxHeartbeats 4000000 in
theorem t_X11_tell {K : x_K} {S : x_S} {P : x_P} {I : x_I} {J : x_J} {n : Nat} {s : Int32} {fa : Nat → Nat} {bd : Nat} {Z : x_I} (hR : c_R fa bd Z S P I J n) (mi : m_I Z) (hK : c_K K (x_u2 Z 39 1 (q_tlt Z s)) I J n (.int (q_tell Z s))) : x_Call f_X11_tell [.ref 1, .int s] K S P I J n := by
  have hS := hR.hS
  have hP := hR.hP
  have hn := mi.hn
  have hfo := mi.fo
  have h9 : m_ns Z = (Z 39 2).toInt.toNat := rfl
  refine x_intro (by decide) 1 (ls := [_, _, _]) rfl (Nat.le_of_ble_eq_true rfl) ?_
  refine v_aload_n d_X11_tell_0 rfl ?_
  refine v_gr d_X11_tell_1 lf_X11_21_11 rfl (hS _ _ rfl) (hP _ _ _ rfl) ?_
  refine v_iload_n d_X11_tell_4 rfl ?_
  refine v_cv (as := [_]) (rest := []) d_X11_tell_5 lv_X11_78_8 (hS _ _ rfl) rfl ⟨by decide, by decide⟩ rfl (Nat.le_of_ble_eq_true rfl) (by decide) (by decide) ?_
  refine t_X8_wall hR mi (fun q => ?_) (fun k e hk hk10 => ?_)
  · refine v_astore_nN (ls' := [_, _, _]) d_X11_tell_8 (by decide) rfl ?_
    refine v_aload_nN d_X11_tell_9 rfl ?_
    refine v_ifnonnullN d_X11_tell_10 ?_
    refine v_iconst (v := (-1)) d_X11_tell_13 x_ic_m1 ?_
    refine v_goto d_X11_tell_14 ?_
    refine v_ret (v := some (.int _)) d_X11_tell_25 rfl ⟨rfl, _, rfl, rfl⟩ (by decide) (by decide) ?_
    have ec0 : ¬ g_sf Z s := q
    simp only [q_tell, q_tlt, x_if_t ec0, x_uid] at hK
    exact hK _ _ _ _ _ ⟨fa, bd, hR⟩ x_ex.rf (by omega)
  · subst e
    have hw := hR.w hk
    have y_k := x_kn (show k < 2147483648 by omega)
    refine v_astore_n (ls' := [_, _, _]) d_X11_tell_8 (by decide) rfl ?_
    refine v_aload_n d_X11_tell_9 rfl ?_
    refine v_ifnonnull d_X11_tell_10 ?_
    refine v_aload_n d_X11_tell_17 rfl ?_
    refine v_aload_n d_X11_tell_18 rfl ?_
    refine v_gr d_X11_tell_19 lf_X11_12_11 rfl (hS _ _ rfl) (hP _ _ _ rfl) ?_
    refine sv_X11_tell_22 hS hP hw (mi.kd k hk) (fun qk => ?_) (fun qk => ?_) (fun qk => ?_)
    · refine v_ret (v := some (.int _)) d_X11_tell_25 rfl ⟨rfl, _, rfl, rfl⟩ (by decide) (by decide) ?_
      have ec0 : ¬ (¬ g_sf Z (nI k)) := fun z => z (by unfold g_sf; rw [x_ti (by omega)]; omega)
      have ec1 : ¬ ((Z 40 k).toInt = 1) := by omega
      have ec2 : ¬ ((Z 40 k).toInt = 2) := by omega
      simp only [q_tell, q_tlt, x_if_f ec0, x_if_f ec1, x_if_f ec2, y_k, ← hR.tra] at hK
      exact hK _ _ _ _ _ ⟨fa, bd, hR.tr_ hn.2⟩ (x_ex.rf.ui rfl) (by omega)
    · refine v_ret (v := some (.int _)) d_X11_tell_25 rfl ⟨rfl, _, rfl, rfl⟩ (by decide) (by decide) ?_
      have ec0 : ¬ (¬ g_sf Z (nI k)) := fun z => z (by unfold g_sf; rw [x_ti (by omega)]; omega)
      have ec1 : (Z 40 k).toInt = 1 := by omega
      simp only [q_tell, q_tlt, x_if_f ec0, x_if_t ec1, y_k, ← hR.tra] at hK
      exact hK _ _ _ _ _ ⟨fa, bd, hR.tr_ hn.2⟩ (x_ex.rf.ui rfl) (by omega)
    · refine v_ret (v := some (.int _)) d_X11_tell_25 rfl ⟨rfl, _, rfl, rfl⟩ (by decide) (by decide) ?_
      have ec0 : ¬ (¬ g_sf Z (nI k)) := fun z => z (by unfold g_sf; rw [x_ti (by omega)]; omega)
      have ec1 : ¬ ((Z 40 k).toInt = 1) := by omega
      have ec2 : (Z 40 k).toInt = 2 := by omega
      simp only [q_tell, q_tlt, x_if_f ec0, x_if_f ec1, x_if_t ec2, y_k, ← hR.tra] at hK
      exact hK _ _ _ _ _ ⟨fa, bd, hR.tr_ hn.2⟩ (x_ex.rf.ui rfl) (by omega)

set_option maxRecDepth 100000 in
set_option maxHeartbeats 4000000 in
theorem t_X11_name {K : x_K} {S : x_S} {P : x_P} {I : x_I} {J : x_J} {n : Nat} {s : Int32} {fa : Nat → Nat} {bd : Nat} {Z : x_I} (hR : c_R fa bd Z S P I J n) (mi : m_I Z) (hK : c_K K (x_u2 Z 39 1 (q_nmt Z s)) I J n (.int (q_name Z s))) : x_Call f_X11_name [.ref 1, .int s] K S P I J n := by
  have hS := hR.hS
  have hP := hR.hP
  have hn := mi.hn
  have hfo := mi.fo
  have h9 : m_ns Z = (Z 39 2).toInt.toNat := rfl
  refine x_intro (by decide) 1 (ls := [_, _, _]) rfl (Nat.le_of_ble_eq_true rfl) ?_
  refine v_aload_n d_X11_name_0 rfl ?_
  refine v_gr d_X11_name_1 lf_X11_21_11 rfl (hS _ _ rfl) (hP _ _ _ rfl) ?_
  refine v_iload_n d_X11_name_4 rfl ?_
  refine v_cv (as := [_]) (rest := []) d_X11_name_5 lv_X11_78_8 (hS _ _ rfl) rfl ⟨by decide, by decide⟩ rfl (Nat.le_of_ble_eq_true rfl) (by decide) (by decide) ?_
  refine t_X8_wall hR mi (fun q => ?_) (fun k e hk hk10 => ?_)
  · refine v_astore_nN (ls' := [_, _, _]) d_X11_name_8 (by decide) rfl ?_
    refine v_aload_nN d_X11_name_9 rfl ?_
    refine v_ifnonnullN d_X11_name_10 ?_
    refine v_iconst (v := (-1)) d_X11_name_13 x_ic_m1 ?_
    refine v_goto d_X11_name_14 ?_
    refine v_ret (v := some (.int _)) d_X11_name_25 rfl ⟨rfl, _, rfl, rfl⟩ (by decide) (by decide) ?_
    have ec0 : ¬ g_sf Z s := q
    simp only [q_name, q_nmt, x_if_t ec0, x_uid] at hK
    exact hK _ _ _ _ _ ⟨fa, bd, hR⟩ x_ex.rf (by omega)
  · subst e
    have hw := hR.w hk
    have y_k := x_kn (show k < 2147483648 by omega)
    refine v_astore_n (ls' := [_, _, _]) d_X11_name_8 (by decide) rfl ?_
    refine v_aload_n d_X11_name_9 rfl ?_
    refine v_ifnonnull d_X11_name_10 ?_
    refine v_aload_n d_X11_name_17 rfl ?_
    refine v_aload_n d_X11_name_18 rfl ?_
    refine v_gr d_X11_name_19 lf_X11_12_11 rfl (hS _ _ rfl) (hP _ _ _ rfl) ?_
    refine sv_X11_name_22 hS hP hw (mi.kd k hk) (fun qk => ?_) (fun qk => ?_)
    · refine v_ret (v := some (.int _)) d_X11_name_25 rfl ⟨rfl, _, rfl, rfl⟩ (by decide) (by decide) ?_
      have ec0 : ¬ (¬ g_sf Z (nI k)) := fun z => z (by unfold g_sf; rw [x_ti (by omega)]; omega)
      have ec1 : ¬ ((Z 40 k).toInt = 2) := qk
      simp only [q_name, q_nmt, x_if_f ec0, x_if_f ec1, y_k, ← hR.tra] at hK
      exact hK _ _ _ _ _ ⟨fa, bd, hR.tr_ hn.2⟩ (x_ex.rf.ui rfl) (by omega)
    · refine v_ret (v := some (.int _)) d_X11_name_25 rfl ⟨rfl, _, rfl, rfl⟩ (by decide) (by decide) ?_
      have ec0 : ¬ (¬ g_sf Z (nI k)) := fun z => z (by unfold g_sf; rw [x_ti (by omega)]; omega)
      have ec1 : (Z 40 k).toInt = 2 := qk
      simp only [q_name, q_nmt, x_if_f ec0, x_if_t ec1, y_k, ← hR.tra] at hK
      exact hK _ _ _ _ _ ⟨fa, bd, hR.tr_ hn.2⟩ (x_ex.rf.ui rfl) (by omega)

theorem m_I.f0 {Z : x_I} {f : Int32} (h : m_I Z) : m_I (x_u2 Z 39 0 f) := by
  obtain ⟨h1, h2, h3, h4, h5, h6, h7, h8, h9, h10, h11, h12, h13⟩ := h
  have eb : ∀ k, m_nb (x_u2 Z 39 0 f) 41 k = m_nb Z 41 k := fun k => m_nb_41 (Z := Z) (Z' := x_u2 Z 39 0 f) rfl (fun _ => rfl) k
  refine ⟨h1, h2, h3, m_fo_sm h4 (fun k _ => eb _), h5, h6, h7, ?_, h9, h10, h11, h12, h13⟩
  intro e k he hk hc
  rw [m_ce_sm (fun k _ => eb _)] at hc
  exact h8 e k he hk hc

set_option maxRecDepth 100000 in
set_option maxHeartbeats 4000000 in
theorem t_X11_as {K : x_K} {S : x_S} {P : x_P} {I : x_I} {J : x_J} {n : Nat} {s kd : Int32} {fa : Nat → Nat} {bd : Nat} {Z : x_I} (hR : c_R fa bd Z S P I J n) (mi : m_I Z) (hK : c_K K (z_as Z s kd) I J n (.int (q_as Z s kd))) : x_Call f_X11_as [.ref 1, .int s, .int kd] K S P I J n := by
  have hS := hR.hS
  have hP := hR.hP
  have hn := mi.hn
  have hfo := mi.fo
  have h9 : m_ns Z = (Z 39 2).toInt.toNat := rfl
  refine x_intro (by decide) 2 (ls := [_, _, _, _, _]) rfl (Nat.le_of_ble_eq_true rfl) ?_
  refine v_aload_n d_X11_as_0 rfl ?_
  refine v_gr d_X11_as_1 lf_X11_53_11 rfl (hS _ _ rfl) (hP _ _ _ rfl) ?_
  refine v_cv (as := []) (rest := []) d_X11_as_4 lv_X11_129_7 (hS _ _ rfl) rfl ⟨by decide, by decide⟩ rfl (Nat.le_of_ble_eq_true rfl) (by decide) (by decide) ?_
  refine t_X7_begin hS hP ?_
  have hR0 := hR.fa_ (f := nI 0) hn.2
  have mi0 := mi.f0 (f := nI 0)
  refine v_aload_n d_X11_as_7 rfl ?_
  refine v_gr d_X11_as_8 lf_X11_21_11 rfl (hS _ _ rfl) (hP _ _ _ rfl) ?_
  refine v_iload_n d_X11_as_11 rfl ?_
  refine v_cv (as := [_]) (rest := []) d_X11_as_12 lv_X11_78_8 (hS _ _ rfl) rfl ⟨by decide, by decide⟩ rfl (Nat.le_of_ble_eq_true rfl) (by decide) (by decide) ?_
  refine t_X8_wall hR0 mi0 (fun q => ?_) (fun k e hk hk10 => ?_)
  · refine v_astore_nN (ls' := [_, _, _, _, _]) d_X11_as_15 (by decide) rfl ?_
    refine v_aload_nN d_X11_as_16 rfl ?_
    refine v_ifnonnullN d_X11_as_17 ?_
    refine v_iconst (v := (-1)) d_X11_as_20 x_ic_m1 ?_
    refine v_ret (v := some (.int _)) d_X11_as_21 rfl ⟨rfl, _, rfl, rfl⟩ (by decide) (by decide) ?_
    have ec0 : ¬ g_sf Z s := q
    simp only [q_as, z_as, x_if_t ec0] at hK
    exact hK _ _ _ _ _ ⟨fa, bd, (hR.fa_ (f := nI 0) hn.2)⟩ (x_ex.rf.ui rfl) (by omega)
  · subst e
    have hk : k < m_ns Z := hk
    have hw := hR.w hk
    have y_k := x_kn (show k < 2147483648 by omega)
    refine v_astore_n (ls' := [_, _, _, _, _]) d_X11_as_15 (by decide) rfl ?_
    refine v_aload_n d_X11_as_16 rfl ?_
    refine v_ifnonnull d_X11_as_17 ?_
    refine v_iload_n d_X11_as_22 rfl ?_
    refine v_iconst (v := nI 0) d_X11_as_23 x_ic_0 ?_
    refine v_iconst (v := nI 2) d_X11_as_24 x_ic_2 ?_
    refine v_cs (as := [_, _, _]) (rest := []) d_X11_as_25 ls_X11_57 rfl ⟨by decide, by decide⟩ rfl (Nat.le_of_ble_eq_true rfl) (by decide) (by decide) ?_
    refine t_X11_within (x_ti (k := 0) (by decide)) (x_ti (k := 2) (by decide)) (fun q3 => ?_) (fun q3 => ?_)
    · refine w_if_ne d_X11_as_28 (fun _ => ?_) (fun h28 => absurd h28 (by decide))
      have hkd := mi.kd k hk
      have hs := hw.sw
      unfold c_kc at hs
      split at hs
      · refine v_iload_n d_X11_as_34 rfl ?_
        refine w_if_eq d_X11_as_35 (fun a35 => ?_) (fun a35 => ?_)
        · try simp (disch := omega) only [x_ti, x_tm1] at a35
          refine v_iconst (v := nI 1) d_X11_as_62 x_ic_1 ?_
          refine v_goto d_X11_as_63 ?_
          refine v_istore (ls' := [_, _, _, _, _]) d_X11_as_67 (by decide) rfl ?_
          refine v_iload d_X11_as_69 rfl ?_
          refine w_if_eq d_X11_as_71 (fun h71 => absurd h71 (by decide)) (fun _ => ?_)
          refine v_iconst (v := nI 1) d_X11_as_74 x_ic_1 ?_
          refine v_goto d_X11_as_75 ?_
          refine v_ret (v := some (.int _)) d_X11_as_86 rfl ⟨rfl, _, rfl, rfl⟩ (by decide) (by decide) ?_
          have ec0 : ¬ (¬ g_sf Z (nI k)) := fun z => z (by unfold g_sf; rw [x_ti (by omega)]; omega)
          have ec1 : ¬ (¬ (0 ≤ kd.toInt ∧ kd.toInt ≤ 2)) := fun z => z q3
          have ec2 : kd.toInt ≤ (Z 40 k).toInt := by omega
          simp only [q_as, z_as, x_if_f ec0, x_if_f ec1, x_if_t ec2, y_k] at hK
          exact hK _ _ _ _ _ ⟨fa, bd, (hR.fa_ (f := nI 0) hn.2)⟩ (x_ex.rf.ui rfl) (by omega)
        · try simp (disch := omega) only [x_ti, x_tm1] at a35
          refine v_iload_n d_X11_as_38 rfl ?_
          refine v_iconst (v := nI 1) d_X11_as_39 x_ic_1 ?_
          refine w_icmp_ne d_X11_as_40 (fun a40 => ?_) (fun a40 => ?_)
          · try simp (disch := omega) only [x_ti, x_tm1] at a40
            refine v_iload_n d_X11_as_50 rfl ?_
            refine v_iconst (v := nI 2) d_X11_as_51 x_ic_2 ?_
            refine w_icmp_ne d_X11_as_52 (fun a52 => ?_) (fun a52 => ?_)
            · try simp (disch := omega) only [x_ti, x_tm1] at a52
              refine v_iconst (v := nI 0) d_X11_as_66 x_ic_0 ?_
              refine v_istore (ls' := [_, _, _, _, _]) d_X11_as_67 (by decide) rfl ?_
              refine v_iload d_X11_as_69 rfl ?_
              refine w_if_eq d_X11_as_71 (fun _ => ?_) (fun h71 => absurd h71 (by decide))
              refine v_aload_n d_X11_as_78 rfl ?_
              refine v_gr d_X11_as_79 lf_X11_53_11 rfl (hS _ _ rfl) (hP _ _ _ rfl) ?_
              refine v_iconst (v := nI 2) d_X11_as_82 x_ic_2 ?_
              refine v_cv (as := [_]) (rest := []) d_X11_as_83 lv_X11_148_7 (hS _ _ rfl) rfl ⟨by decide, by decide⟩ rfl (Nat.le_of_ble_eq_true rfl) (by decide) (by decide) ?_
              refine t_X7_failBy hS hP ?_
              refine v_ret (v := some (.int _)) d_X11_as_86 rfl ⟨rfl, _, rfl, rfl⟩ (by decide) (by decide) ?_
              have ec0 : ¬ (¬ g_sf Z (nI k)) := fun z => z (by unfold g_sf; rw [x_ti (by omega)]; omega)
              have ec1 : ¬ (¬ (0 ≤ kd.toInt ∧ kd.toInt ≤ 2)) := fun z => z q3
              have ec2 : ¬ (kd.toInt ≤ (Z 40 k).toInt) := by omega
              simp only [q_as, z_as, x_if_f ec0, x_if_f ec1, x_if_f ec2, y_k] at hK
              exact hK _ _ _ _ _ ⟨fa, bd, (hR.fa_ (f := nI 0) hn.2).fa_ hn.2⟩ ((x_ex.rf.ui rfl).ui rfl) (by omega)
            · try simp (disch := omega) only [x_ti, x_tm1] at a52
              refine v_aload_n d_X11_as_55 rfl ?_
              refine v_isNo d_X11_as_56 hs rfl ll_X11_312 (Or.inl ⟨rfl, Or.inr rfl⟩) ?_
              refine w_if_eq d_X11_as_59 (fun _ => ?_) (fun h59 => absurd h59 (by decide))
              refine v_iconst (v := nI 0) d_X11_as_66 x_ic_0 ?_
              refine v_istore (ls' := [_, _, _, _, _]) d_X11_as_67 (by decide) rfl ?_
              refine v_iload d_X11_as_69 rfl ?_
              refine w_if_eq d_X11_as_71 (fun _ => ?_) (fun h71 => absurd h71 (by decide))
              refine v_aload_n d_X11_as_78 rfl ?_
              refine v_gr d_X11_as_79 lf_X11_53_11 rfl (hS _ _ rfl) (hP _ _ _ rfl) ?_
              refine v_iconst (v := nI 2) d_X11_as_82 x_ic_2 ?_
              refine v_cv (as := [_]) (rest := []) d_X11_as_83 lv_X11_148_7 (hS _ _ rfl) rfl ⟨by decide, by decide⟩ rfl (Nat.le_of_ble_eq_true rfl) (by decide) (by decide) ?_
              refine t_X7_failBy hS hP ?_
              refine v_ret (v := some (.int _)) d_X11_as_86 rfl ⟨rfl, _, rfl, rfl⟩ (by decide) (by decide) ?_
              have ec0 : ¬ (¬ g_sf Z (nI k)) := fun z => z (by unfold g_sf; rw [x_ti (by omega)]; omega)
              have ec1 : ¬ (¬ (0 ≤ kd.toInt ∧ kd.toInt ≤ 2)) := fun z => z q3
              have ec2 : ¬ (kd.toInt ≤ (Z 40 k).toInt) := by omega
              simp only [q_as, z_as, x_if_f ec0, x_if_f ec1, x_if_f ec2, y_k] at hK
              exact hK _ _ _ _ _ ⟨fa, bd, (hR.fa_ (f := nI 0) hn.2).fa_ hn.2⟩ ((x_ex.rf.ui rfl).ui rfl) (by omega)
          · try simp (disch := omega) only [x_ti, x_tm1] at a40
            refine v_aload_n d_X11_as_43 rfl ?_
            refine v_isNo d_X11_as_44 hs rfl ll_X11_310 (Or.inl ⟨rfl, Or.inl rfl⟩) ?_
            refine w_if_ne d_X11_as_47 (fun h47 => absurd h47 (by decide)) (fun _ => ?_)
            refine v_iload_n d_X11_as_50 rfl ?_
            refine v_iconst (v := nI 2) d_X11_as_51 x_ic_2 ?_
            refine w_icmp_ne d_X11_as_52 (fun a52 => ?_) (fun a52 => ?_)
            · try simp (disch := omega) only [x_ti, x_tm1] at a52
              refine v_iconst (v := nI 0) d_X11_as_66 x_ic_0 ?_
              refine v_istore (ls' := [_, _, _, _, _]) d_X11_as_67 (by decide) rfl ?_
              refine v_iload d_X11_as_69 rfl ?_
              refine w_if_eq d_X11_as_71 (fun _ => ?_) (fun h71 => absurd h71 (by decide))
              refine v_aload_n d_X11_as_78 rfl ?_
              refine v_gr d_X11_as_79 lf_X11_53_11 rfl (hS _ _ rfl) (hP _ _ _ rfl) ?_
              refine v_iconst (v := nI 2) d_X11_as_82 x_ic_2 ?_
              refine v_cv (as := [_]) (rest := []) d_X11_as_83 lv_X11_148_7 (hS _ _ rfl) rfl ⟨by decide, by decide⟩ rfl (Nat.le_of_ble_eq_true rfl) (by decide) (by decide) ?_
              refine t_X7_failBy hS hP ?_
              refine v_ret (v := some (.int _)) d_X11_as_86 rfl ⟨rfl, _, rfl, rfl⟩ (by decide) (by decide) ?_
              have ec0 : ¬ (¬ g_sf Z (nI k)) := fun z => z (by unfold g_sf; rw [x_ti (by omega)]; omega)
              have ec1 : ¬ (¬ (0 ≤ kd.toInt ∧ kd.toInt ≤ 2)) := fun z => z q3
              have ec2 : ¬ (kd.toInt ≤ (Z 40 k).toInt) := by omega
              simp only [q_as, z_as, x_if_f ec0, x_if_f ec1, x_if_f ec2, y_k] at hK
              exact hK _ _ _ _ _ ⟨fa, bd, (hR.fa_ (f := nI 0) hn.2).fa_ hn.2⟩ ((x_ex.rf.ui rfl).ui rfl) (by omega)
            · try simp (disch := omega) only [x_ti, x_tm1] at a52
              refine v_aload_n d_X11_as_55 rfl ?_
              refine v_isNo d_X11_as_56 hs rfl ll_X11_312 (Or.inl ⟨rfl, Or.inr rfl⟩) ?_
              refine w_if_eq d_X11_as_59 (fun _ => ?_) (fun h59 => absurd h59 (by decide))
              refine v_iconst (v := nI 0) d_X11_as_66 x_ic_0 ?_
              refine v_istore (ls' := [_, _, _, _, _]) d_X11_as_67 (by decide) rfl ?_
              refine v_iload d_X11_as_69 rfl ?_
              refine w_if_eq d_X11_as_71 (fun _ => ?_) (fun h71 => absurd h71 (by decide))
              refine v_aload_n d_X11_as_78 rfl ?_
              refine v_gr d_X11_as_79 lf_X11_53_11 rfl (hS _ _ rfl) (hP _ _ _ rfl) ?_
              refine v_iconst (v := nI 2) d_X11_as_82 x_ic_2 ?_
              refine v_cv (as := [_]) (rest := []) d_X11_as_83 lv_X11_148_7 (hS _ _ rfl) rfl ⟨by decide, by decide⟩ rfl (Nat.le_of_ble_eq_true rfl) (by decide) (by decide) ?_
              refine t_X7_failBy hS hP ?_
              refine v_ret (v := some (.int _)) d_X11_as_86 rfl ⟨rfl, _, rfl, rfl⟩ (by decide) (by decide) ?_
              have ec0 : ¬ (¬ g_sf Z (nI k)) := fun z => z (by unfold g_sf; rw [x_ti (by omega)]; omega)
              have ec1 : ¬ (¬ (0 ≤ kd.toInt ∧ kd.toInt ≤ 2)) := fun z => z q3
              have ec2 : ¬ (kd.toInt ≤ (Z 40 k).toInt) := by omega
              simp only [q_as, z_as, x_if_f ec0, x_if_f ec1, x_if_f ec2, y_k] at hK
              exact hK _ _ _ _ _ ⟨fa, bd, (hR.fa_ (f := nI 0) hn.2).fa_ hn.2⟩ ((x_ex.rf.ui rfl).ui rfl) (by omega)
      · split at hs
        · refine v_iload_n d_X11_as_34 rfl ?_
          refine w_if_eq d_X11_as_35 (fun a35 => ?_) (fun a35 => ?_)
          · try simp (disch := omega) only [x_ti, x_tm1] at a35
            refine v_iconst (v := nI 1) d_X11_as_62 x_ic_1 ?_
            refine v_goto d_X11_as_63 ?_
            refine v_istore (ls' := [_, _, _, _, _]) d_X11_as_67 (by decide) rfl ?_
            refine v_iload d_X11_as_69 rfl ?_
            refine w_if_eq d_X11_as_71 (fun h71 => absurd h71 (by decide)) (fun _ => ?_)
            refine v_iconst (v := nI 1) d_X11_as_74 x_ic_1 ?_
            refine v_goto d_X11_as_75 ?_
            refine v_ret (v := some (.int _)) d_X11_as_86 rfl ⟨rfl, _, rfl, rfl⟩ (by decide) (by decide) ?_
            have ec0 : ¬ (¬ g_sf Z (nI k)) := fun z => z (by unfold g_sf; rw [x_ti (by omega)]; omega)
            have ec1 : ¬ (¬ (0 ≤ kd.toInt ∧ kd.toInt ≤ 2)) := fun z => z q3
            have ec2 : kd.toInt ≤ (Z 40 k).toInt := by omega
            simp only [q_as, z_as, x_if_f ec0, x_if_f ec1, x_if_t ec2, y_k] at hK
            exact hK _ _ _ _ _ ⟨fa, bd, (hR.fa_ (f := nI 0) hn.2)⟩ (x_ex.rf.ui rfl) (by omega)
          · try simp (disch := omega) only [x_ti, x_tm1] at a35
            refine v_iload_n d_X11_as_38 rfl ?_
            refine v_iconst (v := nI 1) d_X11_as_39 x_ic_1 ?_
            refine w_icmp_ne d_X11_as_40 (fun a40 => ?_) (fun a40 => ?_)
            · try simp (disch := omega) only [x_ti, x_tm1] at a40
              refine v_iload_n d_X11_as_50 rfl ?_
              refine v_iconst (v := nI 2) d_X11_as_51 x_ic_2 ?_
              refine w_icmp_ne d_X11_as_52 (fun a52 => ?_) (fun a52 => ?_)
              · try simp (disch := omega) only [x_ti, x_tm1] at a52
                refine v_iconst (v := nI 0) d_X11_as_66 x_ic_0 ?_
                refine v_istore (ls' := [_, _, _, _, _]) d_X11_as_67 (by decide) rfl ?_
                refine v_iload d_X11_as_69 rfl ?_
                refine w_if_eq d_X11_as_71 (fun _ => ?_) (fun h71 => absurd h71 (by decide))
                refine v_aload_n d_X11_as_78 rfl ?_
                refine v_gr d_X11_as_79 lf_X11_53_11 rfl (hS _ _ rfl) (hP _ _ _ rfl) ?_
                refine v_iconst (v := nI 2) d_X11_as_82 x_ic_2 ?_
                refine v_cv (as := [_]) (rest := []) d_X11_as_83 lv_X11_148_7 (hS _ _ rfl) rfl ⟨by decide, by decide⟩ rfl (Nat.le_of_ble_eq_true rfl) (by decide) (by decide) ?_
                refine t_X7_failBy hS hP ?_
                refine v_ret (v := some (.int _)) d_X11_as_86 rfl ⟨rfl, _, rfl, rfl⟩ (by decide) (by decide) ?_
                have ec0 : ¬ (¬ g_sf Z (nI k)) := fun z => z (by unfold g_sf; rw [x_ti (by omega)]; omega)
                have ec1 : ¬ (¬ (0 ≤ kd.toInt ∧ kd.toInt ≤ 2)) := fun z => z q3
                have ec2 : ¬ (kd.toInt ≤ (Z 40 k).toInt) := by omega
                simp only [q_as, z_as, x_if_f ec0, x_if_f ec1, x_if_f ec2, y_k] at hK
                exact hK _ _ _ _ _ ⟨fa, bd, (hR.fa_ (f := nI 0) hn.2).fa_ hn.2⟩ ((x_ex.rf.ui rfl).ui rfl) (by omega)
              · try simp (disch := omega) only [x_ti, x_tm1] at a52
                refine v_aload_n d_X11_as_55 rfl ?_
                refine v_isNo d_X11_as_56 hs rfl ll_X11_312 (Or.inr ⟨rfl, rfl⟩) ?_
                refine w_if_eq d_X11_as_59 (fun _ => ?_) (fun h59 => absurd h59 (by decide))
                refine v_iconst (v := nI 0) d_X11_as_66 x_ic_0 ?_
                refine v_istore (ls' := [_, _, _, _, _]) d_X11_as_67 (by decide) rfl ?_
                refine v_iload d_X11_as_69 rfl ?_
                refine w_if_eq d_X11_as_71 (fun _ => ?_) (fun h71 => absurd h71 (by decide))
                refine v_aload_n d_X11_as_78 rfl ?_
                refine v_gr d_X11_as_79 lf_X11_53_11 rfl (hS _ _ rfl) (hP _ _ _ rfl) ?_
                refine v_iconst (v := nI 2) d_X11_as_82 x_ic_2 ?_
                refine v_cv (as := [_]) (rest := []) d_X11_as_83 lv_X11_148_7 (hS _ _ rfl) rfl ⟨by decide, by decide⟩ rfl (Nat.le_of_ble_eq_true rfl) (by decide) (by decide) ?_
                refine t_X7_failBy hS hP ?_
                refine v_ret (v := some (.int _)) d_X11_as_86 rfl ⟨rfl, _, rfl, rfl⟩ (by decide) (by decide) ?_
                have ec0 : ¬ (¬ g_sf Z (nI k)) := fun z => z (by unfold g_sf; rw [x_ti (by omega)]; omega)
                have ec1 : ¬ (¬ (0 ≤ kd.toInt ∧ kd.toInt ≤ 2)) := fun z => z q3
                have ec2 : ¬ (kd.toInt ≤ (Z 40 k).toInt) := by omega
                simp only [q_as, z_as, x_if_f ec0, x_if_f ec1, x_if_f ec2, y_k] at hK
                exact hK _ _ _ _ _ ⟨fa, bd, (hR.fa_ (f := nI 0) hn.2).fa_ hn.2⟩ ((x_ex.rf.ui rfl).ui rfl) (by omega)
            · try simp (disch := omega) only [x_ti, x_tm1] at a40
              refine v_aload_n d_X11_as_43 rfl ?_
              refine v_isS d_X11_as_44 hs rfl ll_X11_310 ?_
              refine w_if_ne d_X11_as_47 (fun _ => ?_) (fun h47 => absurd h47 (by decide))
              refine v_iconst (v := nI 1) d_X11_as_62 x_ic_1 ?_
              refine v_goto d_X11_as_63 ?_
              refine v_istore (ls' := [_, _, _, _, _]) d_X11_as_67 (by decide) rfl ?_
              refine v_iload d_X11_as_69 rfl ?_
              refine w_if_eq d_X11_as_71 (fun h71 => absurd h71 (by decide)) (fun _ => ?_)
              refine v_iconst (v := nI 1) d_X11_as_74 x_ic_1 ?_
              refine v_goto d_X11_as_75 ?_
              refine v_ret (v := some (.int _)) d_X11_as_86 rfl ⟨rfl, _, rfl, rfl⟩ (by decide) (by decide) ?_
              have ec0 : ¬ (¬ g_sf Z (nI k)) := fun z => z (by unfold g_sf; rw [x_ti (by omega)]; omega)
              have ec1 : ¬ (¬ (0 ≤ kd.toInt ∧ kd.toInt ≤ 2)) := fun z => z q3
              have ec2 : kd.toInt ≤ (Z 40 k).toInt := by omega
              simp only [q_as, z_as, x_if_f ec0, x_if_f ec1, x_if_t ec2, y_k] at hK
              exact hK _ _ _ _ _ ⟨fa, bd, (hR.fa_ (f := nI 0) hn.2)⟩ (x_ex.rf.ui rfl) (by omega)
        · refine v_iload_n d_X11_as_34 rfl ?_
          refine w_if_eq d_X11_as_35 (fun a35 => ?_) (fun a35 => ?_)
          · try simp (disch := omega) only [x_ti, x_tm1] at a35
            refine v_iconst (v := nI 1) d_X11_as_62 x_ic_1 ?_
            refine v_goto d_X11_as_63 ?_
            refine v_istore (ls' := [_, _, _, _, _]) d_X11_as_67 (by decide) rfl ?_
            refine v_iload d_X11_as_69 rfl ?_
            refine w_if_eq d_X11_as_71 (fun h71 => absurd h71 (by decide)) (fun _ => ?_)
            refine v_iconst (v := nI 1) d_X11_as_74 x_ic_1 ?_
            refine v_goto d_X11_as_75 ?_
            refine v_ret (v := some (.int _)) d_X11_as_86 rfl ⟨rfl, _, rfl, rfl⟩ (by decide) (by decide) ?_
            have ec0 : ¬ (¬ g_sf Z (nI k)) := fun z => z (by unfold g_sf; rw [x_ti (by omega)]; omega)
            have ec1 : ¬ (¬ (0 ≤ kd.toInt ∧ kd.toInt ≤ 2)) := fun z => z q3
            have ec2 : kd.toInt ≤ (Z 40 k).toInt := by omega
            simp only [q_as, z_as, x_if_f ec0, x_if_f ec1, x_if_t ec2, y_k] at hK
            exact hK _ _ _ _ _ ⟨fa, bd, (hR.fa_ (f := nI 0) hn.2)⟩ (x_ex.rf.ui rfl) (by omega)
          · try simp (disch := omega) only [x_ti, x_tm1] at a35
            refine v_iload_n d_X11_as_38 rfl ?_
            refine v_iconst (v := nI 1) d_X11_as_39 x_ic_1 ?_
            refine w_icmp_ne d_X11_as_40 (fun a40 => ?_) (fun a40 => ?_)
            · try simp (disch := omega) only [x_ti, x_tm1] at a40
              refine v_iload_n d_X11_as_50 rfl ?_
              refine v_iconst (v := nI 2) d_X11_as_51 x_ic_2 ?_
              refine w_icmp_ne d_X11_as_52 (fun a52 => ?_) (fun a52 => ?_)
              · try simp (disch := omega) only [x_ti, x_tm1] at a52
                refine v_iconst (v := nI 0) d_X11_as_66 x_ic_0 ?_
                refine v_istore (ls' := [_, _, _, _, _]) d_X11_as_67 (by decide) rfl ?_
                refine v_iload d_X11_as_69 rfl ?_
                refine w_if_eq d_X11_as_71 (fun _ => ?_) (fun h71 => absurd h71 (by decide))
                refine v_aload_n d_X11_as_78 rfl ?_
                refine v_gr d_X11_as_79 lf_X11_53_11 rfl (hS _ _ rfl) (hP _ _ _ rfl) ?_
                refine v_iconst (v := nI 2) d_X11_as_82 x_ic_2 ?_
                refine v_cv (as := [_]) (rest := []) d_X11_as_83 lv_X11_148_7 (hS _ _ rfl) rfl ⟨by decide, by decide⟩ rfl (Nat.le_of_ble_eq_true rfl) (by decide) (by decide) ?_
                refine t_X7_failBy hS hP ?_
                refine v_ret (v := some (.int _)) d_X11_as_86 rfl ⟨rfl, _, rfl, rfl⟩ (by decide) (by decide) ?_
                have ec0 : ¬ (¬ g_sf Z (nI k)) := fun z => z (by unfold g_sf; rw [x_ti (by omega)]; omega)
                have ec1 : ¬ (¬ (0 ≤ kd.toInt ∧ kd.toInt ≤ 2)) := fun z => z q3
                have ec2 : ¬ (kd.toInt ≤ (Z 40 k).toInt) := by omega
                simp only [q_as, z_as, x_if_f ec0, x_if_f ec1, x_if_f ec2, y_k] at hK
                exact hK _ _ _ _ _ ⟨fa, bd, (hR.fa_ (f := nI 0) hn.2).fa_ hn.2⟩ ((x_ex.rf.ui rfl).ui rfl) (by omega)
              · try simp (disch := omega) only [x_ti, x_tm1] at a52
                refine v_aload_n d_X11_as_55 rfl ?_
                refine v_isS d_X11_as_56 hs rfl ll_X11_312 ?_
                refine w_if_eq d_X11_as_59 (fun h59 => absurd h59 (by decide)) (fun _ => ?_)
                refine v_iconst (v := nI 1) d_X11_as_62 x_ic_1 ?_
                refine v_goto d_X11_as_63 ?_
                refine v_istore (ls' := [_, _, _, _, _]) d_X11_as_67 (by decide) rfl ?_
                refine v_iload d_X11_as_69 rfl ?_
                refine w_if_eq d_X11_as_71 (fun h71 => absurd h71 (by decide)) (fun _ => ?_)
                refine v_iconst (v := nI 1) d_X11_as_74 x_ic_1 ?_
                refine v_goto d_X11_as_75 ?_
                refine v_ret (v := some (.int _)) d_X11_as_86 rfl ⟨rfl, _, rfl, rfl⟩ (by decide) (by decide) ?_
                have ec0 : ¬ (¬ g_sf Z (nI k)) := fun z => z (by unfold g_sf; rw [x_ti (by omega)]; omega)
                have ec1 : ¬ (¬ (0 ≤ kd.toInt ∧ kd.toInt ≤ 2)) := fun z => z q3
                have ec2 : kd.toInt ≤ (Z 40 k).toInt := by omega
                simp only [q_as, z_as, x_if_f ec0, x_if_f ec1, x_if_t ec2, y_k] at hK
                exact hK _ _ _ _ _ ⟨fa, bd, (hR.fa_ (f := nI 0) hn.2)⟩ (x_ex.rf.ui rfl) (by omega)
            · try simp (disch := omega) only [x_ti, x_tm1] at a40
              refine v_aload_n d_X11_as_43 rfl ?_
              refine v_isY d_X11_as_44 hs rfl ll_X11_310 (List.mem_of_getElem? (i := 1412) (by decide +kernel)) ?_
              refine w_if_ne d_X11_as_47 (fun _ => ?_) (fun h47 => absurd h47 (by decide))
              refine v_iconst (v := nI 1) d_X11_as_62 x_ic_1 ?_
              refine v_goto d_X11_as_63 ?_
              refine v_istore (ls' := [_, _, _, _, _]) d_X11_as_67 (by decide) rfl ?_
              refine v_iload d_X11_as_69 rfl ?_
              refine w_if_eq d_X11_as_71 (fun h71 => absurd h71 (by decide)) (fun _ => ?_)
              refine v_iconst (v := nI 1) d_X11_as_74 x_ic_1 ?_
              refine v_goto d_X11_as_75 ?_
              refine v_ret (v := some (.int _)) d_X11_as_86 rfl ⟨rfl, _, rfl, rfl⟩ (by decide) (by decide) ?_
              have ec0 : ¬ (¬ g_sf Z (nI k)) := fun z => z (by unfold g_sf; rw [x_ti (by omega)]; omega)
              have ec1 : ¬ (¬ (0 ≤ kd.toInt ∧ kd.toInt ≤ 2)) := fun z => z q3
              have ec2 : kd.toInt ≤ (Z 40 k).toInt := by omega
              simp only [q_as, z_as, x_if_f ec0, x_if_f ec1, x_if_t ec2, y_k] at hK
              exact hK _ _ _ _ _ ⟨fa, bd, (hR.fa_ (f := nI 0) hn.2)⟩ (x_ex.rf.ui rfl) (by omega)
    · refine w_if_ne d_X11_as_28 (fun h28 => absurd h28 (by decide)) (fun _ => ?_)
      refine v_bipush (v := (-2)) d_X11_as_31 x_bp_m2 ?_
      refine v_ret (v := some (.int _)) d_X11_as_33 rfl ⟨rfl, _, rfl, rfl⟩ (by decide) (by decide) ?_
      have ec0 : ¬ (¬ g_sf Z (nI k)) := fun z => z (by unfold g_sf; rw [x_ti (by omega)]; omega)
      have ec1 : ¬ (0 ≤ kd.toInt ∧ kd.toInt ≤ 2) := q3
      simp only [q_as, z_as, x_if_f ec0, x_if_t ec1] at hK
      exact hK _ _ _ _ _ ⟨fa, bd, (hR.fa_ (f := nI 0) hn.2)⟩ (x_ex.rf.ui rfl) (by omega)

