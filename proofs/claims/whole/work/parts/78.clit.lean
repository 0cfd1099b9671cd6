set_option maxRecDepth 100000 in
set_option maxHeartbeats 4000000 in
theorem l_X4_tw3 {K : x_K} {S : x_S} {P : x_P} {I : x_I} {J : x_J} {n : Nat} {fa : Nat → Nat} {bd : Nat} {Z : x_I} (hR : c_R fa bd Z S P I J n) (mi : m_I Z) (t sh i N : Nat) (ht : t < 6) (hsh : sh < 4) (hiN : i + 2 * N ≤ 64) (hall : ∀ j, j < N → g_pair Z sh i j) (hno : ¬ ∃ j, j < N ∧ ¬ g_pair Z sh i j) (hK : ∀ J' : x_J, c_R fa bd (z_wan1 Z t sh i N) S P I J' n → (∀ b j, b ≠ 22 → J' b j = J b j) → K (some (.int (q_wan1 Z t sh i N))) S P I J' n) : ∀ d k : Nat, k + d = N → ∀ J2 : x_J, c_R fa bd (z_wr Z t sh i k) S P I J2 n → (∀ b j, b ≠ 22 → J2 b j = J b j) → x_V f_X4_takeWanted K 78 [some (.ref 20), some (.int (nI t)), some (.ref 31), some (.int (nI sh)), some (.int (nI i)), some (.int (nI N)), some (.int (nI (t * 10))), some (.int (nI k)), none] [] S P I J2 n 0 0 := by
  have hS := hR.hS
  have hP := hR.hP
  have hn := mi.hn
  intro d
  induction d with
  | zero =>
    intro k hd J2 hR2 h22
    refine v_iload d_X4_takeWanted_78 rfl ?_
    refine v_iload d_X4_takeWanted_80 rfl ?_
    refine w_icmp_ge d_X4_takeWanted_82 (fun h82 => ?_) (fun h82 => False.elim (by (try simp (disch := omega) only [x_ti, x_tm1] at h82); omega))
    refine v_aload_n d_X4_takeWanted_134 rfl ?_
    refine v_iload_n d_X4_takeWanted_135 rfl ?_
    refine v_cv (as := [_]) (rest := []) d_X4_takeWanted_136 lv_X4_50_4 (hS _ _ rfl) rfl ⟨by decide, by decide⟩ rfl (Nat.le_of_ble_eq_true rfl) (by decide) (by decide) ?_
    refine t_X4_countWantedAt hR2 t rfl ht ?_
    refine v_ret (v := some (.int _)) d_X4_takeWanted_139 rfl ⟨rfl, _, rfl, rfl⟩ (by decide) (by decide) ?_
    have e1 : k = N := by omega
    subst e1
    rw [q_wr_ct mi ht k (fun j hj => hall j hj)]
    rw [q_wan1, z_wan1, x_if_f hno, x_if_f hno] at hK
    exact hK J2 hR2 h22
  | succ d ih =>
    intro k hd J2 hR2 h22
    have zp := hall k (by omega)
    have zm := m_to_in (t := t) mi zp
    obtain ⟨⟨zp1, zp2⟩, zp3, zp4⟩ := id zp
    obtain ⟨s0, zs0, zs1, zs2, y_s0⟩ := x_ex1 (s := Z 47 (64 * sh + i + 2 * k)) zp1
    obtain ⟨c0, zc0, zc1, zc2, y_c0⟩ := x_ex1 (s := Z 47 (64 * sh + i + 2 * k + 1)) zp3
    have zm1 := zm.1
    have zm2 := zm.2.1
    have e47 := (hR2.Sh sh hsh).2.2 (i + 2 * k) (by omega)
    rw [← Nat.add_assoc] at e47
    have e48 := (hR2.Sh sh hsh).2.2 (i + 2 * k + 1) (by omega)
    rw [show 64 * sh + (i + 2 * k + 1) = 64 * sh + i + 2 * k + 1 by omega] at e48
    refine v_iload d_X4_takeWanted_78 rfl ?_
    refine v_iload d_X4_takeWanted_80 rfl ?_
    refine w_icmp_ge d_X4_takeWanted_82 (fun h82 => False.elim (by (try simp (disch := omega) only [x_ti, x_tm1] at h82); omega)) (fun h82 => ?_)
    refine v_aload_n d_X4_takeWanted_85 rfl ?_
    refine v_iload_n d_X4_takeWanted_86 rfl ?_
    refine v_iload d_X4_takeWanted_87 rfl ?_
    refine v_iconst (v := nI 2) d_X4_takeWanted_89 x_ic_2 ?_
    refine v_iload d_X4_takeWanted_90 rfl ?_
    first | refine v_imulN d_X4_takeWanted_92 ?_ | refine v_imul d_X4_takeWanted_92 ?_
    first | refine v_iaddN d_X4_takeWanted_93 ?_ | refine v_iadd d_X4_takeWanted_93 ?_
    refine v_cv (as := [_, _]) (rest := []) d_X4_takeWanted_94 lv_X4_60_7 (hS _ _ rfl) rfl ⟨by decide, by decide⟩ rfl (Nat.le_of_ble_eq_true rfl) (by decide) (by decide) ?_
    refine t_X7_read sh (i + 2 * k) rfl hsh rfl (by omega) hS hP ?_
    rw [e47, z_wr_na Z t sh i (by decide), zs0]
    refine v_istore (ls' := [_, _, _, _, _, _, _, _, _]) d_X4_takeWanted_97 (by decide) rfl ?_
    refine v_aload_n d_X4_takeWanted_99 rfl ?_
    refine v_gr d_X4_takeWanted_100 lf_X4_15_4 rfl (hS _ _ rfl) (hP _ _ _ rfl) ?_
    refine v_iload d_X4_takeWanted_103 rfl ?_
    refine v_iload d_X4_takeWanted_105 rfl ?_
    refine v_iaddN d_X4_takeWanted_107 ?_
    refine v_dup2 d_X4_takeWanted_108 rfl rfl ?_
    refine v_lald (10 * t + s0) d_X4_takeWanted_109 (by rw [Nat.mul_comm]) (hS _ _ rfl) (⟨by omega, by omega⟩) (rfl) ?_
    refine v_lconst (v := 1) d_X4_takeWanted_110 rfl ?_
    refine v_aload_n d_X4_takeWanted_111 rfl ?_
    refine v_iload_n d_X4_takeWanted_112 rfl ?_
    refine v_iload d_X4_takeWanted_113 rfl ?_
    refine v_iconst (v := nI 2) d_X4_takeWanted_115 x_ic_2 ?_
    refine v_iload d_X4_takeWanted_116 rfl ?_
    first | refine v_imulN d_X4_takeWanted_118 ?_ | refine v_imul d_X4_takeWanted_118 ?_
    first | refine v_iaddN d_X4_takeWanted_119 ?_ | refine v_iadd d_X4_takeWanted_119 ?_
    refine v_iconst (v := nI 1) d_X4_takeWanted_120 x_ic_1 ?_
    first | refine v_iaddN d_X4_takeWanted_121 ?_ | refine v_iadd d_X4_takeWanted_121 ?_
    refine v_cv (as := [_, _]) (rest := [_, _, _, _]) d_X4_takeWanted_122 lv_X4_60_7 (hS _ _ rfl) rfl ⟨by decide, by decide⟩ rfl (Nat.le_of_ble_eq_true rfl) (by decide) (by decide) ?_
    refine t_X7_read sh (i + 2 * k + 1) rfl hsh rfl (by omega) hS hP ?_
    rw [e48, z_wr_na Z t sh i (by decide), zc0]
    refine v_lshl d_X4_takeWanted_125 ?_
    refine v_lor d_X4_takeWanted_126 ?_
    refine v_last (10 * t + s0) d_X4_takeWanted_127 (by rw [Nat.mul_comm]) (hS _ _ rfl) (⟨by omega, by omega⟩) ?_
    first | refine v_iinc (ls' := [_, _, _, _, _, _, _, _, _]) d_X4_takeWanted_128 rfl (x_inc_1 _) (by decide) rfl ?_ | refine v_iinc (ls' := [_, _, _, _, _, _, _, _, _]) d_X4_takeWanted_128 rfl rfl (by decide) rfl ?_
    refine v_goto d_X4_takeWanted_131 ?_
    refine x_V.fg1 8 (ls' := [_, _, _, _, _, _, _, _, _]) rfl ?_
    refine ih (k + 1) (by omega) _ ?_ (fun b j hb => (x_u2_na _ _ _ _ hb).trans (h22 b j hb))
    rw [z_wr, zm.2.2, y_s0, y_c0]
    exact hR2.wo_ (by rw [z_wr_na Z t sh i (by decide)]; exact hn.2) ht (by omega) (by omega)

set_option maxRecDepth 100000 in
set_option maxHeartbeats 4000000 in
theorem l_X4_tw1 {K : x_K} {S : x_S} {P : x_P} {I : x_I} {J : x_J} {n : Nat} {fa : Nat → Nat} {bd : Nat} {Z : x_I} (hR : c_R fa bd Z S P I J n) (mi : m_I Z) (t sh i N : Nat) (ht : t < 6) (hsh : sh < 4) (hiN : i + 2 * N ≤ 64) (hK : ∀ J' : x_J, c_R fa bd (z_wan1 Z t sh i N) S P I J' n → (∀ b j, b ≠ 22 → J' b j = J b j) → K (some (.int (q_wan1 Z t sh i N))) S P I J' n) : ∀ d k : Nat, k + d = N → (∀ j, j < k → g_pair Z sh i j) → x_V f_X4_takeWanted K 3 [some (.ref 20), some (.int (nI t)), some (.ref 31), some (.int (nI sh)), some (.int (nI i)), some (.int (nI N)), some (.int (nI k)), none, none] [] S P I J n 0 0 := by
  have hS := hR.hS
  have hP := hR.hP
  have hn := mi.hn
  have hfo := mi.fo
  have h9 : m_ns Z = (Z 39 2).toInt.toNat := rfl
  intro d
  induction d with
  | zero =>
    intro k hd hj
    refine v_iload d_X4_takeWanted_3 rfl ?_
    refine v_iload d_X4_takeWanted_5 rfl ?_
    refine w_icmp_ge d_X4_takeWanted_7 (fun h7 => ?_) (fun h7 => False.elim (by (try simp (disch := omega) only [x_ti, x_tm1] at h7); omega))
    refine v_iload_n d_X4_takeWanted_54 rfl ?_
    refine v_bipush (v := nI 10) d_X4_takeWanted_55 x_bp_10 ?_
    first | refine v_imulN d_X4_takeWanted_57 ?_ | refine v_imul d_X4_takeWanted_57 ?_
    refine v_istore (ls' := [_, _, _, _, _, _, _, _, _]) d_X4_takeWanted_58 (by decide) rfl ?_
    refine v_aload_n d_X4_takeWanted_60 rfl ?_
    refine v_gr d_X4_takeWanted_61 lf_X4_15_4 rfl (hS _ _ rfl) (hP _ _ _ rfl) ?_
    refine v_iload d_X4_takeWanted_64 rfl ?_
    refine v_iload d_X4_takeWanted_66 rfl ?_
    refine v_bipush (v := nI 10) d_X4_takeWanted_68 x_bp_10 ?_
    refine v_iaddN d_X4_takeWanted_70 ?_
    refine v_lconst (v := 0) d_X4_takeWanted_71 rfl ?_
    refine v_cs (as := [_, _, _, _]) (rest := []) d_X4_takeWanted_72 ls_X4_70 rfl ⟨by decide, by decide⟩ rfl (Nat.le_of_ble_eq_true rfl) (by decide) (by decide) ?_
    refine t_fillR 60 (t * 10) (t * 10 + 10) rfl rfl (hS _ _ rfl) (by omega) (by omega) (by decide) ?_
    rw [show t * 10 + 10 - t * 10 = 10 by omega, Nat.mul_comm t 10]
    refine v_iconst (v := nI 0) d_X4_takeWanted_75 x_ic_0 ?_
    refine v_istore (ls' := [_, _, _, _, _, _, _, _, _]) d_X4_takeWanted_76 (by decide) rfl ?_
    rw [Nat.mul_comm 10 t]
    refine l_X4_tw3 hR mi t sh i N ht hsh hiN (fun j hj2 => hj j (by omega)) (fun ⟨j, j1, j2⟩ => j2 (hj j (by omega))) hK N 0 (by omega) _ ?_ (fun b j hb => ?_)
    · show c_R fa bd (x_fi Z 54 (640 * t) 640 0) S P I _ n
      rw [Nat.mul_comm t 10]
      exact hR.w0_ hn.2 ht
    · exact x_fi_na _ _ _ _ _ hb
  | succ d ih =>
    intro k hd hj
    have e47 := (hR.Sh sh hsh).2.2 (i + 2 * k) (by omega)
    rw [← Nat.add_assoc] at e47
    have e48 := (hR.Sh sh hsh).2.2 (i + 2 * k + 1) (by omega)
    rw [show 64 * sh + (i + 2 * k + 1) = 64 * sh + i + 2 * k + 1 by omega] at e48
    refine v_iload d_X4_takeWanted_3 rfl ?_
    refine v_iload d_X4_takeWanted_5 rfl ?_
    refine w_icmp_ge d_X4_takeWanted_7 (fun h7 => False.elim (by (try simp (disch := omega) only [x_ti, x_tm1] at h7); omega)) (fun h7 => ?_)
    refine v_aload_n d_X4_takeWanted_10 rfl ?_
    refine v_gr d_X4_takeWanted_11 lf_X4_33_4 rfl (hS _ _ rfl) (hP _ _ _ rfl) ?_
    refine v_aload_n d_X4_takeWanted_14 rfl ?_
    refine v_iload_n d_X4_takeWanted_15 rfl ?_
    refine v_iload d_X4_takeWanted_16 rfl ?_
    refine v_iconst (v := nI 2) d_X4_takeWanted_18 x_ic_2 ?_
    refine v_iload d_X4_takeWanted_19 rfl ?_
    first | refine v_imulN d_X4_takeWanted_21 ?_ | refine v_imul d_X4_takeWanted_21 ?_
    first | refine v_iaddN d_X4_takeWanted_22 ?_ | refine v_iadd d_X4_takeWanted_22 ?_
    refine v_cv (as := [_, _]) (rest := [_]) d_X4_takeWanted_23 lv_X4_60_7 (hS _ _ rfl) rfl ⟨by decide, by decide⟩ rfl (Nat.le_of_ble_eq_true rfl) (by decide) (by decide) ?_
    refine t_X7_read sh (i + 2 * k) rfl hsh rfl (by omega) hS hP ?_
    rw [e47]
    refine v_aload_n d_X4_takeWanted_26 rfl ?_
    refine v_iload_n d_X4_takeWanted_27 rfl ?_
    refine v_iload d_X4_takeWanted_28 rfl ?_
    refine v_iconst (v := nI 2) d_X4_takeWanted_30 x_ic_2 ?_
    refine v_iload d_X4_takeWanted_31 rfl ?_
    first | refine v_imulN d_X4_takeWanted_33 ?_ | refine v_imul d_X4_takeWanted_33 ?_
    first | refine v_iaddN d_X4_takeWanted_34 ?_ | refine v_iadd d_X4_takeWanted_34 ?_
    refine v_iconst (v := nI 1) d_X4_takeWanted_35 x_ic_1 ?_
    first | refine v_iaddN d_X4_takeWanted_36 ?_ | refine v_iadd d_X4_takeWanted_36 ?_
    refine v_cv (as := [_, _]) (rest := [_, _]) d_X4_takeWanted_37 lv_X4_60_7 (hS _ _ rfl) rfl ⟨by decide, by decide⟩ rfl (Nat.le_of_ble_eq_true rfl) (by decide) (by decide) ?_
    refine t_X7_read sh (i + 2 * k + 1) rfl hsh rfl (by omega) hS hP ?_
    rw [e48]
    refine v_cv (as := [_, _]) (rest := []) d_X4_takeWanted_40 lv_X4_66_8 (hS _ _ rfl) rfl ⟨by decide, by decide⟩ rfl (Nat.le_of_ble_eq_true rfl) (by decide) (by decide) ?_
    refine t_X8_hasCell hR mi (fun zq => ?_) (fun zq => ?_)
    · refine w_if_ne d_X4_takeWanted_43 (fun _ => ?_) (fun h43 => absurd h43 (by decide))
      first | refine v_iinc (ls' := [_, _, _, _, _, _, _, _, _]) d_X4_takeWanted_48 rfl (x_inc_1 _) (by decide) rfl ?_ | refine v_iinc (ls' := [_, _, _, _, _, _, _, _, _]) d_X4_takeWanted_48 rfl rfl (by decide) rfl ?_
      refine v_goto d_X4_takeWanted_51 ?_
      refine ih (k + 1) (by omega) (fun j hj2 => ?_)
      by_cases e1 : j = k
      · subst e1; exact zq
      · exact hj j (by omega)
    · refine w_if_ne d_X4_takeWanted_43 (fun h43 => absurd h43 (by decide)) (fun _ => ?_)
      refine v_iconst (v := (-1)) d_X4_takeWanted_46 x_ic_m1 ?_
      refine v_ret (v := some (.int _)) d_X4_takeWanted_47 rfl ⟨rfl, _, rfl, rfl⟩ (by decide) (by decide) ?_
      have hbad : ∃ j, j < N ∧ ¬ g_pair Z sh i j := ⟨k, by omega, zq⟩
      rw [q_wan1, z_wan1, x_if_t hbad, x_if_t hbad] at hK
      exact hK J hR (fun _ _ _ => rfl)

set_option maxRecDepth 100000 in
set_option maxHeartbeats 4000000 in
theorem t_X4_takeWanted {K : x_K} {S : x_S} {P : x_P} {I : x_I} {J : x_J} {n : Nat} {x y w m : Int32} {fa : Nat → Nat} {bd : Nat} {Z : x_I} (hR : c_R fa bd Z S P I J n) (mi : m_I Z) (t sh i N : Nat) (ht : t < 6) (hsh : sh < 4) (hiN : i + 2 * N ≤ 64) (hx : x = nI t) (hy : y = nI sh) (hw : w = nI i) (hm : m = nI N) (hK : ∀ J' : x_J, c_R fa bd (z_wan1 Z t sh i N) S P I J' n → (∀ b j, b ≠ 22 → J' b j = J b j) → K (some (.int (q_wan1 Z t sh i N))) S P I J' n) : x_Call f_X4_takeWanted [.ref 20, .int x, .ref 31, .int y, .int w, .int m] K S P I J n := by
  subst hx hy hw hm
  refine x_intro (by decide) 3 (ls := [_, _, _, _, _, _, _, _, _]) rfl (Nat.le_of_ble_eq_true rfl) ?_
  refine v_iconst (v := nI 0) d_X4_takeWanted_0 x_ic_0 ?_
  refine v_istore (ls' := [_, _, _, _, _, _, _, _, _]) d_X4_takeWanted_1 (by decide) rfl ?_
  exact l_X4_tw1 hR mi t sh i N ht hsh hiN hK N 0 (by omega) (fun j hj => absurd hj (Nat.not_lt_zero _))

set_option maxRecDepth 100000 in
set_option maxHeartbeats 4000000 in
theorem t_X11_wanted {K : x_K} {S : x_S} {P : x_P} {I : x_I} {J : x_J} {n : Nat} {t s lane i m : Int32} {fa : Nat → Nat} {bd : Nat} {Z : x_I} (hR : c_R fa bd Z S P I J n) (mi : m_I Z) (hK : c_K K (z_wanted Z t s lane i m) I J n (.int (q_wanted Z t s lane i m))) : x_Call f_X11_wanted [.ref 1, .int t, .int s, .int lane, .int i, .int m] K S P I J n := by
  have hS := hR.hS
  have hP := hR.hP
  have hn := mi.hn
  have hfo := mi.fo
  have h9 : m_ns Z = (Z 39 2).toInt.toNat := rfl
  have hh := mi.hh
  refine x_intro (by decide) 1 (ls := [_, _, _, _, _, _, _]) rfl (Nat.le_of_ble_eq_true rfl) ?_
  refine v_aload_n d_X11_wanted_0 rfl ?_
  refine v_gr d_X11_wanted_1 lf_X11_53_11 rfl (hS _ _ rfl) (hP _ _ _ rfl) ?_
  refine v_cv (as := []) (rest := []) d_X11_wanted_4 lv_X11_129_7 (hS _ _ rfl) rfl ⟨by decide, by decide⟩ rfl (Nat.le_of_ble_eq_true rfl) (by decide) (by decide) ?_
  refine t_X7_begin hS hP ?_
  have hR1 := (hR.fa_ (f := nI 0) hn.2)
  have mi1 : m_I (x_u2 Z 39 0 (nI 0)) := mi.f0
  refine v_aload_n d_X11_wanted_7 rfl ?_
  refine v_gr d_X11_wanted_8 lf_X11_46_11 rfl (hS _ _ rfl) (hP _ _ _ rfl) ?_
  refine v_iload_n d_X11_wanted_11 rfl ?_
  refine v_cv (as := [_]) (rest := []) d_X11_wanted_12 lv_X11_241_4 (hS _ _ rfl) rfl ⟨by decide, by decide⟩ rfl (Nat.le_of_ble_eq_true rfl) (by decide) (by decide) ?_
  refine t_X4_hasHour hR1 mi1 (fun zq1 => ?_) (fun zq1 => ?_)
  · have zq1 : g_hr Z t := zq1
    have zq1a := zq1.1
    have zq1b := zq1.2
    obtain ⟨t0, rfl, hk_t0, t_t0, y_t0⟩ := x_ex1 (s := t) (zq1a)
    refine w_if_eq d_X11_wanted_15 (fun h15 => absurd h15 (by decide)) (fun _ => ?_)
    refine v_iload_n d_X11_wanted_18 rfl ?_
    refine v_cs (as := [_]) (rest := []) d_X11_wanted_19 ls_X11_132 rfl ⟨by decide, by decide⟩ rfl (Nat.le_of_ble_eq_true rfl) (by decide) (by decide) ?_
    refine t_X7_has (fun zq2 => ?_) (fun zq2 => ?_)
    · obtain ⟨sh, rfl, hk_sh, t_sh, y_sh⟩ := x_ex1 (s := s) (zq2.1)
      have zq2b := zq2.2
      rw [t_sh] at zq2b
      refine w_if_ne d_X11_wanted_22 (fun _ => ?_) (fun h22 => absurd h22 (by decide))
      refine v_iload_n d_X11_wanted_27 rfl ?_
      refine v_cs (as := [_]) (rest := []) d_X11_wanted_28 ls_X11_135 rfl ⟨by decide, by decide⟩ rfl (Nat.le_of_ble_eq_true rfl) (by decide) (by decide) ?_
      refine t_X7_isLane (fun zq3 => ?_) (fun zq3 => ?_)
      · refine w_if_ne d_X11_wanted_31 (fun _ => ?_) (fun h31 => absurd h31 (by decide))
        refine v_aload_n d_X11_wanted_37 rfl ?_
        refine v_gr d_X11_wanted_38 lf_X11_53_11 rfl (hS _ _ rfl) (hP _ _ _ rfl) ?_
        refine v_iload_n d_X11_wanted_41 rfl ?_
        refine v_iload_n d_X11_wanted_42 rfl ?_
        refine v_iload d_X11_wanted_43 rfl ?_
        refine v_ldc2 d_X11_wanted_45 lk_X11_253 ?_
        refine v_iload d_X11_wanted_48 rfl ?_
        refine v_i2l d_X11_wanted_50 ?_
        refine v_lmul d_X11_wanted_51 ?_
        have hm32 := x_32 m
        have zm2 : (2 * m.toInt64 : Int64).toInt = 2 * m.toInt := by
          have e2 : (2 : Int64).toInt = 2 := by decide
          rw [x_mulL (by rw [x_il, e2]; omega) (by rw [x_il, e2]; omega), x_il, e2]
        refine v_cv (as := [_, _, _, _]) (rest := []) d_X11_wanted_52 lv_X11_144_7 (hS _ _ rfl) rfl ⟨by decide, by decide⟩ rfl (Nat.le_of_ble_eq_true rfl) (by decide) (by decide) ?_
        refine t_X7_faultOfTaking (Z := Z) sh rfl (by omega) (mi.la sh (by omega)).1 (mi.la sh (by omega)).2 (hR1.Sh sh (by omega)).1 (hR1.Sh sh (by omega)).2.1 (by rw [zm2]; omega) hS hP ?_
        have hag : m_ag3 (Z 45 sh).toInt (Z 46 sh).toInt lane.toInt i.toInt (2 * m.toInt64 : Int64).toInt = m_ag (Z 45 sh).toInt (Z 46 sh).toInt lane.toInt i.toInt m.toInt 2 := by
          rw [zm2, Int.mul_comm]
          exact m_ag3_1 _ _ _ _ _ 2 (Or.inr rfl)
        rw [hag]
        have hle := m_ag_le (Z 45 sh).toInt (Z 46 sh).toInt lane.toInt i.toInt m.toInt 2
        refine v_istore (ls' := [_, _, _, _, _, _, _]) d_X11_wanted_55 (by decide) rfl ?_
        refine v_iload d_X11_wanted_57 rfl ?_
        refine w_if_eq d_X11_wanted_59 (fun a59 => ?_) (fun a59 => ?_)
        · rw [x_ti (by omega)] at a59
          have a59 : m_ag (Z 45 sh).toInt (Z 46 sh).toInt lane.toInt i.toInt m.toInt 2 = 0 := by omega
          obtain ⟨g1, g2, g3, g4, g5, g6⟩ := m_ag_0 a59
          have hlen := (mi.la sh (by omega)).2
          obtain ⟨i0, rfl, hk_i0, t_i0, y_i0⟩ := x_ex1 (s := i) (g4)
          obtain ⟨m0, rfl, hk_m0, t_m0, y_m0⟩ := x_ex1 (s := m) (g3)
          rw [t_i0] at g5 g6
          rw [t_m0] at g6
          refine v_aload_n d_X11_wanted_72 rfl ?_
          refine v_gr d_X11_wanted_73 lf_X11_46_11 rfl (hS _ _ rfl) (hP _ _ _ rfl) ?_
          refine v_iload_n d_X11_wanted_76 rfl ?_
          refine v_aload_n d_X11_wanted_77 rfl ?_
          refine v_gr d_X11_wanted_78 lf_X11_53_11 rfl (hS _ _ rfl) (hP _ _ _ rfl) ?_
          refine v_iload_n d_X11_wanted_81 rfl ?_
          refine v_iload d_X11_wanted_82 rfl ?_
          refine v_iload d_X11_wanted_84 rfl ?_
          refine v_cv (as := [_, _, _, _, _]) (rest := []) d_X11_wanted_86 lv_X11_255_4 (hS _ _ rfl) rfl ⟨by decide, by decide⟩ rfl (Nat.le_of_ble_eq_true rfl) (by decide) (by decide) ?_
          refine t_X4_takeWanted hR1 mi1 t0 sh i0 m0 (by omega) (by omega) (by omega) rfl rfl rfl rfl (fun J2 k1 k2 => ?_)
          refine v_ret (v := some (.int _)) d_X11_wanted_89 rfl ⟨rfl, _, rfl, rfl⟩ (by decide) (by decide) ?_
          have ec0 : ¬ (¬ (g_hr Z (nI t0) ∧ g_ey (nI sh))) := fun z => z ⟨zq1, zq2⟩
          have ec1 : ¬ (¬ (0 ≤ lane.toInt ∧ lane.toInt ≤ 2)) := fun z => z zq3
          have ec2 : ¬ (¬ m_ag (Z 45 sh).toInt (Z 46 sh).toInt lane.toInt (nI i0).toInt (nI m0).toInt 2 = 0) := fun z => z a59
          simp only [q_wanted, z_wanted, x_if_f ec0, x_if_f ec1, y_sh, x_if_f ec2, y_t0, y_i0, y_m0] at hK
          exact hK _ _ _ _ _ ⟨fa, bd, k1⟩ (fun b j hj => ⟨by have hb2 := cC_no hj; rw [x_u2_na _ _ _ _ (by omega)], by have hb2 := cC_no hj; exact k2 b j (by omega)⟩) (by omega)
        · have a59 : ¬ m_ag (Z 45 sh).toInt (Z 46 sh).toInt lane.toInt i.toInt m.toInt 2 = 0 := fun z => a59 (by rw [z]; decide)
          refine v_aload_n d_X11_wanted_62 rfl ?_
          refine v_gr d_X11_wanted_63 lf_X11_53_11 rfl (hS _ _ rfl) (hP _ _ _ rfl) ?_
          refine v_iload d_X11_wanted_66 rfl ?_
          refine v_cv (as := [_]) (rest := []) d_X11_wanted_68 lv_X11_148_7 (hS _ _ rfl) rfl ⟨by decide, by decide⟩ rfl (Nat.le_of_ble_eq_true rfl) (by decide) (by decide) ?_
          refine t_X7_failBy hS hP ?_
          refine v_ret (v := some (.int _)) d_X11_wanted_71 rfl ⟨rfl, _, rfl, rfl⟩ (by decide) (by decide) ?_
          have ec0 : ¬ (¬ (g_hr Z (nI t0) ∧ g_ey (nI sh))) := fun z => z ⟨zq1, zq2⟩
          have ec1 : ¬ (¬ (0 ≤ lane.toInt ∧ lane.toInt ≤ 2)) := fun z => z zq3
          have ec2 : ¬ m_ag (Z 45 sh).toInt (Z 46 sh).toInt lane.toInt i.toInt m.toInt 2 = 0 := a59
          simp only [q_wanted, z_wanted, x_if_f ec0, x_if_f ec1, x_if_t ec2, y_sh] at hK
          exact hK _ _ _ _ _ ⟨fa, bd, (hR.fa_ (f := nI 0) hn.2).fa_ hn.2⟩ ((x_ex.rf.ui rfl).ui rfl) (by omega)
      · refine w_if_ne d_X11_wanted_31 (fun h31 => absurd h31 (by decide)) (fun _ => ?_)
        refine v_bipush (v := (-2)) d_X11_wanted_34 x_bp_m2 ?_
        refine v_ret (v := some (.int _)) d_X11_wanted_36 rfl ⟨rfl, _, rfl, rfl⟩ (by decide) (by decide) ?_
        have ec0 : ¬ (¬ (g_hr Z (nI t0) ∧ g_ey (nI sh))) := fun z => z ⟨zq1, zq2⟩
        have ec1 : ¬ (0 ≤ lane.toInt ∧ lane.toInt ≤ 2) := zq3
        simp only [q_wanted, z_wanted, x_if_f ec0, x_if_t ec1] at hK
        exact hK _ _ _ _ _ ⟨fa, bd, (hR.fa_ (f := nI 0) hn.2)⟩ (x_ex.rf.ui rfl) (by omega)
    · refine w_if_ne d_X11_wanted_22 (fun h22 => absurd h22 (by decide)) (fun _ => ?_)
      refine v_iconst (v := (-1)) d_X11_wanted_25 x_ic_m1 ?_
      refine v_ret (v := some (.int _)) d_X11_wanted_26 rfl ⟨rfl, _, rfl, rfl⟩ (by decide) (by decide) ?_
      first
        | (have ec0 : ¬ (g_hr Z t ∧ g_ey s) := fun z => zq1 z.1
           simp only [q_wanted, z_wanted, x_if_t ec0] at hK
           exact hK _ _ _ _ _ ⟨fa, bd, (hR.fa_ (f := nI 0) hn.2)⟩ (x_ex.rf.ui rfl) (by omega))
        | (have ec0 : ¬ (g_hr Z (nI t0) ∧ g_ey s) := fun z => zq2 z.2
           simp only [q_wanted, z_wanted, x_if_t ec0] at hK
           exact hK _ _ _ _ _ ⟨fa, bd, (hR.fa_ (f := nI 0) hn.2)⟩ (x_ex.rf.ui rfl) (by omega))
  · refine w_if_eq d_X11_wanted_15 (fun _ => ?_) (fun h15 => absurd h15 (by decide))
    refine v_iconst (v := (-1)) d_X11_wanted_25 x_ic_m1 ?_
    refine v_ret (v := some (.int _)) d_X11_wanted_26 rfl ⟨rfl, _, rfl, rfl⟩ (by decide) (by decide) ?_
    first
      | (have ec0 : ¬ (g_hr Z t ∧ g_ey s) := fun z => zq1 z.1
         simp only [q_wanted, z_wanted, x_if_t ec0] at hK
         exact hK _ _ _ _ _ ⟨fa, bd, (hR.fa_ (f := nI 0) hn.2)⟩ (x_ex.rf.ui rfl) (by omega))
      | (have ec0 : ¬ (g_hr Z (nI t0) ∧ g_ey s) := fun z => zq2 z.2
         simp only [q_wanted, z_wanted, x_if_t ec0] at hK
         exact hK _ _ _ _ _ ⟨fa, bd, (hR.fa_ (f := nI 0) hn.2)⟩ (x_ex.rf.ui rfl) (by omega))

set_option maxRecDepth 100000 in
set_option maxHeartbeats 4000000 in
theorem t_X4_shine {K : x_K} {S : x_S} {P : x_P} {I : x_I} {J : x_J} {n : Nat} {x y : Int32} {fa : Nat → Nat} {bd : Nat} {Z : x_I} (hR : c_R fa bd Z S P I J n) (mi : m_I Z) (p t c : Nat) (hpl : Z 39 26 = nI p) (hp : p < m_ns Z) (ht : t < m_nh Z) (hc : (c : Int) < m_ce Z p) (hx : x = nI t) (hy : y = nI c) (hK : ∀ (P' : x_P) (I' : x_I), p_ex P P' → x_ex cE I I' J J → K (some (.int (r_ans (r_lit Z p t c).1))) S P' I' J n) : x_Call f_X4_shine [.ref 20, .int x, .int y] K S P I J n := by
  have hS := hR.hS
  have hP := hR.hP
  have hn := mi.hn
  have hfo := mi.fo
  have h9 : m_ns Z = (Z 39 2).toInt.toNat := rfl
  subst hx hy
  have hh := mi.hh
  have h7 : m_nh Z = (Z 39 24).toInt.toNat := rfl
  have hw := hR.w hp
  have hfp := hfo p hp
  have hmc := m_ce_in hfp
  have had := hw.ad
  refine x_intro (by decide) 2 (ls := [_, _, _, _, _]) rfl (Nat.le_of_ble_eq_true rfl) ?_
  refine v_aload_n d_X4_shine_0 rfl ?_
  refine v_gr d_X4_shine_1 lf_X4_33_4 rfl (hS _ _ rfl) (hP _ _ _ rfl) ?_
  refine v_aload_n d_X4_shine_4 rfl ?_
  refine v_gie d_X4_shine_5 lf_X4_29_4 rfl (hS _ _ rfl) (hR.Li.2.1.trans (show c_pn (Z 39 26) = nI p by unfold c_pn; rw [hpl, if_neg (by rw [x_ti (by omega)]; omega)])) ?_
  refine v_cv (as := [_]) (rest := []) d_X4_shine_8 lv_X4_44_8 (hS _ _ rfl) rfl ⟨by decide, by decide⟩ rfl (Nat.le_of_ble_eq_true rfl) (by decide) (by decide) ?_
  refine t_X8_wallS hR mi p rfl hp ?_
  refine v_astore_n (ls' := [_, _, _, _, _]) d_X4_shine_11 (by decide) rfl ?_
  refine v_aload_n d_X4_shine_12 rfl ?_
  refine v_ifnonnull d_X4_shine_13 ?_
  refine v_aload_n d_X4_shine_19 rfl ?_
  refine v_gr d_X4_shine_20 (lfw_X4_76 (c_kc_ok _)) (x_ftw1 (c_kc_ok _)) (hw.sw) (hw.pf) ?_
  refine v_astore (ls' := [_, _, _, _, _]) d_X4_shine_23 (by decide) rfl ?_
  refine v_aload_n d_X4_shine_25 rfl ?_
  refine v_gr d_X4_shine_26 lf_X4_37_4 rfl (hS _ _ rfl) (hP _ _ _ rfl) ?_
  refine v_aload d_X4_shine_29 rfl ?_
  refine v_iload_n d_X4_shine_31 rfl ?_
  refine v_iconst (v := nI 0) d_X4_shine_32 x_ic_0 ?_
  refine v_cv (as := [_, _]) (rest := [_]) d_X4_shine_33 lv_X4_82_1 (hw.sf) rfl ⟨by decide, by decide⟩ rfl (Nat.le_of_ble_eq_true rfl) (by decide) (by decide) ?_
  refine t_X1_twiceMiddle c 0 rfl rfl (by decide) hw.sf hw.fl hfp hc (fun r0 z0 => ?_)
  refine v_aload d_X4_shine_36 rfl ?_
  refine v_iload_n d_X4_shine_38 rfl ?_
  refine v_iconst (v := nI 1) d_X4_shine_39 x_ic_1 ?_
  refine v_cv (as := [_, _]) (rest := [_, _]) d_X4_shine_40 lv_X4_82_1 (hw.sf) rfl ⟨by decide, by decide⟩ rfl (Nat.le_of_ble_eq_true rfl) (by decide) (by decide) ?_
  refine t_X1_twiceMiddle c 1 rfl rfl (by decide) hw.sf hw.fl hfp hc (fun r1 z1 => ?_)
  refine v_aload d_X4_shine_43 rfl ?_
  refine v_iload_n d_X4_shine_45 rfl ?_
  refine v_iconst (v := nI 2) d_X4_shine_46 x_ic_2 ?_
  refine v_cv (as := [_, _]) (rest := [_, _, _]) d_X4_shine_47 lv_X4_82_1 (hw.sf) rfl ⟨by decide, by decide⟩ rfl (Nat.le_of_ble_eq_true rfl) (by decide) (by decide) ?_
  refine t_X1_twiceMiddle c 2 rfl rfl (by decide) hw.sf hw.fl hfp hc (fun r2 z2 => ?_)
  refine v_cv (as := [_, _, _]) (rest := []) d_X4_shine_50 lv_X4_87_6 (hS _ _ rfl) rfl ⟨by decide, by decide⟩ rfl (Nat.le_of_ble_eq_true rfl) (by decide) (by decide) ?_
  refine t_X6_standAt hS hP ?_
  have hx1 : x_ex cE I (x_u2 (x_u2 (x_u2 I 6 0 r0) 6 1 r1) 6 2 r2) J J := ((x_ex.rf.ui rfl).ui rfl).ui rfl
  refine v_aload_n d_X4_shine_53 rfl ?_
  refine v_gr d_X4_shine_54 lf_X4_37_4 rfl (hS _ _ rfl) (hP _ _ _ rfl) ?_
  refine v_aload_n d_X4_shine_57 rfl ?_
  refine v_gr d_X4_shine_58 lf_X4_9_4 rfl (hS _ _ rfl) (hP _ _ _ rfl) ?_
  refine v_iconst (v := nI 3) d_X4_shine_61 x_ic_3 ?_
  refine v_iload_n d_X4_shine_62 rfl ?_
  first | refine v_imulN d_X4_shine_63 ?_ | refine v_imul d_X4_shine_63 ?_
  refine v_iald _ d_X4_shine_64 (rfl) (hS _ _ rfl) (⟨by omega, by omega⟩) (hR.Li.2.2 (3 * t) (by omega)) ?_
  refine v_aload_n d_X4_shine_65 rfl ?_
  refine v_gr d_X4_shine_66 lf_X4_9_4 rfl (hS _ _ rfl) (hP _ _ _ rfl) ?_
  refine v_iconst (v := nI 3) d_X4_shine_69 x_ic_3 ?_
  refine v_iload_n d_X4_shine_70 rfl ?_
  first | refine v_imulN d_X4_shine_71 ?_ | refine v_imul d_X4_shine_71 ?_
  refine v_iconst (v := nI 1) d_X4_shine_72 x_ic_1 ?_
  first | refine v_iaddN d_X4_shine_73 ?_ | refine v_iadd d_X4_shine_73 ?_
  refine v_iald _ d_X4_shine_74 (rfl) (hS _ _ rfl) (⟨by omega, by omega⟩) (hR.Li.2.2 (3 * t + 1) (by omega)) ?_
  refine v_aload_n d_X4_shine_75 rfl ?_
  refine v_gr d_X4_shine_76 lf_X4_9_4 rfl (hS _ _ rfl) (hP _ _ _ rfl) ?_
  refine v_iconst (v := nI 3) d_X4_shine_79 x_ic_3 ?_
  refine v_iload_n d_X4_shine_80 rfl ?_
  first | refine v_imulN d_X4_shine_81 ?_ | refine v_imul d_X4_shine_81 ?_
  refine v_iconst (v := nI 2) d_X4_shine_82 x_ic_2 ?_
  first | refine v_iaddN d_X4_shine_83 ?_ | refine v_iadd d_X4_shine_83 ?_
  refine v_iald _ d_X4_shine_84 (rfl) (hS _ _ rfl) (⟨by omega, by omega⟩) (hR.Li.2.2 (3 * t + 2) (by omega)) ?_
  refine v_cv (as := [_, _, _]) (rest := []) d_X4_shine_85 lv_X4_93_6 (hS _ _ rfl) rfl ⟨by decide, by decide⟩ rfl (Nat.le_of_ble_eq_true rfl) (by decide) (by decide) ?_
  refine t_X6_headFor hS hP ?_
  have hx2 : x_ex cE I (x_u2 (x_u2 (x_u2 (x_u2 (x_u2 (x_u2 I 6 0 r0) 6 1 r1) 6 2 r2) 7 0 (Z 53 (3 * t))) 7 1 (Z 53 (3 * t + 1))) 7 2 (Z 53 (3 * t + 2))) J J := ((hx1.ui rfl).ui rfl).ui rfl
  have hR2 := hR.cgE hx2 p_ex.rf
  have w0 := r_mid_in hfp hc 0
  have w1 := r_mid_in hfp hc 1
  have w2 := r_mid_in hfp hc 2
  have v0 := mi.ws (3 * t) (by omega)
  have v1 := mi.ws (3 * t + 1) (by omega)
  have v2 := mi.ws (3 * t + 2) (by omega)
  refine v_aload_n d_X4_shine_88 rfl ?_
  refine v_gr d_X4_shine_89 lf_X4_37_4 rfl (hS _ _ rfl) (hP _ _ _ rfl) ?_
  refine v_aload_n d_X4_shine_92 rfl ?_
  refine v_gie d_X4_shine_93 lf_X4_29_4 rfl (hS _ _ rfl) (hR.Li.2.1.trans (show c_pn (Z 39 26) = nI p by unfold c_pn; rw [hpl, if_neg (by rw [x_ti (by omega)]; omega)])) ?_
  refine v_cv (as := [_]) (rest := []) d_X4_shine_96 lv_X4_96_6 (hS _ _ rfl) rfl ⟨by decide, by decide⟩ rfl (Nat.le_of_ble_eq_true rfl) (by decide) (by decide) ?_
  refine t_X6_go hR2 mi (fun a ha => by
    rcases (show a = 0 ∨ a = 1 ∨ a = 2 by omega) with rfl | rfl | rfl
    · show -90 ≤ r0.toInt ∧ r0.toInt ≤ 90; omega
    · show -90 ≤ r1.toInt ∧ r1.toInt ≤ 90; omega
    · show -90 ≤ r2.toInt ∧ r2.toInt ≤ 90; omega) (fun a ha => by
    rcases (show a = 0 ∨ a = 1 ∨ a = 2 by omega) with rfl | rfl | rfl
    · show -100 ≤ (Z 53 (3 * t)).toInt ∧ (Z 53 (3 * t)).toInt ≤ 100; omega
    · show -100 ≤ (Z 53 (3 * t + 1)).toInt ∧ (Z 53 (3 * t + 1)).toInt ≤ 100; omega
    · show -100 ≤ (Z 53 (3 * t + 2)).toInt ∧ (Z 53 (3 * t + 2)).toInt ≤ 100; omega) (fun P' I' h1 h2 h3 => ?_)
  refine v_ret (v := some (.int _)) d_X4_shine_99 rfl ⟨rfl, _, rfl, rfl⟩ (by decide) (by decide) ?_
  have ee : r_end Z 2 (nI p).toInt 3 (fun a => ((x_u2 (x_u2 (x_u2 (x_u2 (x_u2 (x_u2 I 6 0 r0) 6 1 r1) 6 2 r2) 7 0 (Z 53 (3 * t))) 7 1 (Z 53 (3 * t + 1))) 7 2 (Z 53 (3 * t + 2))) 6 a).toInt) (fun a => ((x_u2 (x_u2 (x_u2 (x_u2 (x_u2 (x_u2 I 6 0 r0) 6 1 r1) 6 2 r2) 7 0 (Z 53 (3 * t))) 7 1 (Z 53 (3 * t + 1))) 7 2 (Z 53 (3 * t + 2))) 7 a).toInt) 0 1 = r_lit Z p t c := by
    unfold r_lit
    rw [x_ti (by omega)]
    refine r_end_cp hfo 3 (fun a ha => ?_) (fun a ha => ?_)
    · rcases (show a = 0 ∨ a = 1 ∨ a = 2 by omega) with rfl | rfl | rfl
      · exact z0
      · exact z1
      · exact z2
    · rcases (show a = 0 ∨ a = 1 ∨ a = 2 by omega) with rfl | rfl | rfl <;> rfl
  rw [ee]
  exact hK P' I' h1 (hx2.tr h2)

set_option maxRecDepth 100000 in
set_option maxHeartbeats 4000000 in
theorem l_X4_may {K : x_K} {S : x_S} {J : x_J} {n : Nat} {fa : Nat → Nat} {bd : Nat} {Z : x_I} (P0 : x_P) (I0 : x_I) (hR0 : c_R fa bd Z S P0 I0 J n) (mi : m_I Z) (p c : Nat) (hpl : Z 39 26 = nI p) (hp : p < m_ns Z) (hc : (c : Int) < m_ce Z p) (hyes : r_may Z p c → ∀ (P : x_P) (I : x_I), p_ex P0 P → x_ex cF I0 I J J → (∀ t, t < m_nh Z → I 23 t = r_ans (r_lit Z p t c).1) → K (some (.int (nI 1))) S P I J n) (hnot : ¬ r_may Z p c → ∀ (P : x_P) (I : x_I), p_ex P0 P → x_ex cF I0 I J J → K (some (.int (nI 0))) S P I J n) :
    ∀ m k : Nat, k + m = m_nh Z → ∀ (P : x_P) (I : x_I), p_ex P0 P → x_ex cF I0 I J J → (∀ t, t < k → r_may1 Z p c t) → (∀ t, t < k → I 23 t = r_ans (r_lit Z p t c).1) → x_V f_X4_mayHave K 2 [some (.ref 20), some (.int (nI c)), some (.int (nI k)), none] [] S P I J n 0 0 := by
  have hn := mi.hn
  have hfo := mi.fo
  have hh := mi.hh
  have h9 : m_ns Z = (Z 39 2).toInt.toNat := rfl
  have h7 : m_nh Z = (Z 39 24).toInt.toNat := rfl
  have hmc := m_ce_in (hfo p hp)
  intro m
  induction m with
  | zero =>
    intro k hd P I hpe hex hm hv
    have hR := hR0.cgF hex hpe
    have hS := hR.hS
    have hP := hR.hP
    refine v_iload_n d_X4_mayHave_2 rfl ?_
    refine v_aload_n d_X4_mayHave_3 rfl ?_
    refine v_gie d_X4_mayHave_4 lf_X4_41_4 rfl (hS _ _ rfl) (hR.Li.1) ?_
    refine w_icmp_ge d_X4_mayHave_7 (fun h7 => ?_) (fun h7 => False.elim (by (try simp (disch := omega) only [x_ti, x_tm1] at h7); omega))
    refine v_iconst (v := nI 1) d_X4_mayHave_52 x_ic_1 ?_
    refine v_ret (v := some (.int _)) d_X4_mayHave_53 rfl ⟨rfl, _, rfl, rfl⟩ (by decide) (by decide) ?_
    exact hyes (fun t ht => hm t (by omega)) P I hpe hex (fun t ht => hv t (by omega))
  | succ m ih =>
    intro k hd P I hpe hex hm hv
    have hR := hR0.cgF hex hpe
    have hS := hR.hS
    have hP := hR.hP
    refine v_iload_n d_X4_mayHave_2 rfl ?_
    refine v_aload_n d_X4_mayHave_3 rfl ?_
    refine v_gie d_X4_mayHave_4 lf_X4_41_4 rfl (hS _ _ rfl) (hR.Li.1) ?_
    refine w_icmp_ge d_X4_mayHave_7 (fun h7 => False.elim (by (try simp (disch := omega) only [x_ti, x_tm1] at h7); omega)) (fun h7 => ?_)
    refine v_aload_n d_X4_mayHave_10 rfl ?_
    refine v_iload_n d_X4_mayHave_11 rfl ?_
    refine v_iload_n d_X4_mayHave_12 rfl ?_
    refine v_cv (as := [_, _]) (rest := []) d_X4_mayHave_13 lv_X4_99_4 (hS _ _ rfl) rfl ⟨by decide, by decide⟩ rfl (Nat.le_of_ble_eq_true rfl) (by decide) (by decide) ?_
    refine t_X4_shine hR mi p k c hpl hp (by omega) hc rfl rfl (fun P' I' h1 h2 => ?_)
    have hRx := hR.cgE h2 h1
    have hS := hRx.hS
    have hP := hRx.hP
    cases zo : (r_lit Z p k c).1 with
    | none =>
      show x_V f_X4_mayHave K 16 _ [.int (-9)] S P' I' J n 0 0
      refine v_istore_n (ls' := [_, _, _, _]) d_X4_mayHave_16 (by decide) rfl ?_
      refine v_iload_n d_X4_mayHave_17 rfl ?_
      refine w_if_lt d_X4_mayHave_18 (fun _ => ?_) (fun a18 => absurd a18 (by decide))
      refine v_aload_n d_X4_mayHave_39 rfl ?_
      refine v_gr d_X4_mayHave_40 lf_X4_19_4 rfl (hS _ _ rfl) (hP _ _ _ rfl) ?_
      refine v_iload_n d_X4_mayHave_43 rfl ?_
      refine v_iload_n d_X4_mayHave_44 rfl ?_
      refine v_iast _ d_X4_mayHave_45 (rfl) (hS _ _ rfl) (⟨by omega, by omega⟩) ?_
      first | refine v_iinc (ls' := [_, _, _, _]) d_X4_mayHave_46 rfl (x_inc_1 _) (by decide) rfl ?_ | refine v_iinc (ls' := [_, _, _, _]) d_X4_mayHave_46 rfl rfl (by decide) rfl ?_
      refine v_goto d_X4_mayHave_49 ?_
      refine x_V.fg1 3 (ls' := [_, _, _, _]) rfl ?_
      refine ih (k + 1) (by omega) P' _ (hpe.tr h1) ((hex.tr h2.EF).ui (a := 23) (k := k) rfl) (fun t ht => ?_) (fun t ht => ?_)
      · by_cases w : t = k
        · subst w
          unfold r_may1
          rw [zo]
          trivial
        · exact hm t (by omega)
      · rw [x_u2_at]
        by_cases w : t = k
        · subst w; rw [if_pos ⟨rfl, rfl⟩, zo]; rfl
        · rw [if_neg (fun q => w q.2), h2.i 23 t rfl]; exact hv t (by omega)
    | some w0 =>
      obtain ⟨s, d⟩ := w0
      have zin := r_lit_in (show k < 6 by omega) mi.ws (hfo p hp) hc hfo zo
      have zs10 : s < 10 := by have := zin.1; omega
      have zc6 := zin.2.2.1
      have zd1 : (100 * s + d) / 100 = s := by omega
      have zd2 : (100 * s + d) % 100 = d := by omega
      show x_V f_X4_mayHave K 16 _ [.int (nI (100 * s + d))] S P' I' J n 0 0
      refine v_istore_n (ls' := [_, _, _, _]) d_X4_mayHave_16 (by decide) rfl ?_
      refine v_iload_n d_X4_mayHave_17 rfl ?_
      refine w_if_lt d_X4_mayHave_18 (fun a18 => False.elim (by rw [x_ti (by omega)] at a18; omega)) (fun a18 => ?_)
      refine v_aload_n d_X4_mayHave_21 rfl ?_
      refine v_iload_n d_X4_mayHave_22 rfl ?_
      refine v_iload_n d_X4_mayHave_23 rfl ?_
      refine v_bipush (v := nI 100) d_X4_mayHave_24 x_bp_100 ?_
      refine v_idiv d_X4_mayHave_26 (by decide) ?_
      rw [x_divN (by omega) (by decide) (by decide), zd1]
      refine v_iload_n d_X4_mayHave_27 rfl ?_
      refine v_bipush (v := nI 100) d_X4_mayHave_28 x_bp_100 ?_
      refine v_irem d_X4_mayHave_30 (by decide) ?_
      rw [x_remN (by omega) (by decide) (by decide), zd2]
      refine v_cv (as := [_, _, _]) (rest := []) d_X4_mayHave_31 lv_X4_102_4 (hS _ _ rfl) rfl ⟨by decide, by decide⟩ rfl (Nat.le_of_ble_eq_true rfl) (by decide) (by decide) ?_
      refine t_X4_isWanted hRx mi k s d rfl (by omega) rfl (by omega) rfl (by omega) (fun zq => ?_) (fun zq => ?_)
      · refine w_if_ne d_X4_mayHave_34 (fun _ => ?_) (fun h34 => absurd h34 (by decide))
        refine v_aload_n d_X4_mayHave_39 rfl ?_
        refine v_gr d_X4_mayHave_40 lf_X4_19_4 rfl (hS _ _ rfl) (hP _ _ _ rfl) ?_
        refine v_iload_n d_X4_mayHave_43 rfl ?_
        refine v_iload_n d_X4_mayHave_44 rfl ?_
        refine v_iast _ d_X4_mayHave_45 (rfl) (hS _ _ rfl) (⟨by omega, by omega⟩) ?_
        first | refine v_iinc (ls' := [_, _, _, _]) d_X4_mayHave_46 rfl (x_inc_1 _) (by decide) rfl ?_ | refine v_iinc (ls' := [_, _, _, _]) d_X4_mayHave_46 rfl rfl (by decide) rfl ?_
        refine v_goto d_X4_mayHave_49 ?_
        refine x_V.fg1 3 (ls' := [_, _, _, _]) rfl ?_
        refine ih (k + 1) (by omega) P' _ (hpe.tr h1) ((hex.tr h2.EF).ui (a := 23) (k := k) rfl) (fun t ht => ?_) (fun t ht => ?_)
        · by_cases w : t = k
          · subst w
            unfold r_may1
            rw [zo]
            exact zq
          · exact hm t (by omega)
        · rw [x_u2_at]
          by_cases w : t = k
          · subst w; rw [if_pos ⟨rfl, rfl⟩, zo]; rfl
          · rw [if_neg (fun q => w q.2), h2.i 23 t rfl]; exact hv t (by omega)
      · refine w_if_ne d_X4_mayHave_34 (fun h34 => absurd h34 (by decide)) (fun _ => ?_)
        refine v_iconst (v := nI 0) d_X4_mayHave_37 x_ic_0 ?_
        refine v_ret (v := some (.int _)) d_X4_mayHave_38 rfl ⟨rfl, _, rfl, rfl⟩ (by decide) (by decide) ?_
        exact hnot (fun z => by have z1 := z k (by omega); unfold r_may1 at z1; rw [zo] at z1; exact zq z1) P' I' (hpe.tr h1) (hex.tr h2.EF)

set_option maxRecDepth 100000 in
set_option maxHeartbeats 4000000 in
theorem t_X4_mayHave {K : x_K} {S : x_S} {P : x_P} {I : x_I} {J : x_J} {n : Nat} {y : Int32} {fa : Nat → Nat} {bd : Nat} {Z : x_I} (hR : c_R fa bd Z S P I J n) (mi : m_I Z) (p c : Nat) (hpl : Z 39 26 = nI p) (hp : p < m_ns Z) (hc : (c : Int) < m_ce Z p) (hy : y = nI c) (hyes : r_may Z p c → ∀ (P' : x_P) (I' : x_I), p_ex P P' → x_ex cF I I' J J → (∀ t, t < m_nh Z → I' 23 t = r_ans (r_lit Z p t c).1) → K (some (.int (nI 1))) S P' I' J n) (hnot : ¬ r_may Z p c → ∀ (P' : x_P) (I' : x_I), p_ex P P' → x_ex cF I I' J J → K (some (.int (nI 0))) S P' I' J n) : x_Call f_X4_mayHave [.ref 20, .int y] K S P I J n := by
  subst hy
  refine x_intro (by decide) 2 (ls := [_, _, _, _]) rfl (Nat.le_of_ble_eq_true rfl) ?_
  refine v_iconst (v := nI 0) d_X4_mayHave_0 x_ic_0 ?_
  refine v_istore_n (ls' := [_, _, _, _]) d_X4_mayHave_1 (by decide) rfl ?_
  exact l_X4_may P I hR mi p c hpl hp hc hyes hnot (m_nh Z) 0 (by omega) P I p_ex.rf x_ex.rf (fun t ht => absurd ht (Nat.not_lt_zero _)) (fun t ht => absurd ht (Nat.not_lt_zero _))

set_option maxRecDepth 100000 in
set_option maxHeartbeats 4000000 in
theorem t_X11_lit {K : x_K} {S : x_S} {P : x_P} {I : x_I} {J : x_J} {n : Nat} {t c : Int32} {fa : Nat → Nat} {bd : Nat} {Z : x_I} (hR : c_R fa bd Z S P I J n) (mi : m_I Z) (hK : c_K K (Z) I J n (.int (q_lit Z t c))) : x_Call f_X11_lit [.ref 1, .int t, .int c] K S P I J n := by
  have hS := hR.hS
  have hP := hR.hP
  have hn := mi.hn
  have hfo := mi.fo
  have h9 : m_ns Z = (Z 39 2).toInt.toNat := rfl
  have hh := mi.hh
  have cp := c_pl mi
  have h7 : m_nh Z = (Z 39 24).toInt.toNat := rfl
  refine x_intro (by decide) 0 (ls := [_, _, _]) rfl (Nat.le_of_ble_eq_true rfl) ?_
  refine v_aload_n d_X11_lit_0 rfl ?_
  refine v_gr d_X11_lit_1 lf_X11_46_11 rfl (hS _ _ rfl) (hP _ _ _ rfl) ?_
  refine v_cv (as := []) (rest := []) d_X11_lit_4 lv_X11_235_4 (hS _ _ rfl) rfl ⟨by decide, by decide⟩ rfl (Nat.le_of_ble_eq_true rfl) (by decide) (by decide) ?_
  refine t_X4_hasPlate hR mi (fun zq0 => ?_) (fun zq0 => ?_)
  · refine w_if_ne d_X11_lit_7 (fun _ => ?_) (fun h7 => absurd h7 (by decide))
    refine v_aload_n d_X11_lit_13 rfl ?_
    refine v_gr d_X11_lit_14 lf_X11_46_11 rfl (hS _ _ rfl) (hP _ _ _ rfl) ?_
    refine v_iload_n d_X11_lit_17 rfl ?_
    refine v_cv (as := [_]) (rest := []) d_X11_lit_18 lv_X11_241_4 (hS _ _ rfl) rfl ⟨by decide, by decide⟩ rfl (Nat.le_of_ble_eq_true rfl) (by decide) (by decide) ?_
    refine t_X4_hasHour hR mi (fun zq1 => ?_) (fun zq1 => ?_)
    · have zq1a := zq1.1
      have zq1b := zq1.2
      obtain ⟨t0, rfl, hk_t0, t_t0, y_t0⟩ := x_ex1 (s := t) (zq1a)
      refine w_if_eq d_X11_lit_21 (fun h21 => absurd h21 (by decide)) (fun _ => ?_)
      refine v_aload_n d_X11_lit_24 rfl ?_
      refine v_gr d_X11_lit_25 lf_X11_21_11 rfl (hS _ _ rfl) (hP _ _ _ rfl) ?_
      refine v_aload_n d_X11_lit_28 rfl ?_
      refine v_gr d_X11_lit_29 lf_X11_46_11 rfl (hS _ _ rfl) (hP _ _ _ rfl) ?_
      refine v_gie d_X11_lit_32 lf_X11_238_4 rfl (hS _ _ rfl) (hR.Li.2.1.trans (cp.2 zq0)) ?_
      refine v_iload_n d_X11_lit_35 rfl ?_
      refine v_cv (as := [_, _]) (rest := []) d_X11_lit_36 lv_X11_244_8 (hS _ _ rfl) rfl ⟨by decide, by decide⟩ rfl (Nat.le_of_ble_eq_true rfl) (by decide) (by decide) ?_
      refine t_X8_hasCell hR mi (fun zq2 => ?_) (fun zq2 => ?_)
      · have zpt := mi.pt.resolve_left zq0
        have zp1 := zpt.1
        have zp2 := zpt.2
        obtain ⟨p, hpl, zp3, zp4, zp5⟩ := x_ex1 (s := Z 39 26) zp1
        have zc1 := zq2.2.1
        have zc2 := zq2.2.2
        obtain ⟨j, rfl, hk_j, t_j, y_j⟩ := x_ex1 (s := c) (zc1)
        rw [zp5] at zc2
        rw [t_j] at zc2
        refine w_if_ne d_X11_lit_39 (fun _ => ?_) (fun h39 => absurd h39 (by decide))
        refine v_aload_n d_X11_lit_44 rfl ?_
        refine v_gr d_X11_lit_45 lf_X11_46_11 rfl (hS _ _ rfl) (hP _ _ _ rfl) ?_
        refine v_iload_n d_X11_lit_48 rfl ?_
        refine v_iload_n d_X11_lit_49 rfl ?_
        refine v_cv (as := [_, _]) (rest := []) d_X11_lit_50 lv_X11_259_4 (hS _ _ rfl) rfl ⟨by decide, by decide⟩ rfl (Nat.le_of_ble_eq_true rfl) (by decide) (by decide) ?_
        refine t_X4_shine hR mi p t0 j hpl (by omega) (by omega) (by omega) rfl rfl (fun P' I' h1 h2 => ?_)
        refine v_ret (v := some (.int _)) d_X11_lit_53 rfl ⟨rfl, _, rfl, rfl⟩ (by decide) (by decide) ?_
        have ec0 : ¬ ((Z 39 26).toInt = -9) := zq0
        have ec1 : g_hr Z (nI t0) ∧ g_ce Z (Z 39 26) (nI j) := ⟨zq1, zq2⟩
        simp only [q_lit, x_if_f ec0, x_if_t ec1, zp5, y_t0, y_j] at hK
        exact hK _ _ _ _ _ ⟨fa, bd, hR.cgE h2 h1⟩ (h2.EC) (by omega)
      · refine w_if_ne d_X11_lit_39 (fun h39 => absurd h39 (by decide)) (fun _ => ?_)
        refine v_iconst (v := (-1)) d_X11_lit_42 x_ic_m1 ?_
        refine v_ret (v := some (.int _)) d_X11_lit_43 rfl ⟨rfl, _, rfl, rfl⟩ (by decide) (by decide) ?_
        first
          | (have ec0 : ¬ ((Z 39 26).toInt = -9) := zq0
             have ec1 : ¬ (g_hr Z t ∧ g_ce Z (Z 39 26) c) := fun z => zq1 z.1
             simp only [q_lit, x_if_f ec0, x_if_f ec1] at hK
             exact hK _ _ _ _ _ ⟨fa, bd, hR⟩ (x_ex.rf) (by omega))
          | (have ec0 : ¬ ((Z 39 26).toInt = -9) := zq0
             have ec1 : ¬ (g_hr Z (nI t0) ∧ g_ce Z (Z 39 26) c) := fun z => zq2 z.2
             simp only [q_lit, x_if_f ec0, x_if_f ec1] at hK
             exact hK _ _ _ _ _ ⟨fa, bd, hR⟩ (x_ex.rf) (by omega))
    · refine w_if_eq d_X11_lit_21 (fun _ => ?_) (fun h21 => absurd h21 (by decide))
      refine v_iconst (v := (-1)) d_X11_lit_42 x_ic_m1 ?_
      refine v_ret (v := some (.int _)) d_X11_lit_43 rfl ⟨rfl, _, rfl, rfl⟩ (by decide) (by decide) ?_
      first
        | (have ec0 : ¬ ((Z 39 26).toInt = -9) := zq0
           have ec1 : ¬ (g_hr Z t ∧ g_ce Z (Z 39 26) c) := fun z => zq1 z.1
           simp only [q_lit, x_if_f ec0, x_if_f ec1] at hK
           exact hK _ _ _ _ _ ⟨fa, bd, hR⟩ (x_ex.rf) (by omega))
        | (have ec0 : ¬ ((Z 39 26).toInt = -9) := zq0
           have ec1 : ¬ (g_hr Z (nI t0) ∧ g_ce Z (Z 39 26) c) := fun z => zq2 z.2
           simp only [q_lit, x_if_f ec0, x_if_f ec1] at hK
           exact hK _ _ _ _ _ ⟨fa, bd, hR⟩ (x_ex.rf) (by omega))
  · refine w_if_ne d_X11_lit_7 (fun h7 => absurd h7 (by decide)) (fun _ => ?_)
    refine v_bipush (v := (-3)) d_X11_lit_10 x_bp_m3 ?_
    refine v_ret (v := some (.int _)) d_X11_lit_12 rfl ⟨rfl, _, rfl, rfl⟩ (by decide) (by decide) ?_
    have ec0 : (Z 39 26).toInt = -9 := Classical.byContradiction zq0
    simp only [q_lit, x_if_t ec0] at hK
    exact hK _ _ _ _ _ ⟨fa, bd, hR⟩ (x_ex.rf) (by omega)

set_option maxRecDepth 100000 in
set_option maxHeartbeats 4000000 in
theorem t_X11_may {K : x_K} {S : x_S} {P : x_P} {I : x_I} {J : x_J} {n : Nat} {c : Int32} {fa : Nat → Nat} {bd : Nat} {Z : x_I} (hR : c_R fa bd Z S P I J n) (mi : m_I Z) (hK : c_K K (Z) I J n (.int (q_may Z c))) : x_Call f_X11_may [.ref 1, .int c] K S P I J n := by
  have hS := hR.hS
  have hP := hR.hP
  have hn := mi.hn
  have hfo := mi.fo
  have h9 : m_ns Z = (Z 39 2).toInt.toNat := rfl
  have hh := mi.hh
  have cp := c_pl mi
  refine x_intro (by decide) 0 (ls := [_, _]) rfl (Nat.le_of_ble_eq_true rfl) ?_
  refine v_aload_n d_X11_may_0 rfl ?_
  refine v_gr d_X11_may_1 lf_X11_46_11 rfl (hS _ _ rfl) (hP _ _ _ rfl) ?_
  refine v_cv (as := []) (rest := []) d_X11_may_4 lv_X11_235_4 (hS _ _ rfl) rfl ⟨by decide, by decide⟩ rfl (Nat.le_of_ble_eq_true rfl) (by decide) (by decide) ?_
  refine t_X4_hasPlate hR mi (fun zq0 => ?_) (fun zq0 => ?_)
  · refine w_if_ne d_X11_may_7 (fun _ => ?_) (fun h7 => absurd h7 (by decide))
    refine v_aload_n d_X11_may_13 rfl ?_
    refine v_gr d_X11_may_14 lf_X11_21_11 rfl (hS _ _ rfl) (hP _ _ _ rfl) ?_
    refine v_aload_n d_X11_may_17 rfl ?_
    refine v_gr d_X11_may_18 lf_X11_46_11 rfl (hS _ _ rfl) (hP _ _ _ rfl) ?_
    refine v_gie d_X11_may_21 lf_X11_238_4 rfl (hS _ _ rfl) (hR.Li.2.1.trans (cp.2 zq0)) ?_
    refine v_iload_n d_X11_may_24 rfl ?_
    refine v_cv (as := [_, _]) (rest := []) d_X11_may_25 lv_X11_244_8 (hS _ _ rfl) rfl ⟨by decide, by decide⟩ rfl (Nat.le_of_ble_eq_true rfl) (by decide) (by decide) ?_
    refine t_X8_hasCell hR mi (fun zq2 => ?_) (fun zq2 => ?_)
    · have zpt := mi.pt.resolve_left zq0
      have zp1 := zpt.1
      have zp2 := zpt.2
      obtain ⟨p, hpl, zp3, zp4, zp5⟩ := x_ex1 (s := Z 39 26) zp1
      have zc1 := zq2.2.1
      have zc2 := zq2.2.2
      obtain ⟨j, rfl, hk_j, t_j, y_j⟩ := x_ex1 (s := c) (zc1)
      rw [zp5] at zc2
      rw [t_j] at zc2
      refine w_if_ne d_X11_may_28 (fun _ => ?_) (fun h28 => absurd h28 (by decide))
      refine v_aload_n d_X11_may_33 rfl ?_
      refine v_gr d_X11_may_34 lf_X11_46_11 rfl (hS _ _ rfl) (hP _ _ _ rfl) ?_
      refine v_iload_n d_X11_may_37 rfl ?_
      refine v_cv (as := [_]) (rest := []) d_X11_may_38 lv_X11_262_4 (hS _ _ rfl) rfl ⟨by decide, by decide⟩ rfl (Nat.le_of_ble_eq_true rfl) (by decide) (by decide) ?_
      refine t_X4_mayHave hR mi p j hpl (by omega) (by omega) rfl (fun zm P' I' h1 h2 h3 => ?_) (fun zm P' I' h1 h2 => ?_)
      · refine w_if_eq d_X11_may_41 (fun h41 => absurd h41 (by decide)) (fun _ => ?_)
        refine v_iconst (v := nI 1) d_X11_may_44 x_ic_1 ?_
        refine v_goto d_X11_may_45 ?_
        refine v_ret (v := some (.int _)) d_X11_may_49 rfl ⟨rfl, _, rfl, rfl⟩ (by decide) (by decide) ?_
        have ec0 : ¬ ((Z 39 26).toInt = -9) := zq0
        have ec1 : ¬ (¬ g_ce Z (Z 39 26) (nI j)) := fun z => z zq2
        have ec2 : r_may Z p j := zm
        simp only [q_may, x_if_f ec0, x_if_f ec1, x_if_t ec2, zp5, y_j] at hK
        exact hK _ _ _ _ _ ⟨fa, bd, hR.cgF h2 h1⟩ (h2.FC) (by omega)
      · refine w_if_eq d_X11_may_41 (fun _ => ?_) (fun h41 => absurd h41 (by decide))
        refine v_iconst (v := nI 0) d_X11_may_48 x_ic_0 ?_
        refine v_ret (v := some (.int _)) d_X11_may_49 rfl ⟨rfl, _, rfl, rfl⟩ (by decide) (by decide) ?_
        have ec0 : ¬ ((Z 39 26).toInt = -9) := zq0
        have ec1 : ¬ (¬ g_ce Z (Z 39 26) (nI j)) := fun z => z zq2
        have ec2 : ¬ (r_may Z p j) := zm
        simp only [q_may, x_if_f ec0, x_if_f ec1, x_if_f ec2, zp5, y_j] at hK
        exact hK _ _ _ _ _ ⟨fa, bd, hR.cgF h2 h1⟩ (h2.FC) (by omega)
    · refine w_if_ne d_X11_may_28 (fun h28 => absurd h28 (by decide)) (fun _ => ?_)
      refine v_iconst (v := (-1)) d_X11_may_31 x_ic_m1 ?_
      refine v_ret (v := some (.int _)) d_X11_may_32 rfl ⟨rfl, _, rfl, rfl⟩ (by decide) (by decide) ?_
      have ec0 : ¬ ((Z 39 26).toInt = -9) := zq0
      have ec1 : ¬ g_ce Z (Z 39 26) c := zq2
      simp only [q_may, x_if_f ec0, x_if_t ec1] at hK
      exact hK _ _ _ _ _ ⟨fa, bd, hR⟩ (x_ex.rf) (by omega)
  · refine w_if_ne d_X11_may_7 (fun h7 => absurd h7 (by decide)) (fun _ => ?_)
    refine v_bipush (v := (-3)) d_X11_may_10 x_bp_m3 ?_
    refine v_ret (v := some (.int _)) d_X11_may_12 rfl ⟨rfl, _, rfl, rfl⟩ (by decide) (by decide) ?_
    have ec0 : (Z 39 26).toInt = -9 := Classical.byContradiction zq0
    simp only [q_may, x_if_t ec0] at hK
    exact hK _ _ _ _ _ ⟨fa, bd, hR⟩ (x_ex.rf) (by omega)

