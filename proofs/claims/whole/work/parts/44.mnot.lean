set_option maxRecDepth 100000 in
set_option maxHeartbeats 4000000 in
theorem l_X12_notMet {K : x_K} {S : x_S} {P : x_P} {n : Nat} {x y z : Int32} (Z : x_I) (J0 : x_J) (N e : Nat) (he : e < 4) (hN : (N : Int) = m_ce Z 10) (hN6 : N ≤ 64) (hpl : g_pl x y z) (hbo : m_fo Z 10) (hn : 0 ≤ (Z 39 2).toInt ∧ (Z 39 2).toInt ≤ 10) (hfo : ∀ s, s < m_ns Z → m_fo Z s) (hS : x_hS S) (hP : x_hP P)
    (hK : ∀ (I : x_I) (J : x_J), x_ex mE Z I J0 J → K (some (.int (nI (x_ct (w_nm Z e x.toInt y.toInt z.toInt) N)))) S P I J n) :
    ∀ d j : Nat, j + d = N → ∀ (I : x_I) (J : x_J), x_ex mE Z I J0 J → x_V f_X12_notMet K 6 [some (.ref 39), some (.int (nI e)), some (.int x), some (.int y), some (.int z), some (.int (nI (x_ct (w_nm Z e x.toInt y.toInt z.toInt) j))), some (.int (nI j)), none] [] S P I J n 0 0 := by
  intro d
  have t9 : (-9 : Int32).toInt = -9 := by decide
  induction d with
  | zero =>
    intro j hd I J hex
    have hbI := x_fo_cg hex hbo
    have hnI := x_hn_cg hex hn
    have hfI := x_fos_cg hex hfo
    have hcI := x_ce_cg hex 10
    have hpI := hex.i 44 (64 * e + j) rfl
    have h9 : m_ns I = (I 39 2).toInt.toNat := rfl
    have hcc : (I 41 (6 * 10 + 4) * I 41 (6 * 10 + 5)).toInt = m_ce I 10 := rfl
    refine v_iload d_X12_notMet_6 rfl ?_
    refine v_aload_n d_X12_notMet_8 rfl ?_
    refine v_bipush (v := nI 10) d_X12_notMet_9 x_bp_10 ?_
    refine v_cv (as := [_]) (rest := [_]) d_X12_notMet_11 lv_X12_101_12 (hS _ _ rfl) rfl ⟨by decide, by decide⟩ rfl (Nat.le_of_ble_eq_true rfl) (by decide) (by decide) ?_
    refine t_X12_cellsOf 10 rfl (by decide) hS hP ?_
    refine w_icmp_ge d_X12_notMet_14 (fun h14 => ?_) (fun h14 => False.elim (by (try simp (disch := omega) only [x_ti, x_tm1] at h14); omega))
    refine v_iload d_X12_notMet_91 rfl ?_
    refine v_ret (v := some (.int _)) d_X12_notMet_93 rfl ⟨rfl, _, rfl, rfl⟩ (by decide) (by decide) ?_
    have e9 : j = N := by omega
    subst e9
    exact hK I J hex
  | succ d ih =>
    intro j hd I J hex
    have hbI := x_fo_cg hex hbo
    have hnI := x_hn_cg hex hn
    have hfI := x_fos_cg hex hfo
    have hcI := x_ce_cg hex 10
    have hpI := hex.i 44 (64 * e + j) rfl
    have h9 : m_ns I = (I 39 2).toInt.toNat := rfl
    have hcc : (I 41 (6 * 10 + 4) * I 41 (6 * 10 + 5)).toInt = m_ce I 10 := rfl
    refine v_iload d_X12_notMet_6 rfl ?_
    refine v_aload_n d_X12_notMet_8 rfl ?_
    refine v_bipush (v := nI 10) d_X12_notMet_9 x_bp_10 ?_
    refine v_cv (as := [_]) (rest := [_]) d_X12_notMet_11 lv_X12_101_12 (hS _ _ rfl) rfl ⟨by decide, by decide⟩ rfl (Nat.le_of_ble_eq_true rfl) (by decide) (by decide) ?_
    refine t_X12_cellsOf 10 rfl (by decide) hS hP ?_
    refine w_icmp_ge d_X12_notMet_14 (fun h14 => False.elim (by (try simp (disch := omega) only [x_ti, x_tm1] at h14); omega)) (fun h14 => ?_)
    refine v_aload_n d_X12_notMet_17 rfl ?_
    refine v_gr d_X12_notMet_18 lf_X12_22_12 rfl (hS _ _ rfl) (hP _ _ _ rfl) ?_
    refine v_bipush (v := nI 64) d_X12_notMet_21 x_bp_64 ?_
    refine v_iload_n d_X12_notMet_23 rfl ?_
    first | refine v_imulN d_X12_notMet_24 ?_ | refine v_imul d_X12_notMet_24 ?_
    refine v_iload d_X12_notMet_25 rfl ?_
    first | refine v_iaddN d_X12_notMet_27 ?_ | refine v_iadd d_X12_notMet_27 ?_
    refine v_iald _ d_X12_notMet_28 (rfl) (hS _ _ rfl) (⟨by omega, by omega⟩) (rfl) ?_
    refine w_if_ne d_X12_notMet_29 (fun a29 => ?_) (fun a29 => ?_)
    · try simp (disch := omega) only [x_ti, x_tm1] at a29
      refine v_aload_n d_X12_notMet_35 rfl ?_
      refine v_iload_n d_X12_notMet_36 rfl ?_
      refine v_iload_n d_X12_notMet_37 rfl ?_
      refine v_iload d_X12_notMet_38 rfl ?_
      refine v_iload d_X12_notMet_40 rfl ?_
      refine v_cv (as := [_, _, _, _]) (rest := []) d_X12_notMet_42 lv_X12_206_12 (hS _ _ rfl) rfl ⟨by decide, by decide⟩ rfl (Nat.le_of_ble_eq_true rfl) (by decide) (by decide) ?_
      refine t_X12_seenFrom2 j rfl hpl hbI (by omega) hnI hfI hS hP (fun ho I2 J2 h2 => ?_) (fun s c ho hs hce hc64 htb I2 J2 h2 => ?_)
      · refine v_istore (ls' := [_, _, _, _, _, _, _, _]) d_X12_notMet_45 (by decide) rfl ?_
        refine v_iload d_X12_notMet_47 rfl ?_
        refine v_iload d_X12_notMet_49 rfl ?_
        refine v_bipush (v := (-9)) d_X12_notMet_51 x_bp_m9 ?_
        refine w_icmp_eq d_X12_notMet_53 (fun _ => ?_) (fun a53 => absurd a53 (by decide))
        refine v_iconst (v := nI 1) d_X12_notMet_77 x_ic_1 ?_
        refine v_goto d_X12_notMet_78 ?_
        first | refine v_iaddN d_X12_notMet_82 ?_ | refine v_iadd d_X12_notMet_82 ?_
        refine v_istore (ls' := [_, _, _, _, _, _, _, _]) d_X12_notMet_83 (by decide) rfl ?_
        first | refine v_iinc (ls' := [_, _, _, _, _, _, _, _]) d_X12_notMet_85 rfl (x_inc_1 _) (by decide) rfl ?_ | refine v_iinc (ls' := [_, _, _, _, _, _, _, _]) d_X12_notMet_85 rfl rfl (by decide) rfl ?_
        refine v_goto d_X12_notMet_88 ?_
        refine x_V.fg1 7 (ls' := [_, _, _, _, _, _, _, _]) rfl ?_
        rw [r_seen_cg hex hpl hbo (by omega) hfo] at ho
        have q0 : w_is Z e j = true := by unfold w_is; rw [← hpI]; exact decide_eq_true a29
        have q1 : (w_nm Z e x.toInt y.toInt z.toInt) j = true := by unfold w_nm; rw [ho, q0]; rfl
        have r1 := x_ct_y q1
        have hl := ih (j + 1) (by omega) I2 J2 (hex.tr h2)
        rw [← r1] at hl
        exact hl
      · refine v_istore (ls' := [_, _, _, _, _, _, _, _]) d_X12_notMet_45 (by decide) rfl ?_
        refine v_iload d_X12_notMet_47 rfl ?_
        refine v_iload d_X12_notMet_49 rfl ?_
        refine v_bipush (v := (-9)) d_X12_notMet_51 x_bp_m9 ?_
        refine w_icmp_eq d_X12_notMet_53 (fun a53 => False.elim (by rw [x_ti (by omega), t9] at a53; omega)) (fun a53 => ?_)
        have hsZ : s < m_ns Z := by rw [← x_ns_cg hex]; exact hs
        have hs10 : s < 10 := by omega
        have hx2 := hex.tr h2
        refine v_aload_n d_X12_notMet_56 rfl ?_
        refine v_iload d_X12_notMet_57 rfl ?_
        refine v_cv (as := [_]) (rest := [_]) d_X12_notMet_59 lv_X12_217_12 (hS _ _ rfl) rfl ⟨by decide, by decide⟩ rfl (Nat.le_of_ble_eq_true rfl) (by decide) (by decide) ?_
        refine t_X12_colourAt s c rfl hs10 hc64 hS hP ?_
        rw [hx2.i 42 (64 * s + c) rfl]
        refine v_aload_n d_X12_notMet_62 rfl ?_
        refine v_gr d_X12_notMet_63 lf_X12_22_12 rfl (hS _ _ rfl) (hP _ _ _ rfl) ?_
        refine v_bipush (v := nI 64) d_X12_notMet_66 x_bp_64 ?_
        refine v_iload_n d_X12_notMet_68 rfl ?_
        first | refine v_imulN d_X12_notMet_69 ?_ | refine v_imul d_X12_notMet_69 ?_
        refine v_iload d_X12_notMet_70 rfl ?_
        first | refine v_iaddN d_X12_notMet_72 ?_ | refine v_iadd d_X12_notMet_72 ?_
        refine v_iald _ d_X12_notMet_73 (rfl) (hS _ _ rfl) (⟨by omega, by omega⟩) (hx2.i 44 (64 * e + j) rfl) ?_
        refine w_icmp_eq d_X12_notMet_74 (fun a74 => ?_) (fun a74 => ?_)
        · refine v_iconst (v := nI 0) d_X12_notMet_81 x_ic_0 ?_
          first | refine v_iaddN d_X12_notMet_82 ?_ | refine v_iadd d_X12_notMet_82 ?_
          refine v_istore (ls' := [_, _, _, _, _, _, _, _]) d_X12_notMet_83 (by decide) rfl ?_
          first | refine v_iinc (ls' := [_, _, _, _, _, _, _, _]) d_X12_notMet_85 rfl (x_inc_1 _) (by decide) rfl ?_ | refine v_iinc (ls' := [_, _, _, _, _, _, _, _]) d_X12_notMet_85 rfl rfl (by decide) rfl ?_
          refine v_goto d_X12_notMet_88 ?_
          refine x_V.fg1 7 (ls' := [_, _, _, _, _, _, _, _]) rfl ?_
          rw [r_seen_cg hex hpl hbo (by omega) hfo] at ho
          have q0 : w_is Z e j = true := by unfold w_is; rw [← hpI]; exact decide_eq_true a29
          have q1 : (w_nm Z e x.toInt y.toInt z.toInt) j = false := by unfold w_nm; rw [ho, q0]; show (!decide _) = _; rw [decide_eq_true a74]; rfl
          have r1 := x_ct_n q1
          have hl := ih (j + 1) (by omega) I2 J2 (hex.tr h2)
          rw [← r1] at hl
          exact hl
        · refine v_iconst (v := nI 1) d_X12_notMet_77 x_ic_1 ?_
          refine v_goto d_X12_notMet_78 ?_
          first | refine v_iaddN d_X12_notMet_82 ?_ | refine v_iadd d_X12_notMet_82 ?_
          refine v_istore (ls' := [_, _, _, _, _, _, _, _]) d_X12_notMet_83 (by decide) rfl ?_
          first | refine v_iinc (ls' := [_, _, _, _, _, _, _, _]) d_X12_notMet_85 rfl (x_inc_1 _) (by decide) rfl ?_ | refine v_iinc (ls' := [_, _, _, _, _, _, _, _]) d_X12_notMet_85 rfl rfl (by decide) rfl ?_
          refine v_goto d_X12_notMet_88 ?_
          refine x_V.fg1 7 (ls' := [_, _, _, _, _, _, _, _]) rfl ?_
          rw [r_seen_cg hex hpl hbo (by omega) hfo] at ho
          have q0 : w_is Z e j = true := by unfold w_is; rw [← hpI]; exact decide_eq_true a29
          have q1 : (w_nm Z e x.toInt y.toInt z.toInt) j = true := by unfold w_nm; rw [ho, q0]; show (!decide _) = _; rw [decide_eq_false a74]; rfl
          have r1 := x_ct_y q1
          have hl := ih (j + 1) (by omega) I2 J2 (hex.tr h2)
          rw [← r1] at hl
          exact hl
    · try simp (disch := omega) only [x_ti, x_tm1] at a29
      refine v_goto d_X12_notMet_32 ?_
      first | refine v_iinc (ls' := [_, _, _, _, _, _, _, _]) d_X12_notMet_85 rfl (x_inc_1 _) (by decide) rfl ?_ | refine v_iinc (ls' := [_, _, _, _, _, _, _, _]) d_X12_notMet_85 rfl rfl (by decide) rfl ?_
      refine v_goto d_X12_notMet_88 ?_
      have q0 : w_is Z e j = false := by unfold w_is; rw [← hpI]; exact decide_eq_false (fun z => z a29)
      have q1 : (w_nm Z e x.toInt y.toInt z.toInt) j = false := by unfold w_nm; rw [q0]; rfl
      have r1 := x_ct_n q1
      have hl := ih (j + 1) (by omega) I J hex
      rw [← r1] at hl
      exact hl

set_option maxRecDepth 100000 in
set_option maxHeartbeats 4000000 in
theorem t_X12_notMet {K : x_K} {S : x_S} {P : x_P} {I : x_I} {J : x_J} {n : Nat} {w x y z : Int32} (e : Nat) (hw : w = nI e) (he : e < 4) (hpl : g_pl x y z) (hbo : m_fo I 10) (hn : 0 ≤ (I 39 2).toInt ∧ (I 39 2).toInt ≤ 10) (hfo : ∀ s, s < m_ns I → m_fo I s) (hS : x_hS S) (hP : x_hP P) (hK : ∀ (I' : x_I) (J' : x_J), x_ex mE I I' J J' → K (some (.int (nI (x_ct (w_nm I e x.toInt y.toInt z.toInt) (m_ce I 10).toNat)))) S P I' J' n) : x_Call f_X12_notMet [.ref 39, .int w, .int x, .int y, .int z] K S P I J n := by
  subst hw
  have hc := m_ce_in hbo
  refine x_intro (by decide) 3 (ls := [_, _, _, _, _, _, _, _]) rfl (Nat.le_of_ble_eq_true rfl) ?_
  refine v_iconst (v := nI 0) d_X12_notMet_0 x_ic_0 ?_
  refine v_istore (ls' := [_, _, _, _, _, _, _, _]) d_X12_notMet_1 (by decide) rfl ?_
  refine v_iconst (v := nI 0) d_X12_notMet_3 x_ic_0 ?_
  refine v_istore (ls' := [_, _, _, _, _, _, _, _]) d_X12_notMet_4 (by decide) rfl ?_
  exact l_X12_notMet I J (m_ce I 10).toNat e he (by omega) (by omega) hpl hbo hn hfo hS hP hK (m_ce I 10).toNat 0 (by omega) I J x_ex.rf

