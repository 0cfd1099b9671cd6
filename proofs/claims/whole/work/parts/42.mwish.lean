set_option maxRecDepth 100000 in
set_option maxHeartbeats 4000000 in
theorem t_X12_colourAt {K : x_K} {S : x_S} {P : x_P} {I : x_I} {J : x_J} {n : Nat} {x : Int32} (s c : Nat) (hx : x = nI (100 * s + c)) (hs : s < 10) (hc : c < 64) (hS : x_hS S) (hP : x_hP P) (hK : K (some (.int (I 42 (64 * s + c)))) S P I J n) : x_Call f_X12_colourAt [.ref 39, .int x] K S P I J n := by
  subst hx
  have d1 : (100 * s + c) / 100 = s := by omega
  have d2 : (100 * s + c) % 100 = c := by omega
  refine x_intro (by decide) 0 (ls := [_, _]) rfl (Nat.le_of_ble_eq_true rfl) ?_
  refine v_aload_n d_X12_colourAt_0 rfl ?_
  refine v_gr d_X12_colourAt_1 lf_X12_16_12 rfl (hS _ _ rfl) (hP _ _ _ rfl) ?_
  refine v_bipush (v := nI 64) d_X12_colourAt_4 x_bp_64 ?_
  refine v_iload_n d_X12_colourAt_6 rfl ?_
  refine v_bipush (v := nI 100) d_X12_colourAt_7 x_bp_100 ?_
  refine v_idiv d_X12_colourAt_9 (by decide) ?_
  rw [x_divN (by omega) (by decide) (by decide), d1]
  first | refine v_imulN d_X12_colourAt_10 ?_ | refine v_imul d_X12_colourAt_10 ?_
  refine v_iload_n d_X12_colourAt_11 rfl ?_
  refine v_bipush (v := nI 100) d_X12_colourAt_12 x_bp_100 ?_
  refine v_irem d_X12_colourAt_14 (by decide) ?_
  rw [x_remN (by omega) (by decide) (by decide), d2]
  first | refine v_iaddN d_X12_colourAt_15 ?_ | refine v_iadd d_X12_colourAt_15 ?_
  refine v_iald _ d_X12_colourAt_16 (rfl) (hS _ _ rfl) (⟨by omega, by omega⟩) (rfl) ?_
  refine v_ret (v := some (.int _)) d_X12_colourAt_17 rfl ⟨rfl, _, rfl, rfl⟩ (by decide) (by decide) ?_
  exact hK

set_option maxRecDepth 100000 in
set_option maxHeartbeats 4000000 in
theorem t_X12_seenBy2 {K : x_K} {S : x_S} {P : x_P} {I : x_I} {J : x_J} {n : Nat} {x c : Int32} (e j : Nat) (hx : x = nI e) (he : e < 4) (hc : c = nI j) (hes : g_es I) (hbo : m_fo I 10) (hj : (j : Int) < m_ce I 10) (hn : 0 ≤ (I 39 2).toInt ∧ (I 39 2).toInt ≤ 10) (hfo : ∀ s, s < m_ns I → m_fo I s) (hS : x_hS S) (hP : x_hP P)
    (h1 : (r_sby I e j).1 = none → ∀ (I' : x_I) (J' : x_J), x_ex mE I I' J J' → K (some (.int (-9))) S P I' J' n) (h2 : ∀ s c : Nat, (r_sby I e j).1 = some (s, c) → s < m_ns I → (c : Int) < m_ce I s → c < 64 → r_tb I s c = false → ∀ (I' : x_I) (J' : x_J), x_ex mE I I' J J' → K (some (.int (nI (100 * s + c)))) S P I' J' n) : x_Call f_X12_seenBy [.ref 39, .int x, .int c] K S P I J n := by
  refine t_X12_seenBy e j hx he hc hes hbo hj hn hfo hS hP (fun I' J' h => ?_)
  cases ho : (r_sby I e j).1 with
  | none => exact h1 ho I' J' h
  | some v =>
    obtain ⟨s, c⟩ := v
    have hin := r_sby_in he hes hbo hj hfo ho
    exact h2 s c ho hin.1 hin.2.1 hin.2.2.1 hin.2.2.2 I' J' h
theorem t_X12_seenFrom2 {K : x_K} {S : x_S} {P : x_P} {I : x_I} {J : x_J} {n : Nat} {x y z c : Int32} (j : Nat) (hc : c = nI j) (hpl : g_pl x y z) (hbo : m_fo I 10) (hj : (j : Int) < m_ce I 10) (hn : 0 ≤ (I 39 2).toInt ∧ (I 39 2).toInt ≤ 10) (hfo : ∀ s, s < m_ns I → m_fo I s) (hS : x_hS S) (hP : x_hP P)
    (h1 : (r_seen I x.toInt y.toInt z.toInt j).1 = none → ∀ (I' : x_I) (J' : x_J), x_ex mE I I' J J' → K (some (.int (-9))) S P I' J' n) (h2 : ∀ s c : Nat, (r_seen I x.toInt y.toInt z.toInt j).1 = some (s, c) → s < m_ns I → (c : Int) < m_ce I s → c < 64 → r_tb I s c = false → ∀ (I' : x_I) (J' : x_J), x_ex mE I I' J J' → K (some (.int (nI (100 * s + c)))) S P I' J' n) : x_Call f_X12_seenFrom [.ref 39, .int x, .int y, .int z, .int c] K S P I J n := by
  refine t_X12_seenFrom j hc hpl hbo hj hn hfo hS hP (fun I' J' h => ?_)
  cases ho : (r_seen I x.toInt y.toInt z.toInt j).1 with
  | none => exact h1 ho I' J' h
  | some v =>
    obtain ⟨s, c⟩ := v
    have hin := r_seen_in hpl hbo hj hfo ho
    exact h2 s c ho hin.1 hin.2.1 hin.2.2.1 hin.2.2.2 I' J' h

set_option maxRecDepth 100000 in
set_option maxHeartbeats 4000000 in
theorem l_X12_wishes_i {K : x_K} {S : x_S} {P : x_P} {n : Nat} {set what : Int32} (Z : x_I) (J0 : x_J) (N e A0 M0 B0 : Nat) (he : e < 4) (hN : (N : Int) = m_ce Z 10) (hN6 : N ≤ 64) (hbit : x_bt set e = 1) (hes : g_es Z) (hbo : m_fo Z 10) (hn : 0 ≤ (Z 39 2).toInt ∧ (Z 39 2).toInt ≤ 10) (hfo : ∀ s, s < m_ns Z → m_fo Z s) (hS : x_hS S) (hP : x_hP P)
    (hc : ∀ (I : x_I) (J : x_J), x_ex mE Z I J0 J → x_V f_X12_wishes K 155 [some (.ref 39), some (.int set), some (.int what), some (.int (nI N)), some (.int (nI (A0 + x_ct (w_is Z e) N))), some (.int (nI (M0 + x_ct (w_p1 Z e) N))), some (.int (nI (B0 + x_ct (w_p2 Z e) N))), some (.int (nI e)), some (.int (nI N)), none] [] S P I J n 0 0) :
    ∀ d j : Nat, j + d = N → ∀ (I : x_I) (J : x_J), x_ex mE Z I J0 J → x_V f_X12_wishes K 45 [some (.ref 39), some (.int set), some (.int what), some (.int (nI N)), some (.int (nI (A0 + x_ct (w_is Z e) j))), some (.int (nI (M0 + x_ct (w_p1 Z e) j))), some (.int (nI (B0 + x_ct (w_p2 Z e) j))), some (.int (nI e)), some (.int (nI j)), none] [] S P I J n 0 0 := by
  intro d
  have t9 : (-9 : Int32).toInt = -9 := by decide
  induction d with
  | zero =>
    intro j hd I J hex
    refine v_iload d_X12_wishes_45 rfl ?_
    refine v_iload_n d_X12_wishes_47 rfl ?_
    refine w_icmp_ge d_X12_wishes_48 (fun h48 => ?_) (fun h48 => False.elim (by (try simp (disch := omega) only [x_ti, x_tm1] at h48); omega))
    have e9 : j = N := by omega
    subst e9
    exact hc I J hex
  | succ d ih =>
    intro j hd I J hex
    have hbI := x_fo_cg hex hbo
    have hnI := x_hn_cg hex hn
    have hfI := x_fos_cg hex hfo
    have hcI := x_ce_cg hex 10
    have hpI := hex.i 44 (64 * e + j) rfl
    have h9 : m_ns I = (I 39 2).toInt.toNat := rfl
    refine v_iload d_X12_wishes_45 rfl ?_
    refine v_iload_n d_X12_wishes_47 rfl ?_
    refine w_icmp_ge d_X12_wishes_48 (fun h48 => False.elim (by (try simp (disch := omega) only [x_ti, x_tm1] at h48); omega)) (fun h48 => ?_)
    refine v_iload_n d_X12_wishes_51 rfl ?_
    refine v_iload d_X12_wishes_52 rfl ?_
    refine v_ishr d_X12_wishes_54 ?_
    refine v_iconst (v := nI 1) d_X12_wishes_55 x_ic_1 ?_
    refine v_iand d_X12_wishes_56 ?_
    refine v_iconst (v := nI 1) d_X12_wishes_57 x_ic_1 ?_
    refine w_icmp_ne d_X12_wishes_58 (fun a58 => False.elim (by exact a58 (by rw [show (nI 1).toInt = 1 by decide]; exact hbit))) (fun a58 => ?_)
    refine v_aload_n d_X12_wishes_61 rfl ?_
    refine v_gr d_X12_wishes_62 lf_X12_22_12 rfl (hS _ _ rfl) (hP _ _ _ rfl) ?_
    refine v_bipush (v := nI 64) d_X12_wishes_65 x_bp_64 ?_
    refine v_iload d_X12_wishes_67 rfl ?_
    first | refine v_imulN d_X12_wishes_69 ?_ | refine v_imul d_X12_wishes_69 ?_
    refine v_iload d_X12_wishes_70 rfl ?_
    first | refine v_iaddN d_X12_wishes_72 ?_ | refine v_iadd d_X12_wishes_72 ?_
    refine v_iald _ d_X12_wishes_73 (rfl) (hS _ _ rfl) (⟨by omega, by omega⟩) (rfl) ?_
    refine w_if_ne d_X12_wishes_74 (fun a74 => ?_) (fun a74 => ?_)
    · try simp (disch := omega) only [x_ti, x_tm1] at a74
      refine v_aload_n d_X12_wishes_80 rfl ?_
      refine v_iload d_X12_wishes_81 rfl ?_
      refine v_iload d_X12_wishes_83 rfl ?_
      refine v_cv (as := [_, _]) (rest := []) d_X12_wishes_85 lv_X12_210_12 (hS _ _ rfl) rfl ⟨by decide, by decide⟩ rfl (Nat.le_of_ble_eq_true rfl) (by decide) (by decide) ?_
      refine t_X12_seenBy2 e j rfl he rfl (g_es_cg hex hes) hbI (by omega) hnI hfI hS hP (fun ho I2 J2 h2 => ?_) (fun s c ho hs hcc hc64 htb I2 J2 h2 => ?_)
      · refine v_istore (ls' := [_, _, _, _, _, _, _, _, _, _]) d_X12_wishes_88 (by decide) rfl ?_
        first | refine v_iinc (ls' := [_, _, _, _, _, _, _, _, _, _]) d_X12_wishes_90 rfl (x_inc_1 _) (by decide) rfl ?_ | refine v_iinc (ls' := [_, _, _, _, _, _, _, _, _, _]) d_X12_wishes_90 rfl rfl (by decide) rfl ?_
        refine v_iload d_X12_wishes_93 rfl ?_
        refine v_iload d_X12_wishes_95 rfl ?_
        refine v_bipush (v := (-9)) d_X12_wishes_97 x_bp_m9 ?_
        refine w_icmp_ne d_X12_wishes_99 (fun a99 => absurd a99 (by decide)) (fun _ => ?_)
        refine v_iconst (v := nI 1) d_X12_wishes_102 x_ic_1 ?_
        refine v_goto d_X12_wishes_103 ?_
        first | refine v_iaddN d_X12_wishes_107 ?_ | refine v_iadd d_X12_wishes_107 ?_
        refine v_istore (ls' := [_, _, _, _, _, _, _, _, _, _]) d_X12_wishes_108 (by decide) rfl ?_
        refine v_iload d_X12_wishes_110 rfl ?_
        refine v_iload d_X12_wishes_112 rfl ?_
        refine v_bipush (v := (-9)) d_X12_wishes_114 x_bp_m9 ?_
        refine w_icmp_eq d_X12_wishes_116 (fun _ => ?_) (fun a116 => absurd a116 (by decide))
        refine v_iconst (v := nI 0) d_X12_wishes_145 x_ic_0 ?_
        first | refine v_iaddN d_X12_wishes_146 ?_ | refine v_iadd d_X12_wishes_146 ?_
        refine v_istore (ls' := [_, _, _, _, _, _, _, _, _, _]) d_X12_wishes_147 (by decide) rfl ?_
        first | refine v_iinc (ls' := [_, _, _, _, _, _, _, _, _, _]) d_X12_wishes_149 rfl (x_inc_1 _) (by decide) rfl ?_ | refine v_iinc (ls' := [_, _, _, _, _, _, _, _, _, _]) d_X12_wishes_149 rfl rfl (by decide) rfl ?_
        refine v_goto d_X12_wishes_152 ?_
        refine x_V.fg1 9 (ls' := [_, _, _, _, _, _, _, _, _, _]) rfl ?_
        rw [r_sby_cg hex he hes hbo (by omega) hfo] at ho
        have q0 : w_is Z e j = true := by unfold w_is; rw [← hpI]; exact decide_eq_true a74
        have r0 := x_ct_y q0
        have q1 : w_p1 Z e j = false := by unfold w_p1; rw [ho, q0]; rfl
        have q2 : w_p2 Z e j = true := by unfold w_p2; rw [ho, q0]; rfl
        have r1 := x_ct_n q1
        have r2 := x_ct_y q2
        have hl := ih (j + 1) (by omega) I2 J2 (hex.tr h2)
        rw [← r0, ← r1, ← r2] at hl
        exact hl
      · refine v_istore (ls' := [_, _, _, _, _, _, _, _, _, _]) d_X12_wishes_88 (by decide) rfl ?_
        first | refine v_iinc (ls' := [_, _, _, _, _, _, _, _, _, _]) d_X12_wishes_90 rfl (x_inc_1 _) (by decide) rfl ?_ | refine v_iinc (ls' := [_, _, _, _, _, _, _, _, _, _]) d_X12_wishes_90 rfl rfl (by decide) rfl ?_
        refine v_iload d_X12_wishes_93 rfl ?_
        refine v_iload d_X12_wishes_95 rfl ?_
        refine v_bipush (v := (-9)) d_X12_wishes_97 x_bp_m9 ?_
        refine w_icmp_ne d_X12_wishes_99 (fun a99 => ?_) (fun a99 => False.elim (by rw [x_ti (by omega), t9] at a99; omega))
        refine v_iconst (v := nI 0) d_X12_wishes_106 x_ic_0 ?_
        first | refine v_iaddN d_X12_wishes_107 ?_ | refine v_iadd d_X12_wishes_107 ?_
        refine v_istore (ls' := [_, _, _, _, _, _, _, _, _, _]) d_X12_wishes_108 (by decide) rfl ?_
        refine v_iload d_X12_wishes_110 rfl ?_
        refine v_iload d_X12_wishes_112 rfl ?_
        refine v_bipush (v := (-9)) d_X12_wishes_114 x_bp_m9 ?_
        refine w_icmp_eq d_X12_wishes_116 (fun a116 => False.elim (by rw [x_ti (by omega), t9] at a116; omega)) (fun a116 => ?_)
        have hsZ : s < m_ns Z := by rw [← x_ns_cg hex]; exact hs
        have hs10 : s < 10 := by unfold m_ns at hsZ; omega
        have hx2 := hex.tr h2
        refine v_aload_n d_X12_wishes_119 rfl ?_
        refine v_iload d_X12_wishes_120 rfl ?_
        refine v_cv (as := [_]) (rest := [_]) d_X12_wishes_122 lv_X12_217_12 (hS _ _ rfl) rfl ⟨by decide, by decide⟩ rfl (Nat.le_of_ble_eq_true rfl) (by decide) (by decide) ?_
        refine t_X12_colourAt s c rfl hs10 hc64 hS hP ?_
        rw [hx2.i 42 (64 * s + c) rfl]
        refine v_aload_n d_X12_wishes_125 rfl ?_
        refine v_gr d_X12_wishes_126 lf_X12_22_12 rfl (hS _ _ rfl) (hP _ _ _ rfl) ?_
        refine v_bipush (v := nI 64) d_X12_wishes_129 x_bp_64 ?_
        refine v_iload d_X12_wishes_131 rfl ?_
        first | refine v_imulN d_X12_wishes_133 ?_ | refine v_imul d_X12_wishes_133 ?_
        refine v_iload d_X12_wishes_134 rfl ?_
        first | refine v_iaddN d_X12_wishes_136 ?_ | refine v_iadd d_X12_wishes_136 ?_
        refine v_iald _ d_X12_wishes_137 (rfl) (hS _ _ rfl) (⟨by omega, by omega⟩) (hx2.i 44 (64 * e + j) rfl) ?_
        refine w_icmp_ne d_X12_wishes_138 (fun a138 => ?_) (fun a138 => ?_)
        · refine v_iconst (v := nI 0) d_X12_wishes_145 x_ic_0 ?_
          first | refine v_iaddN d_X12_wishes_146 ?_ | refine v_iadd d_X12_wishes_146 ?_
          refine v_istore (ls' := [_, _, _, _, _, _, _, _, _, _]) d_X12_wishes_147 (by decide) rfl ?_
          first | refine v_iinc (ls' := [_, _, _, _, _, _, _, _, _, _]) d_X12_wishes_149 rfl (x_inc_1 _) (by decide) rfl ?_ | refine v_iinc (ls' := [_, _, _, _, _, _, _, _, _, _]) d_X12_wishes_149 rfl rfl (by decide) rfl ?_
          refine v_goto d_X12_wishes_152 ?_
          refine x_V.fg1 9 (ls' := [_, _, _, _, _, _, _, _, _, _]) rfl ?_
          rw [r_sby_cg hex he hes hbo (by omega) hfo] at ho
          have q0 : w_is Z e j = true := by unfold w_is; rw [← hpI]; exact decide_eq_true a74
          have r0 := x_ct_y q0
          have q1 : w_p1 Z e j = false := by unfold w_p1; rw [ho, q0]; show decide _ = _; exact decide_eq_false a138
          have q2 : w_p2 Z e j = false := by unfold w_p2; rw [ho, q0]; rfl
          have r1 := x_ct_n q1
          have r2 := x_ct_n q2
          have hl := ih (j + 1) (by omega) I2 J2 (hex.tr h2)
          rw [← r0, ← r1, ← r2] at hl
          exact hl
        · refine v_iconst (v := nI 1) d_X12_wishes_141 x_ic_1 ?_
          refine v_goto d_X12_wishes_142 ?_
          first | refine v_iaddN d_X12_wishes_146 ?_ | refine v_iadd d_X12_wishes_146 ?_
          refine v_istore (ls' := [_, _, _, _, _, _, _, _, _, _]) d_X12_wishes_147 (by decide) rfl ?_
          first | refine v_iinc (ls' := [_, _, _, _, _, _, _, _, _, _]) d_X12_wishes_149 rfl (x_inc_1 _) (by decide) rfl ?_ | refine v_iinc (ls' := [_, _, _, _, _, _, _, _, _, _]) d_X12_wishes_149 rfl rfl (by decide) rfl ?_
          refine v_goto d_X12_wishes_152 ?_
          refine x_V.fg1 9 (ls' := [_, _, _, _, _, _, _, _, _, _]) rfl ?_
          rw [r_sby_cg hex he hes hbo (by omega) hfo] at ho
          have q0 : w_is Z e j = true := by unfold w_is; rw [← hpI]; exact decide_eq_true a74
          have r0 := x_ct_y q0
          have q1 : w_p1 Z e j = true := by unfold w_p1; rw [ho, q0]; show decide _ = _; exact decide_eq_true a138
          have q2 : w_p2 Z e j = false := by unfold w_p2; rw [ho, q0]; rfl
          have r1 := x_ct_y q1
          have r2 := x_ct_n q2
          have hl := ih (j + 1) (by omega) I2 J2 (hex.tr h2)
          rw [← r0, ← r1, ← r2] at hl
          exact hl
    · try simp (disch := omega) only [x_ti, x_tm1] at a74
      refine v_goto d_X12_wishes_77 ?_
      first | refine v_iinc (ls' := [_, _, _, _, _, _, _, _, _, _]) d_X12_wishes_149 rfl (x_inc_1 _) (by decide) rfl ?_ | refine v_iinc (ls' := [_, _, _, _, _, _, _, _, _, _]) d_X12_wishes_149 rfl rfl (by decide) rfl ?_
      refine v_goto d_X12_wishes_152 ?_
      have q0 : w_is Z e j = false := by unfold w_is; rw [← hpI]; exact decide_eq_false (fun z => z a74)
      have q1 : w_p1 Z e j = false := by unfold w_p1; rw [q0]; rfl
      have q2 : w_p2 Z e j = false := by unfold w_p2; rw [q0]; rfl
      have r0 := x_ct_n q0
      have r1 := x_ct_n q1
      have r2 := x_ct_n q2
      have hl := ih (j + 1) (by omega) I J hex
      rw [← r0, ← r1, ← r2] at hl
      exact hl

set_option maxRecDepth 100000 in
set_option maxHeartbeats 4000000 in
theorem l_X12_wishes_o {K : x_K} {S : x_S} {P : x_P} {n : Nat} {set what : Int32} (Z : x_I) (J0 : x_J) (N : Nat) (hN : (N : Int) = m_ce Z 10) (hN6 : N ≤ 64) (hN1 : 1 ≤ N) (hes : g_es Z) (hbo : m_fo Z 10) (hn : 0 ≤ (Z 39 2).toInt ∧ (Z 39 2).toInt ≤ 10) (hfo : ∀ s, s < m_ns Z → m_fo Z s) (hS : x_hS S) (hP : x_hP P)
    (hK : ∀ (I : x_I) (J : x_J), x_ex mE Z I J0 J → K (some (.int (q_wishes0 Z set what))) S P I J n) :
    ∀ d e : Nat, e + d = 4 → ∀ (I : x_I) (J : x_J), x_ex mE Z I J0 J → x_V f_X12_wishes K 36 [some (.ref 39), some (.int set), some (.int what), some (.int (nI N)), some (.int (nI (x_sm (w_sum Z (w_is Z) set) e))), some (.int (nI (x_sm (w_sum Z (w_p1 Z) set) e))), some (.int (nI (x_sm (w_sum Z (w_p2 Z) set) e))), some (.int (nI e)), none, none] [] S P I J n 0 0 := by
  intro d
  have t1 : (nI 1).toInt = 1 := by decide
  have hNN : (m_ce Z 10).toNat = N := by omega
  induction d with
  | zero =>
    intro e hd I J hex
    have e9 : e = 4 := by omega
    subst e9
    refine v_iload d_X12_wishes_36 rfl ?_
    refine v_iconst (v := nI 4) d_X12_wishes_38 x_ic_4 ?_
    refine w_icmp_ge d_X12_wishes_39 (fun h39 => ?_) (fun h39 => False.elim (by (try simp (disch := omega) only [x_ti, x_tm1] at h39); omega))
    refine v_iload_n d_X12_wishes_161 rfl ?_
    refine w_if_ne d_X12_wishes_162 (fun a162 => ?_) (fun a162 => ?_)
    · try simp (disch := omega) only [x_ti, x_tm1] at a162
      refine v_iload_n d_X12_wishes_170 rfl ?_
      refine v_iconst (v := nI 1) d_X12_wishes_171 x_ic_1 ?_
      refine w_icmp_ne d_X12_wishes_172 (fun a172 => ?_) (fun a172 => ?_)
      · try simp (disch := omega) only [x_ti, x_tm1] at a172
        refine v_iload_n d_X12_wishes_180 rfl ?_
        refine v_iconst (v := nI 2) d_X12_wishes_181 x_ic_2 ?_
        refine w_icmp_ne d_X12_wishes_182 (fun a182 => ?_) (fun a182 => ?_)
        · try simp (disch := omega) only [x_ti, x_tm1] at a182
          refine v_iload d_X12_wishes_190 rfl ?_
          refine v_iload d_X12_wishes_192 rfl ?_
          refine v_isub d_X12_wishes_194 ?_
          refine v_iload d_X12_wishes_195 rfl ?_
          refine v_isub d_X12_wishes_197 ?_
          refine v_ret (v := some (.int _)) d_X12_wishes_198 rfl ⟨rfl, _, rfl, rfl⟩ (by decide) (by decide) ?_
          first
            | (have e0 : what.toInt = 0 := by omega
               simp only [q_wishes0, x_if_t e0] at hK
               exact hK I J hex)
            | (have e0 : ¬ what.toInt = 0 := by omega
               have e1 : what.toInt = 1 := by omega
               simp only [q_wishes0, x_if_f e0, x_if_t e1] at hK
               exact hK I J hex)
            | (have e0 : ¬ what.toInt = 0 := by omega
               have e1 : ¬ what.toInt = 1 := by omega
               have e2 : what.toInt = 2 := by omega
               simp only [q_wishes0, x_if_f e0, x_if_f e1, x_if_t e2] at hK
               exact hK I J hex)
            | (have e0 : ¬ what.toInt = 0 := by omega
               have e1 : ¬ what.toInt = 1 := by omega
               have e2 : ¬ what.toInt = 2 := by omega
               simp only [q_wishes0, x_if_f e0, x_if_f e1, x_if_f e2] at hK
               exact hK I J hex)
        · try simp (disch := omega) only [x_ti, x_tm1] at a182
          refine v_iload d_X12_wishes_185 rfl ?_
          refine v_goto d_X12_wishes_187 ?_
          refine v_ret (v := some (.int _)) d_X12_wishes_198 rfl ⟨rfl, _, rfl, rfl⟩ (by decide) (by decide) ?_
          first
            | (have e0 : what.toInt = 0 := by omega
               simp only [q_wishes0, x_if_t e0] at hK
               exact hK I J hex)
            | (have e0 : ¬ what.toInt = 0 := by omega
               have e1 : what.toInt = 1 := by omega
               simp only [q_wishes0, x_if_f e0, x_if_t e1] at hK
               exact hK I J hex)
            | (have e0 : ¬ what.toInt = 0 := by omega
               have e1 : ¬ what.toInt = 1 := by omega
               have e2 : what.toInt = 2 := by omega
               simp only [q_wishes0, x_if_f e0, x_if_f e1, x_if_t e2] at hK
               exact hK I J hex)
            | (have e0 : ¬ what.toInt = 0 := by omega
               have e1 : ¬ what.toInt = 1 := by omega
               have e2 : ¬ what.toInt = 2 := by omega
               simp only [q_wishes0, x_if_f e0, x_if_f e1, x_if_f e2] at hK
               exact hK I J hex)
      · try simp (disch := omega) only [x_ti, x_tm1] at a172
        refine v_iload d_X12_wishes_175 rfl ?_
        refine v_goto d_X12_wishes_177 ?_
        refine v_ret (v := some (.int _)) d_X12_wishes_198 rfl ⟨rfl, _, rfl, rfl⟩ (by decide) (by decide) ?_
        first
          | (have e0 : what.toInt = 0 := by omega
             simp only [q_wishes0, x_if_t e0] at hK
             exact hK I J hex)
          | (have e0 : ¬ what.toInt = 0 := by omega
             have e1 : what.toInt = 1 := by omega
             simp only [q_wishes0, x_if_f e0, x_if_t e1] at hK
             exact hK I J hex)
          | (have e0 : ¬ what.toInt = 0 := by omega
             have e1 : ¬ what.toInt = 1 := by omega
             have e2 : what.toInt = 2 := by omega
             simp only [q_wishes0, x_if_f e0, x_if_f e1, x_if_t e2] at hK
             exact hK I J hex)
          | (have e0 : ¬ what.toInt = 0 := by omega
             have e1 : ¬ what.toInt = 1 := by omega
             have e2 : ¬ what.toInt = 2 := by omega
             simp only [q_wishes0, x_if_f e0, x_if_f e1, x_if_f e2] at hK
             exact hK I J hex)
    · try simp (disch := omega) only [x_ti, x_tm1] at a162
      refine v_iload d_X12_wishes_165 rfl ?_
      refine v_goto d_X12_wishes_167 ?_
      refine v_ret (v := some (.int _)) d_X12_wishes_198 rfl ⟨rfl, _, rfl, rfl⟩ (by decide) (by decide) ?_
      first
        | (have e0 : what.toInt = 0 := by omega
           simp only [q_wishes0, x_if_t e0] at hK
           exact hK I J hex)
        | (have e0 : ¬ what.toInt = 0 := by omega
           have e1 : what.toInt = 1 := by omega
           simp only [q_wishes0, x_if_f e0, x_if_t e1] at hK
           exact hK I J hex)
        | (have e0 : ¬ what.toInt = 0 := by omega
           have e1 : ¬ what.toInt = 1 := by omega
           have e2 : what.toInt = 2 := by omega
           simp only [q_wishes0, x_if_f e0, x_if_f e1, x_if_t e2] at hK
           exact hK I J hex)
        | (have e0 : ¬ what.toInt = 0 := by omega
           have e1 : ¬ what.toInt = 1 := by omega
           have e2 : ¬ what.toInt = 2 := by omega
           simp only [q_wishes0, x_if_f e0, x_if_f e1, x_if_f e2] at hK
           exact hK I J hex)
  | succ d ih =>
    intro e hd I J hex
    by_cases hbit : x_bt set e = 1
    · refine v_iload d_X12_wishes_36 rfl ?_
      refine v_iconst (v := nI 4) d_X12_wishes_38 x_ic_4 ?_
      refine w_icmp_ge d_X12_wishes_39 (fun h39 => False.elim (by (try simp (disch := omega) only [x_ti, x_tm1] at h39); omega)) (fun h39 => ?_)
      refine v_iconst (v := nI 0) d_X12_wishes_42 x_ic_0 ?_
      refine v_istore (ls' := [_, _, _, _, _, _, _, _, _, _]) d_X12_wishes_43 (by decide) rfl ?_
      refine l_X12_wishes_i Z J0 N e _ _ _ (by omega) hN hN6 hbit hes hbo hn hfo hS hP ?_ N 0 (by omega) I J hex
      intro I2 J2 hx2
      have w_w_is : w_sum Z (w_is Z) set e = x_ct (w_is Z e) N := by unfold w_sum; rw [if_pos hbit, hNN]
      have w_w_p1 : w_sum Z (w_p1 Z) set e = x_ct (w_p1 Z e) N := by unfold w_sum; rw [if_pos hbit, hNN]
      have w_w_p2 : w_sum Z (w_p2 Z) set e = x_ct (w_p2 Z e) N := by unfold w_sum; rw [if_pos hbit, hNN]
      first | refine v_iinc (ls' := [_, _, _, _, _, _, _, _, _, _]) d_X12_wishes_155 rfl (x_inc_1 _) (by decide) rfl ?_ | refine v_iinc (ls' := [_, _, _, _, _, _, _, _, _, _]) d_X12_wishes_155 rfl rfl (by decide) rfl ?_
      refine v_goto d_X12_wishes_158 ?_
      refine x_V.fg1 8 (ls' := [_, _, _, _, _, _, _, _, _, _]) rfl ?_
      have hl := ih (e + 1) (by omega) I2 J2 hx2
      rw [x_sm_s, x_sm_s, x_sm_s, w_w_is, w_w_p1, w_w_p2] at hl
      exact hl
    · refine v_iload d_X12_wishes_36 rfl ?_
      refine v_iconst (v := nI 4) d_X12_wishes_38 x_ic_4 ?_
      refine w_icmp_ge d_X12_wishes_39 (fun h39 => False.elim (by (try simp (disch := omega) only [x_ti, x_tm1] at h39); omega)) (fun h39 => ?_)
      refine v_iconst (v := nI 0) d_X12_wishes_42 x_ic_0 ?_
      refine v_istore (ls' := [_, _, _, _, _, _, _, _, _, _]) d_X12_wishes_43 (by decide) rfl ?_
      refine v_iload d_X12_wishes_45 rfl ?_
      refine v_iload_n d_X12_wishes_47 rfl ?_
      refine w_icmp_ge d_X12_wishes_48 (fun h48 => False.elim (by (try simp (disch := omega) only [x_ti, x_tm1] at h48); omega)) (fun h48 => ?_)
      refine v_iload_n d_X12_wishes_51 rfl ?_
      refine v_iload d_X12_wishes_52 rfl ?_
      refine v_ishr d_X12_wishes_54 ?_
      refine v_iconst (v := nI 1) d_X12_wishes_55 x_ic_1 ?_
      refine v_iand d_X12_wishes_56 ?_
      refine v_iconst (v := nI 1) d_X12_wishes_57 x_ic_1 ?_
      refine w_icmp_ne d_X12_wishes_58 (fun a58 => ?_) (fun a58 => False.elim (by rw [t1] at a58; exact hbit a58))
      first | refine v_iinc (ls' := [_, _, _, _, _, _, _, _, _, _]) d_X12_wishes_155 rfl (x_inc_1 _) (by decide) rfl ?_ | refine v_iinc (ls' := [_, _, _, _, _, _, _, _, _, _]) d_X12_wishes_155 rfl rfl (by decide) rfl ?_
      refine v_goto d_X12_wishes_158 ?_
      refine x_V.fg1 8 (ls' := [_, _, _, _, _, _, _, _, _, _]) rfl ?_
      have w_w_is : w_sum Z (w_is Z) set e = 0 := by unfold w_sum; rw [if_neg hbit]
      have w_w_p1 : w_sum Z (w_p1 Z) set e = 0 := by unfold w_sum; rw [if_neg hbit]
      have w_w_p2 : w_sum Z (w_p2 Z) set e = 0 := by unfold w_sum; rw [if_neg hbit]
      have hl := ih (e + 1) (by omega) I J hex
      rw [x_sm_s, x_sm_s, x_sm_s, w_w_is, w_w_p1, w_w_p2] at hl
      exact hl

set_option maxRecDepth 100000 in
set_option maxHeartbeats 4000000 in
theorem t_X12_wishes {K : x_K} {S : x_S} {P : x_P} {I : x_I} {J : x_J} {n : Nat} {set what : Int32} (hes : g_es (m_nb I)) (hbo : m_fo (m_nb I) 10) (hn : 0 ≤ (m_nb I 39 2).toInt ∧ (m_nb I 39 2).toInt ≤ 10) (hfo : ∀ s, s < m_ns (m_nb I) → m_fo (m_nb I) s) (hS : x_hS S) (hP : x_hP P) (hK : ∀ (I' : x_I) (J' : x_J), x_ex mE (z_wishes I set what) I' J J' → K (some (.int (q_wishes I set what))) S P I' J' n) : x_Call f_X12_wishes [.ref 39, .int set, .int what] K S P I J n := by
  have hc := m_ce_in hbo
  have hcb : (m_nb I 41 64 * m_nb I 41 65).toInt = m_ce (m_nb I) 10 := rfl
  refine x_intro (by decide) 7 (ls := [_, _, _, _, _, _, _, _, _, _]) rfl (Nat.le_of_ble_eq_true rfl) ?_
  refine v_iload_n d_X12_wishes_0 rfl ?_
  refine v_cs (as := [_]) (rest := []) d_X12_wishes_1 ls_X12_214 rfl ⟨by decide, by decide⟩ rfl (Nat.le_of_ble_eq_true rfl) (by decide) (by decide) ?_
  refine t_X12_areEyes (fun q => ?_) (fun q => ?_)
  · refine w_if_eq d_X12_wishes_4 (fun h4 => absurd h4 (by decide)) (fun _ => ?_)
    refine v_iload_n d_X12_wishes_7 rfl ?_
    refine v_iconst (v := nI 0) d_X12_wishes_8 x_ic_0 ?_
    refine v_iconst (v := nI 3) d_X12_wishes_9 x_ic_3 ?_
    refine v_cs (as := [_, _, _]) (rest := []) d_X12_wishes_10 ls_X12_90 rfl ⟨by decide, by decide⟩ rfl (Nat.le_of_ble_eq_true rfl) (by decide) (by decide) ?_
    refine t_X12_within (x_ti (k := 0) (by decide)) (x_ti (k := 3) (by decide)) (fun q2 => ?_) (fun q2 => ?_)
    · refine w_if_ne d_X12_wishes_13 (fun _ => ?_) (fun h13 => absurd h13 (by decide))
      refine v_aload_n d_X12_wishes_19 rfl ?_
      refine v_cv (as := []) (rest := []) d_X12_wishes_20 lv_X12_138_12 (hS _ _ rfl) rfl ⟨by decide, by decide⟩ rfl (Nat.le_of_ble_eq_true rfl) (by decide) (by decide) ?_
      refine t_X12_boardCells hS hP ?_
      rw [show m_nb I 41 64 * m_nb I 41 65 = nI (m_ce (m_nb I) 10).toNat from x_of' (by omega)]
      refine v_istore_n (ls' := [_, _, _, _, _, _, _, _, _, _]) d_X12_wishes_23 (by decide) rfl ?_
      refine v_iconst (v := nI 0) d_X12_wishes_24 x_ic_0 ?_
      refine v_istore (ls' := [_, _, _, _, _, _, _, _, _, _]) d_X12_wishes_25 (by decide) rfl ?_
      refine v_iconst (v := nI 0) d_X12_wishes_27 x_ic_0 ?_
      refine v_istore (ls' := [_, _, _, _, _, _, _, _, _, _]) d_X12_wishes_28 (by decide) rfl ?_
      refine v_iconst (v := nI 0) d_X12_wishes_30 x_ic_0 ?_
      refine v_istore (ls' := [_, _, _, _, _, _, _, _, _, _]) d_X12_wishes_31 (by decide) rfl ?_
      refine v_iconst (v := nI 0) d_X12_wishes_33 x_ic_0 ?_
      refine v_istore (ls' := [_, _, _, _, _, _, _, _, _, _]) d_X12_wishes_34 (by decide) rfl ?_
      have e0 : (0 ≤ set.toInt ∧ set.toInt ≤ 15) ∧ 0 ≤ what.toInt ∧ what.toInt ≤ 3 := ⟨q, by omega⟩
      simp only [q_wishes, z_wishes, x_if_t e0] at hK
      exact l_X12_wishes_o (m_nb I) J (m_ce (m_nb I) 10).toNat (by omega) (by omega) (by omega) hes hbo hn hfo hS hP hK 4 0 rfl (m_nb I) J x_ex.rf
    · refine w_if_ne d_X12_wishes_13 (fun h13 => absurd h13 (by decide)) (fun _ => ?_)
      refine v_bipush (v := (-2)) d_X12_wishes_16 x_bp_m2 ?_
      refine v_ret (v := some (.int _)) d_X12_wishes_18 rfl ⟨rfl, _, rfl, rfl⟩ (by decide) (by decide) ?_
      have e0 : ¬ ((0 ≤ set.toInt ∧ set.toInt ≤ 15) ∧ 0 ≤ what.toInt ∧ what.toInt ≤ 3) := by omega
      simp only [q_wishes, z_wishes, x_if_f e0] at hK
      exact hK I J x_ex.rf
  · refine w_if_eq d_X12_wishes_4 (fun _ => ?_) (fun h4 => absurd h4 (by decide))
    refine v_bipush (v := (-2)) d_X12_wishes_16 x_bp_m2 ?_
    refine v_ret (v := some (.int _)) d_X12_wishes_18 rfl ⟨rfl, _, rfl, rfl⟩ (by decide) (by decide) ?_
    have e0 : ¬ ((0 ≤ set.toInt ∧ set.toInt ≤ 15) ∧ 0 ≤ what.toInt ∧ what.toInt ≤ 3) := by omega
    simp only [q_wishes, z_wishes, x_if_f e0] at hK
    exact hK I J x_ex.rf

