set_option maxRecDepth 100000 in
set_option maxHeartbeats 4000000 in
theorem l_X12_paint_i {K : x_K} {S : x_S} {P : x_P} {n : Nat} {set wv : Int32} (Z : x_I) (J0 : x_J) (V0 : Nat → Nat) (N e : Nat) (he : e < 4) (hN : (N : Int) = m_ce Z 10) (hN6 : N ≤ 64) (hbit : x_bt set e = 1) (hes : g_es Z) (hpc : g_pc Z) (hbo : m_fo Z 10) (hn : 0 ≤ (Z 39 2).toInt ∧ (Z 39 2).toInt ≤ 10) (hfo : ∀ s, s < m_ns Z → m_fo Z s) (hS : x_hS S) (hP : x_hP P)
    (hc : ∀ (I : x_I) (J : x_J), x_ex mF Z I J0 J → (∀ a, a < 6400 → I 51 a = nI (V0 a + x_ct (v_at Z a e) N)) → x_V f_X12_painting K 157 [some (.ref 39), some (.int set), some (.int wv), some (.int (nI N)), some (.int (nI e)), some (.int (nI N)), none] [] S P I J n 0 0) :
    ∀ d j : Nat, j + d = N → ∀ (I : x_I) (J : x_J), x_ex mF Z I J0 J → (∀ a, a < 6400 → I 51 a = nI (V0 a + x_ct (v_at Z a e) j)) → x_V f_X12_painting K 57 [some (.ref 39), some (.int set), some (.int wv), some (.int (nI N)), some (.int (nI e)), some (.int (nI j)), none] [] S P I J n 0 0 := by
  intro d
  have t9 : (-9 : Int32).toInt = -9 := by decide
  induction d with
  | zero =>
    intro j hd I J hex hv
    refine v_iload d_X12_painting_57 rfl ?_
    refine v_iload_n d_X12_painting_59 rfl ?_
    refine w_icmp_ge d_X12_painting_60 (fun h60 => ?_) (fun h60 => False.elim (by (try simp (disch := omega) only [x_ti, x_tm1] at h60); omega))
    have e9 : j = N := by omega
    subst e9
    exact hc I J hex hv
  | succ d ih =>
    intro j hd I J hex hv
    have hbI := x_fo_cgF hex hbo
    have hnI := x_hn_cgF hex hn
    have hfI := x_fos_cgF hex hfo
    have hcI := x_ce_cgF hex 10
    have hpI := hex.i 44 (64 * e + j) rfl
    have h9 : m_ns I = (I 39 2).toInt.toNat := rfl
    have hpz := hpc (64 * e + j) (by omega)
    obtain ⟨p, hp, hp1, hp2, hp3⟩ := x_ex1 (s := Z 44 (64 * e + j)) (by omega)
    refine v_iload d_X12_painting_57 rfl ?_
    refine v_iload_n d_X12_painting_59 rfl ?_
    refine w_icmp_ge d_X12_painting_60 (fun h60 => False.elim (by (try simp (disch := omega) only [x_ti, x_tm1] at h60); omega)) (fun h60 => ?_)
    refine v_iload_n d_X12_painting_63 rfl ?_
    refine v_iload d_X12_painting_64 rfl ?_
    refine v_ishr d_X12_painting_66 ?_
    refine v_iconst (v := nI 1) d_X12_painting_67 x_ic_1 ?_
    refine v_iand d_X12_painting_68 ?_
    refine v_iconst (v := nI 1) d_X12_painting_69 x_ic_1 ?_
    refine w_icmp_ne d_X12_painting_70 (fun a70 => False.elim (by exact a70 (by rw [show (nI 1).toInt = 1 by decide]; exact hbit))) (fun a70 => ?_)
    refine v_aload_n d_X12_painting_73 rfl ?_
    refine v_gr d_X12_painting_74 lf_X12_22_12 rfl (hS _ _ rfl) (hP _ _ _ rfl) ?_
    refine v_bipush (v := nI 64) d_X12_painting_77 x_bp_64 ?_
    refine v_iload d_X12_painting_79 rfl ?_
    first | refine v_imulN d_X12_painting_81 ?_ | refine v_imul d_X12_painting_81 ?_
    refine v_iload d_X12_painting_82 rfl ?_
    first | refine v_iaddN d_X12_painting_84 ?_ | refine v_iadd d_X12_painting_84 ?_
    refine v_iald _ d_X12_painting_85 (rfl) (hS _ _ rfl) (⟨by omega, by omega⟩) (rfl) ?_
    refine w_if_ne d_X12_painting_86 (fun a86 => ?_) (fun a86 => ?_)
    · try simp (disch := omega) only [x_ti, x_tm1] at a86
      refine v_aload_n d_X12_painting_94 rfl ?_
      refine v_iload d_X12_painting_95 rfl ?_
      refine v_iload d_X12_painting_97 rfl ?_
      refine v_cv (as := [_, _]) (rest := []) d_X12_painting_99 lv_X12_210_12 (hS _ _ rfl) rfl ⟨by decide, by decide⟩ rfl (Nat.le_of_ble_eq_true rfl) (by decide) (by decide) ?_
      refine t_X12_seenBy2 e j rfl he rfl (g_es_cgF hex hes) hbI (by omega) hnI hfI hS hP (fun ho I2 J2 h2 => ?_) (fun s c ho hs hcc hc64 htb I2 J2 h2 => ?_)
      · refine v_istore (ls' := [_, _, _, _, _, _, _]) d_X12_painting_102 (by decide) rfl ?_
        refine v_iload d_X12_painting_104 rfl ?_
        refine v_bipush (v := (-9)) d_X12_painting_106 x_bp_m9 ?_
        refine w_icmp_eq d_X12_painting_108 (fun _ => ?_) (fun a108 => absurd a108 (by decide))
        first | refine v_iinc (ls' := [_, _, _, _, _, _, _]) d_X12_painting_151 rfl (x_inc_1 _) (by decide) rfl ?_ | refine v_iinc (ls' := [_, _, _, _, _, _, _]) d_X12_painting_151 rfl rfl (by decide) rfl ?_
        refine v_goto d_X12_painting_154 ?_
        refine x_V.fg1 6 (ls' := [_, _, _, _, _, _, _]) rfl ?_
        rw [r_sby_cgF hex he hes hbo (by omega) hfo] at ho
        refine ih (j + 1) (by omega) I2 J2 (hex.tr h2.up) (fun a ha => ?_)
        have q1 : v_at Z a e j = false := by unfold v_at; rw [ho]; exact Bool.and_false _
        have r1 := x_ct_n q1
        rw [← r1, Nat.add_zero]
        exact (h2.i 51 _ rfl).trans (hv a ha)
      · refine v_istore (ls' := [_, _, _, _, _, _, _]) d_X12_painting_102 (by decide) rfl ?_
        refine v_iload d_X12_painting_104 rfl ?_
        refine v_bipush (v := (-9)) d_X12_painting_106 x_bp_m9 ?_
        refine w_icmp_eq d_X12_painting_108 (fun a108 => False.elim (by rw [x_ti (by omega), t9] at a108; omega)) (fun a108 => ?_)
        rw [r_sby_cgF hex he hes hbo (by omega) hfo] at ho
        have hsZ : s < m_ns Z := by rw [← x_ns_cgF hex]; exact hs
        have hs10 : s < 10 := by unfold m_ns at hsZ; omega
        have hx2 := hex.tr h2.up
        have d1 : (100 * s + c) / 100 = s := by omega
        have d2 : (100 * s + c) % 100 = c := by omega
        have hv2 : I2 51 (10 * (64 * s + c) + p) = nI (V0 (10 * (64 * s + c) + p) + x_ct (v_at Z (10 * (64 * s + c) + p) e) j) := (h2.i 51 _ rfl).trans (hv _ (by omega))
        refine v_aload_n d_X12_painting_111 rfl ?_
        refine v_gr d_X12_painting_112 lf_X12_43_12 rfl (hS _ _ rfl) (hP _ _ _ rfl) ?_
        refine v_bipush (v := nI 10) d_X12_painting_115 x_bp_10 ?_
        refine v_bipush (v := nI 64) d_X12_painting_117 x_bp_64 ?_
        refine v_iload d_X12_painting_119 rfl ?_
        refine v_bipush (v := nI 100) d_X12_painting_121 x_bp_100 ?_
        refine v_idiv d_X12_painting_123 (by decide) ?_
        rw [x_divN (by omega) (by decide) (by decide), d1]
        first | refine v_imulN d_X12_painting_124 ?_ | refine v_imul d_X12_painting_124 ?_
        refine v_iload d_X12_painting_125 rfl ?_
        refine v_bipush (v := nI 100) d_X12_painting_127 x_bp_100 ?_
        refine v_irem d_X12_painting_129 (by decide) ?_
        rw [x_remN (by omega) (by decide) (by decide), d2]
        first | refine v_iaddN d_X12_painting_130 ?_ | refine v_iadd d_X12_painting_130 ?_
        first | refine v_imulN d_X12_painting_131 ?_ | refine v_imul d_X12_painting_131 ?_
        refine v_aload_n d_X12_painting_132 rfl ?_
        refine v_gr d_X12_painting_133 lf_X12_22_12 rfl (hS _ _ rfl) (hP _ _ _ rfl) ?_
        refine v_bipush (v := nI 64) d_X12_painting_136 x_bp_64 ?_
        refine v_iload d_X12_painting_138 rfl ?_
        first | refine v_imulN d_X12_painting_140 ?_ | refine v_imul d_X12_painting_140 ?_
        refine v_iload d_X12_painting_141 rfl ?_
        first | refine v_iaddN d_X12_painting_143 ?_ | refine v_iadd d_X12_painting_143 ?_
        refine v_iald _ d_X12_painting_144 (rfl) (hS _ _ rfl) (⟨by omega, by omega⟩) ((hx2.i 44 (64 * e + j) rfl).trans hp) ?_
        first | refine v_iaddN d_X12_painting_145 ?_ | refine v_iadd d_X12_painting_145 ?_
        refine v_dup2 d_X12_painting_146 rfl rfl ?_
        refine v_iald _ d_X12_painting_147 (rfl) (hS _ _ rfl) (⟨by omega, by omega⟩) (hv2) ?_
        refine v_iconst (v := nI 1) d_X12_painting_148 x_ic_1 ?_
        first | refine v_iaddN d_X12_painting_149 ?_ | refine v_iadd d_X12_painting_149 ?_
        refine v_iast _ d_X12_painting_150 (rfl) (hS _ _ rfl) (⟨by omega, by omega⟩) ?_
        first | refine v_iinc (ls' := [_, _, _, _, _, _, _]) d_X12_painting_151 rfl (x_inc_1 _) (by decide) rfl ?_ | refine v_iinc (ls' := [_, _, _, _, _, _, _]) d_X12_painting_151 rfl rfl (by decide) rfl ?_
        refine v_goto d_X12_painting_154 ?_
        refine x_V.fg1 6 (ls' := [_, _, _, _, _, _, _]) rfl ?_
        refine ih (j + 1) (by omega) _ J2 hx2.uiF (fun a ha => ?_)
        rw [x_u2_at]
        by_cases haa : a = 10 * (64 * s + c) + p
        · have q1 : v_at Z a e j = true := by
            unfold v_at
            rw [ho, show w_is Z e j = true by unfold w_is; rw [← hpI]; exact decide_eq_true a86]
            exact decide_eq_true (by rw [hp3]; exact haa.symm)
          have r1 := x_ct_y q1
          rw [if_pos ⟨rfl, haa⟩, ← r1, haa]
          rfl
        · have q1 : v_at Z a e j = false := by
            unfold v_at
            rw [ho, show w_is Z e j = true by unfold w_is; rw [← hpI]; exact decide_eq_true a86]
            exact decide_eq_false (by rw [hp3]; exact fun z => haa z.symm)
          have r1 := x_ct_n q1
          rw [if_neg (fun z => haa z.2), ← r1, Nat.add_zero, h2.i 51 _ rfl]
          exact hv a ha
    · try simp (disch := omega) only [x_ti, x_tm1] at a86
      refine v_bipush (v := (-9)) d_X12_painting_89 x_bp_m9 ?_
      refine v_goto d_X12_painting_91 ?_
      refine v_istore (ls' := [_, _, _, _, _, _, _]) d_X12_painting_102 (by decide) rfl ?_
      refine v_iload d_X12_painting_104 rfl ?_
      refine v_bipush (v := (-9)) d_X12_painting_106 x_bp_m9 ?_
      refine w_icmp_eq d_X12_painting_108 (fun _ => ?_) (fun a108 => absurd a108 (by decide))
      first | refine v_iinc (ls' := [_, _, _, _, _, _, _]) d_X12_painting_151 rfl (x_inc_1 _) (by decide) rfl ?_ | refine v_iinc (ls' := [_, _, _, _, _, _, _]) d_X12_painting_151 rfl rfl (by decide) rfl ?_
      refine v_goto d_X12_painting_154 ?_
      refine x_V.fg1 6 (ls' := [_, _, _, _, _, _, _]) rfl ?_
      refine ih (j + 1) (by omega) I J (hex) (fun a ha => ?_)
      have q1 : v_at Z a e j = false := by unfold v_at; rw [show w_is Z e j = false by unfold w_is; rw [← hpI]; exact decide_eq_false (fun z => z a86)]; rfl
      have r1 := x_ct_n q1
      rw [← r1, Nat.add_zero]
      exact hv a ha

