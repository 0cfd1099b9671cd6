/-- a cell that a wish of an eye of the set sees -/
def u_at (Z : x_I) (q e j : Nat) : Bool := w_is Z e j && (match (r_sby Z e j).1 with
  | none => false
  | some (s, c) => decide (64 * s + c = q))
def u_al (Z : x_I) (set : Int32) (q e : Nat) : Nat := x_sm (w_sum Z (u_at Z q) set) e
def x_01 (k : Nat) : Int32 := if 0 < k then nI 1 else nI 0
theorem x_01t {k : Nat} : (x_01 k).toInt = 0 ↔ k = 0 := by
  unfold x_01
  have t1 : (nI 1).toInt = 1 := by decide
  have t0 : (nI 0).toInt = 0 := by decide
  split <;> omega
def i_row (Z : x_I) (set : Int32) (s : Nat) : Nat := if (Z 40 s).toInt = 1 then 0 else x_ct (fun c => decide (u_al Z set (64 * s + c) 4 = 0)) (m_ce Z s).toNat
noncomputable def q_idle (I : x_I) (set : Int32) : Int32 := x_if (0 ≤ set.toInt ∧ set.toInt ≤ 15) (nI (x_sm (i_row (m_nb I) set) (m_ns (m_nb I)))) (-2)
noncomputable def z_idle (I : x_I) (set : Int32) : x_I := x_if (0 ≤ set.toInt ∧ set.toInt ≤ 15) (m_nb I) I

set_option maxRecDepth 100000 in
set_option maxHeartbeats 4000000 in
theorem l_X12_idle_i {K : x_K} {S : x_S} {P : x_P} {n : Nat} {set : Int32} (Z : x_I) (J0 : x_J) (V0 : Nat → Nat) (N e : Nat) (he : e < 4) (hN : (N : Int) = m_ce Z 10) (hN6 : N ≤ 64) (hbit : x_bt set e = 1) (hes : g_es Z) (hbo : m_fo Z 10) (hn : 0 ≤ (Z 39 2).toInt ∧ (Z 39 2).toInt ≤ 10) (hfo : ∀ s, s < m_ns Z → m_fo Z s) (hS : x_hS S) (hP : x_hP P)
    (hc : ∀ (I : x_I) (J : x_J), x_ex mF Z I J0 J → (∀ a, a < 640 → I 52 a = x_01 (V0 a + x_ct (u_at Z a e) N)) → x_V f_X12_idle K 124 [some (.ref 39), some (.int set), some (.int (nI N)), some (.int (nI e)), some (.int (nI N)), none] [] S P I J n 0 0) :
    ∀ d j : Nat, j + d = N → ∀ (I : x_I) (J : x_J), x_ex mF Z I J0 J → (∀ a, a < 640 → I 52 a = x_01 (V0 a + x_ct (u_at Z a e) j)) → x_V f_X12_idle K 47 [some (.ref 39), some (.int set), some (.int (nI N)), some (.int (nI e)), some (.int (nI j)), none] [] S P I J n 0 0 := by
  intro d
  have t9 : (-9 : Int32).toInt = -9 := by decide
  induction d with
  | zero =>
    intro j hd I J hex hv
    refine v_iload d_X12_idle_47 rfl ?_
    refine v_iload_n d_X12_idle_49 rfl ?_
    refine w_icmp_ge d_X12_idle_50 (fun h50 => ?_) (fun h50 => False.elim (by (try simp (disch := omega) only [x_ti, x_tm1] at h50); omega))
    have e9 : j = N := by omega
    subst e9
    exact hc I J hex hv
  | succ d ih =>
    intro j hd I J hex hv
    have hbI := x_fo_cgF hex hbo
    have hnI := x_hn_cgF hex hn
    have hfI := x_fos_cgF hex hfo
    have hcI := x_ce_cgF hex 10
    have hpI := hex.i 44 (64 * e + j) rfl
    have h9 : m_ns I = (I 39 2).toInt.toNat := rfl
    refine v_iload d_X12_idle_47 rfl ?_
    refine v_iload_n d_X12_idle_49 rfl ?_
    refine w_icmp_ge d_X12_idle_50 (fun h50 => False.elim (by (try simp (disch := omega) only [x_ti, x_tm1] at h50); omega)) (fun h50 => ?_)
    refine v_iload_n d_X12_idle_53 rfl ?_
    refine v_iload_n d_X12_idle_54 rfl ?_
    refine v_ishr d_X12_idle_55 ?_
    refine v_iconst (v := nI 1) d_X12_idle_56 x_ic_1 ?_
    refine v_iand d_X12_idle_57 ?_
    refine v_iconst (v := nI 1) d_X12_idle_58 x_ic_1 ?_
    refine w_icmp_ne d_X12_idle_59 (fun a59 => False.elim (by exact a59 (by rw [show (nI 1).toInt = 1 by decide]; exact hbit))) (fun a59 => ?_)
    refine v_aload_n d_X12_idle_62 rfl ?_
    refine v_gr d_X12_idle_63 lf_X12_22_12 rfl (hS _ _ rfl) (hP _ _ _ rfl) ?_
    refine v_bipush (v := nI 64) d_X12_idle_66 x_bp_64 ?_
    refine v_iload_n d_X12_idle_68 rfl ?_
    first | refine v_imulN d_X12_idle_69 ?_ | refine v_imul d_X12_idle_69 ?_
    refine v_iload d_X12_idle_70 rfl ?_
    first | refine v_iaddN d_X12_idle_72 ?_ | refine v_iadd d_X12_idle_72 ?_
    refine v_iald _ d_X12_idle_73 (rfl) (hS _ _ rfl) (⟨by omega, by omega⟩) (rfl) ?_
    refine w_if_ne d_X12_idle_74 (fun a74 => ?_) (fun a74 => ?_)
    · try simp (disch := omega) only [x_ti, x_tm1] at a74
      refine v_aload_n d_X12_idle_82 rfl ?_
      refine v_iload_n d_X12_idle_83 rfl ?_
      refine v_iload d_X12_idle_84 rfl ?_
      refine v_cv (as := [_, _]) (rest := []) d_X12_idle_86 lv_X12_210_12 (hS _ _ rfl) rfl ⟨by decide, by decide⟩ rfl (Nat.le_of_ble_eq_true rfl) (by decide) (by decide) ?_
      refine t_X12_seenBy2 e j rfl he rfl (g_es_cgF hex hes) hbI (by omega) hnI hfI hS hP (fun ho I2 J2 h2 => ?_) (fun s c ho hs hcc hc64 htb I2 J2 h2 => ?_)
      · refine v_istore (ls' := [_, _, _, _, _, _]) d_X12_idle_89 (by decide) rfl ?_
        refine v_iload d_X12_idle_91 rfl ?_
        refine v_bipush (v := (-9)) d_X12_idle_93 x_bp_m9 ?_
        refine w_icmp_eq d_X12_idle_95 (fun _ => ?_) (fun a95 => absurd a95 (by decide))
        first | refine v_iinc (ls' := [_, _, _, _, _, _]) d_X12_idle_118 rfl (x_inc_1 _) (by decide) rfl ?_ | refine v_iinc (ls' := [_, _, _, _, _, _]) d_X12_idle_118 rfl rfl (by decide) rfl ?_
        refine v_goto d_X12_idle_121 ?_
        refine x_V.fg1 5 (ls' := [_, _, _, _, _, _]) rfl ?_
        rw [r_sby_cgF hex he hes hbo (by omega) hfo] at ho
        refine ih (j + 1) (by omega) I2 J2 (hex.tr h2.up) (fun a ha => ?_)
        have q1 : u_at Z a e j = false := by unfold u_at; rw [ho]; exact Bool.and_false _
        have r1 := x_ct_n q1
        rw [← r1, Nat.add_zero]
        exact (h2.i 52 _ rfl).trans (hv a ha)
      · refine v_istore (ls' := [_, _, _, _, _, _]) d_X12_idle_89 (by decide) rfl ?_
        refine v_iload d_X12_idle_91 rfl ?_
        refine v_bipush (v := (-9)) d_X12_idle_93 x_bp_m9 ?_
        refine w_icmp_eq d_X12_idle_95 (fun a95 => False.elim (by rw [x_ti (by omega), t9] at a95; omega)) (fun a95 => ?_)
        rw [r_sby_cgF hex he hes hbo (by omega) hfo] at ho
        have hsZ : s < m_ns Z := by rw [← x_ns_cgF hex]; exact hs
        have hs10 : s < 10 := by unfold m_ns at hsZ; omega
        have hx2 := hex.tr h2.up
        have d1 : (100 * s + c) / 100 = s := by omega
        have d2 : (100 * s + c) % 100 = c := by omega
        refine v_aload_n d_X12_idle_98 rfl ?_
        refine v_gr d_X12_idle_99 lf_X12_46_12 rfl (hS _ _ rfl) (hP _ _ _ rfl) ?_
        refine v_bipush (v := nI 64) d_X12_idle_102 x_bp_64 ?_
        refine v_iload d_X12_idle_104 rfl ?_
        refine v_bipush (v := nI 100) d_X12_idle_106 x_bp_100 ?_
        refine v_idiv d_X12_idle_108 (by decide) ?_
        rw [x_divN (by omega) (by decide) (by decide), d1]
        first | refine v_imulN d_X12_idle_109 ?_ | refine v_imul d_X12_idle_109 ?_
        refine v_iload d_X12_idle_110 rfl ?_
        refine v_bipush (v := nI 100) d_X12_idle_112 x_bp_100 ?_
        refine v_irem d_X12_idle_114 (by decide) ?_
        rw [x_remN (by omega) (by decide) (by decide), d2]
        first | refine v_iaddN d_X12_idle_115 ?_ | refine v_iadd d_X12_idle_115 ?_
        refine v_iconst (v := nI 1) d_X12_idle_116 x_ic_1 ?_
        refine v_zast _ d_X12_idle_117 (rfl) (hS _ _ rfl) (⟨by omega, by omega⟩) (rfl) ?_
        first | refine v_iinc (ls' := [_, _, _, _, _, _]) d_X12_idle_118 rfl (x_inc_1 _) (by decide) rfl ?_ | refine v_iinc (ls' := [_, _, _, _, _, _]) d_X12_idle_118 rfl rfl (by decide) rfl ?_
        refine v_goto d_X12_idle_121 ?_
        refine x_V.fg1 5 (ls' := [_, _, _, _, _, _]) rfl ?_
        refine ih (j + 1) (by omega) _ J2 (hx2.ui rfl) (fun a ha => ?_)
        rw [x_u2_at]
        by_cases haa : a = 64 * s + c
        · have q1 : u_at Z a e j = true := by
            unfold u_at
            rw [ho, show w_is Z e j = true by unfold w_is; rw [← hpI]; exact decide_eq_true a74]
            exact decide_eq_true haa.symm
          have r1 := x_ct_y q1
          rw [if_pos ⟨rfl, haa⟩, ← r1]
          unfold x_01
          rw [if_pos (by omega)]
        · have q1 : u_at Z a e j = false := by
            unfold u_at
            rw [ho, show w_is Z e j = true by unfold w_is; rw [← hpI]; exact decide_eq_true a74]
            exact decide_eq_false (fun z => haa z.symm)
          have r1 := x_ct_n q1
          rw [if_neg (fun z => haa z.2), ← r1, Nat.add_zero, h2.i 52 _ rfl]
          exact hv a ha
    · try simp (disch := omega) only [x_ti, x_tm1] at a74
      refine v_bipush (v := (-9)) d_X12_idle_77 x_bp_m9 ?_
      refine v_goto d_X12_idle_79 ?_
      refine v_istore (ls' := [_, _, _, _, _, _]) d_X12_idle_89 (by decide) rfl ?_
      refine v_iload d_X12_idle_91 rfl ?_
      refine v_bipush (v := (-9)) d_X12_idle_93 x_bp_m9 ?_
      refine w_icmp_eq d_X12_idle_95 (fun _ => ?_) (fun a95 => absurd a95 (by decide))
      first | refine v_iinc (ls' := [_, _, _, _, _, _]) d_X12_idle_118 rfl (x_inc_1 _) (by decide) rfl ?_ | refine v_iinc (ls' := [_, _, _, _, _, _]) d_X12_idle_118 rfl rfl (by decide) rfl ?_
      refine v_goto d_X12_idle_121 ?_
      refine x_V.fg1 5 (ls' := [_, _, _, _, _, _]) rfl ?_
      refine ih (j + 1) (by omega) I J (hex) (fun a ha => ?_)
      have q1 : u_at Z a e j = false := by unfold u_at; rw [show w_is Z e j = false by unfold w_is; rw [← hpI]; exact decide_eq_false (fun z => z a74)]; rfl
      have r1 := x_ct_n q1
      rw [← r1, Nat.add_zero]
      exact hv a ha

set_option maxRecDepth 100000 in
set_option maxHeartbeats 4000000 in
theorem l_X12_idle_c {K : x_K} {S : x_S} {P : x_P} {I : x_I} {J : x_J} {n : Nat} {set : Int32} (Z : x_I) (J0 : x_J) (N C0 s C : Nat) (hs : s < 10) (hk : ¬ (Z 40 s).toInt = 1) (hex : x_ex mF Z I J0 J) (hC : (C : Int) = m_ce Z s) (hC6 : C ≤ 64) (hv : ∀ a, a < 640 → I 52 a = x_01 (u_al Z set a 4)) (hS : x_hS S) (hP : x_hP P)
    (hc : x_V f_X12_idle K 199 [some (.ref 39), some (.int set), some (.int (nI N)), some (.int (nI (C0 + x_ct (fun c => decide (u_al Z set (64 * s + c) 4 = 0)) C))), some (.int (nI s)), some (.int (nI C))] [] S P I J n 0 0) :
    ∀ d c : Nat, c + d = C → x_V f_X12_idle K 147 [some (.ref 39), some (.int set), some (.int (nI N)), some (.int (nI (C0 + x_ct (fun c => decide (u_al Z set (64 * s + c) 4 = 0)) c))), some (.int (nI s)), some (.int (nI c))] [] S P I J n 0 0 := by
  intro d
  have hI := hex.i 40 s rfl
  have hcI := x_ce_cgF hex s
  have hcc : (I 41 (6 * s + 4) * I 41 (6 * s + 5)).toInt = m_ce I s := rfl
  induction d with
  | zero =>
    intro c hd
    refine v_iload d_X12_idle_147 rfl ?_
    refine v_aload_n d_X12_idle_149 rfl ?_
    refine v_iload d_X12_idle_150 rfl ?_
    refine v_cv (as := [_]) (rest := [_]) d_X12_idle_152 lv_X12_101_12 (hS _ _ rfl) rfl ⟨by decide, by decide⟩ rfl (Nat.le_of_ble_eq_true rfl) (by decide) (by decide) ?_
    refine t_X12_cellsOf s rfl (by omega) hS hP ?_
    refine w_icmp_ge d_X12_idle_155 (fun h155 => ?_) (fun h155 => False.elim (by (try simp (disch := omega) only [x_ti, x_tm1] at h155); omega))
    have e9 : c = C := by omega
    subst e9
    exact hc
  | succ d ih =>
    intro c hd
    refine v_iload d_X12_idle_147 rfl ?_
    refine v_aload_n d_X12_idle_149 rfl ?_
    refine v_iload d_X12_idle_150 rfl ?_
    refine v_cv (as := [_]) (rest := [_]) d_X12_idle_152 lv_X12_101_12 (hS _ _ rfl) rfl ⟨by decide, by decide⟩ rfl (Nat.le_of_ble_eq_true rfl) (by decide) (by decide) ?_
    refine t_X12_cellsOf s rfl (by omega) hS hP ?_
    refine w_icmp_ge d_X12_idle_155 (fun h155 => False.elim (by (try simp (disch := omega) only [x_ti, x_tm1] at h155); omega)) (fun h155 => ?_)
    refine v_aload_n d_X12_idle_158 rfl ?_
    refine v_gr d_X12_idle_159 lf_X12_7_12 rfl (hS _ _ rfl) (hP _ _ _ rfl) ?_
    refine v_iload d_X12_idle_162 rfl ?_
    refine v_iald _ d_X12_idle_164 (rfl) (hS _ _ rfl) (⟨by omega, by omega⟩) (rfl) ?_
    refine v_iconst (v := nI 1) d_X12_idle_165 x_ic_1 ?_
    refine w_icmp_eq d_X12_idle_166 (fun a166 => False.elim (by rw [show (nI 1).toInt = 1 by decide, hI] at a166; exact hk a166)) (fun a166 => ?_)
    refine v_iload_n d_X12_idle_169 rfl ?_
    refine v_aload_n d_X12_idle_170 rfl ?_
    refine v_gr d_X12_idle_171 lf_X12_46_12 rfl (hS _ _ rfl) (hP _ _ _ rfl) ?_
    refine v_bipush (v := nI 64) d_X12_idle_174 x_bp_64 ?_
    refine v_iload d_X12_idle_176 rfl ?_
    first | refine v_imulN d_X12_idle_178 ?_ | refine v_imul d_X12_idle_178 ?_
    refine v_iload d_X12_idle_179 rfl ?_
    first | refine v_iaddN d_X12_idle_181 ?_ | refine v_iadd d_X12_idle_181 ?_
    refine v_zald _ d_X12_idle_182 (rfl) (hS _ _ rfl) (⟨by omega, by omega⟩) (hv (64 * s + c) (by omega)) ?_
    refine w_if_eq d_X12_idle_183 (fun a183 => ?_) (fun a183 => ?_)
    · refine v_iconst (v := nI 1) d_X12_idle_190 x_ic_1 ?_
      first | refine v_iaddN d_X12_idle_191 ?_ | refine v_iadd d_X12_idle_191 ?_
      refine v_istore_n (ls' := [_, _, _, _, _, _]) d_X12_idle_192 (by decide) rfl ?_
      first | refine v_iinc (ls' := [_, _, _, _, _, _]) d_X12_idle_193 rfl (x_inc_1 _) (by decide) rfl ?_ | refine v_iinc (ls' := [_, _, _, _, _, _]) d_X12_idle_193 rfl rfl (by decide) rfl ?_
      refine v_goto d_X12_idle_196 ?_
      have r1 := x_ct_y (p := (fun c => decide (u_al Z set (64 * s + c) 4 = 0))) (k := c) (decide_eq_true (x_01t.mp a183))
      have hl := ih (c + 1) (by omega)
      rw [← r1] at hl
      exact hl
    · refine v_iconst (v := nI 0) d_X12_idle_186 x_ic_0 ?_
      refine v_goto d_X12_idle_187 ?_
      first | refine v_iaddN d_X12_idle_191 ?_ | refine v_iadd d_X12_idle_191 ?_
      refine v_istore_n (ls' := [_, _, _, _, _, _]) d_X12_idle_192 (by decide) rfl ?_
      first | refine v_iinc (ls' := [_, _, _, _, _, _]) d_X12_idle_193 rfl (x_inc_1 _) (by decide) rfl ?_ | refine v_iinc (ls' := [_, _, _, _, _, _]) d_X12_idle_193 rfl rfl (by decide) rfl ?_
      refine v_goto d_X12_idle_196 ?_
      have r1 := x_ct_n (p := (fun c => decide (u_al Z set (64 * s + c) 4 = 0))) (k := c) (decide_eq_false (fun z => a183 (x_01t.mpr z)))
      have hl := ih (c + 1) (by omega)
      rw [← r1] at hl
      exact hl

set_option maxRecDepth 100000 in
set_option maxHeartbeats 4000000 in
theorem l_X12_idle_s {K : x_K} {S : x_S} {P : x_P} {I : x_I} {J : x_J} {n : Nat} {set : Int32} (Z : x_I) (J0 : x_J) (N : Nat) (hex : x_ex mF Z I J0 J) (hes : g_es Z) (hbo : m_fo Z 10) (hn : 0 ≤ (Z 39 2).toInt ∧ (Z 39 2).toInt ≤ 10) (hfo : ∀ s, s < m_ns Z → m_fo Z s) (hv : ∀ a, a < 640 → I 52 a = x_01 (u_al Z set a 4)) (hS : x_hS S) (hP : x_hP P)
    (hK : K (some (.int (nI (x_sm (i_row Z set) (m_ns Z))))) S P I J n) :
    ∀ d s : Nat, s + d = m_ns Z → x_V f_X12_idle K 135 [some (.ref 39), some (.int set), some (.int (nI N)), some (.int (nI (x_sm (i_row Z set) s))), some (.int (nI s)), none] [] S P I J n 0 0 := by
  intro d
  have h92 := congrArg Int32.toInt (hex.i 39 2 rfl)
  have h9 : m_ns Z = (Z 39 2).toInt.toNat := rfl
  induction d with
  | zero =>
    intro s hd
    refine v_iload d_X12_idle_135 rfl ?_
    refine v_aload_n d_X12_idle_137 rfl ?_
    refine v_gi d_X12_idle_138 lf_X12_94_12 rfl (hS _ _ rfl) ?_
    refine w_icmp_ge d_X12_idle_141 (fun h141 => ?_) (fun h141 => False.elim (by (try simp (disch := omega) only [x_ti, x_tm1] at h141); omega))
    refine v_iload_n d_X12_idle_205 rfl ?_
    refine v_ret (v := some (.int _)) d_X12_idle_206 rfl ⟨rfl, _, rfl, rfl⟩ (by decide) (by decide) ?_
    have e9 : s = m_ns Z := by omega
    subst e9
    exact hK
  | succ d ih =>
    intro s hd
    have hc := m_ce_in (hfo s (by omega))
    have hI := hex.i 40 s rfl
    have hcI := x_ce_cgF hex s
    have hcc : (I 41 (6 * s + 4) * I 41 (6 * s + 5)).toInt = m_ce I s := rfl
    by_cases hk : (Z 40 s).toInt = 1
    · refine v_iload d_X12_idle_135 rfl ?_
      refine v_aload_n d_X12_idle_137 rfl ?_
      refine v_gi d_X12_idle_138 lf_X12_94_12 rfl (hS _ _ rfl) ?_
      refine w_icmp_ge d_X12_idle_141 (fun h141 => False.elim (by (try simp (disch := omega) only [x_ti, x_tm1] at h141); omega)) (fun h141 => ?_)
      refine v_iconst (v := nI 0) d_X12_idle_144 x_ic_0 ?_
      refine v_istore (ls' := [_, _, _, _, _, _]) d_X12_idle_145 (by decide) rfl ?_
      refine v_iload d_X12_idle_147 rfl ?_
      refine v_aload_n d_X12_idle_149 rfl ?_
      refine v_iload d_X12_idle_150 rfl ?_
      refine v_cv (as := [_]) (rest := [_]) d_X12_idle_152 lv_X12_101_12 (hS _ _ rfl) rfl ⟨by decide, by decide⟩ rfl (Nat.le_of_ble_eq_true rfl) (by decide) (by decide) ?_
      refine t_X12_cellsOf s rfl (by omega) hS hP ?_
      refine w_icmp_ge d_X12_idle_155 (fun h155 => False.elim (by (try simp (disch := omega) only [x_ti, x_tm1] at h155); omega)) (fun h155 => ?_)
      refine v_aload_n d_X12_idle_158 rfl ?_
      refine v_gr d_X12_idle_159 lf_X12_7_12 rfl (hS _ _ rfl) (hP _ _ _ rfl) ?_
      refine v_iload d_X12_idle_162 rfl ?_
      refine v_iald _ d_X12_idle_164 (rfl) (hS _ _ rfl) (⟨by omega, by omega⟩) (rfl) ?_
      refine v_iconst (v := nI 1) d_X12_idle_165 x_ic_1 ?_
      refine w_icmp_eq d_X12_idle_166 (fun a166 => ?_) (fun a166 => False.elim (by rw [show (nI 1).toInt = 1 by decide, hI] at a166; exact a166 hk))
      first | refine v_iinc (ls' := [_, _, _, _, _, _]) d_X12_idle_199 rfl (x_inc_1 _) (by decide) rfl ?_ | refine v_iinc (ls' := [_, _, _, _, _, _]) d_X12_idle_199 rfl rfl (by decide) rfl ?_
      refine v_goto d_X12_idle_202 ?_
      refine x_V.fg1 5 (ls' := [_, _, _, _, _, _]) rfl ?_
      have hw : x_sm (i_row Z set) (s + 1) = x_sm (i_row Z set) s + 0 := by rw [x_sm_s]; unfold i_row; rw [if_pos hk]
      have hl := ih (s + 1) (by omega)
      rw [hw] at hl
      exact hl
    · refine v_iload d_X12_idle_135 rfl ?_
      refine v_aload_n d_X12_idle_137 rfl ?_
      refine v_gi d_X12_idle_138 lf_X12_94_12 rfl (hS _ _ rfl) ?_
      refine w_icmp_ge d_X12_idle_141 (fun h141 => False.elim (by (try simp (disch := omega) only [x_ti, x_tm1] at h141); omega)) (fun h141 => ?_)
      refine v_iconst (v := nI 0) d_X12_idle_144 x_ic_0 ?_
      refine v_istore (ls' := [_, _, _, _, _, _]) d_X12_idle_145 (by decide) rfl ?_
      refine l_X12_idle_c Z J0 N _ s (m_ce Z s).toNat (by omega) hk hex (by omega) (by omega) hv hS hP ?_ (m_ce Z s).toNat 0 (by omega)
      first | refine v_iinc (ls' := [_, _, _, _, _, _]) d_X12_idle_199 rfl (x_inc_1 _) (by decide) rfl ?_ | refine v_iinc (ls' := [_, _, _, _, _, _]) d_X12_idle_199 rfl rfl (by decide) rfl ?_
      refine v_goto d_X12_idle_202 ?_
      refine x_V.fg1 5 (ls' := [_, _, _, _, _, _]) rfl ?_
      have hw : x_sm (i_row Z set) (s + 1) = x_sm (i_row Z set) s + x_ct (fun c => decide (u_al Z set (64 * s + c) 4 = 0)) (m_ce Z s).toNat := by rw [x_sm_s]; unfold i_row; rw [if_neg hk]
      rw [← hw]
      exact ih (s + 1) (by omega)

set_option maxRecDepth 100000 in
set_option maxHeartbeats 4000000 in
theorem l_X12_idle_e {K : x_K} {S : x_S} {P : x_P} {n : Nat} {set : Int32} (Z : x_I) (J0 : x_J) (N : Nat) (hN : (N : Int) = m_ce Z 10) (hN6 : N ≤ 64) (hN1 : 1 ≤ N) (hes : g_es Z) (hbo : m_fo Z 10) (hn : 0 ≤ (Z 39 2).toInt ∧ (Z 39 2).toInt ≤ 10) (hfo : ∀ s, s < m_ns Z → m_fo Z s) (hS : x_hS S) (hP : x_hP P) (hc : ∀ (I : x_I) (J : x_J), x_ex mF Z I J0 J → (∀ a, a < 640 → I 52 a = x_01 (u_al Z set a 4)) → x_V f_X12_idle K 135 [some (.ref 39), some (.int set), some (.int (nI N)), some (.int (nI 0)), some (.int (nI 0)), none] [] S P I J n 0 0) :
    ∀ d e : Nat, e + d = 4 → ∀ (I : x_I) (J : x_J), x_ex mF Z I J0 J → (∀ a, a < 640 → I 52 a = x_01 (u_al Z set a e)) → x_V f_X12_idle K 39 [some (.ref 39), some (.int set), some (.int (nI N)), some (.int (nI e)), none, none] [] S P I J n 0 0 := by
  intro d
  have t1 : (nI 1).toInt = 1 := by decide
  have hNN : (m_ce Z 10).toNat = N := by omega
  induction d with
  | zero =>
    intro e hd I J hex hv
    refine v_iload_n d_X12_idle_39 rfl ?_
    refine v_iconst (v := nI 4) d_X12_idle_40 x_ic_4 ?_
    refine w_icmp_ge d_X12_idle_41 (fun h41 => ?_) (fun h41 => False.elim (by (try simp (disch := omega) only [x_ti, x_tm1] at h41); omega))
    refine v_iconst (v := nI 0) d_X12_idle_130 x_ic_0 ?_
    refine v_istore_n (ls' := [_, _, _, _, _, _]) d_X12_idle_131 (by decide) rfl ?_
    refine v_iconst (v := nI 0) d_X12_idle_132 x_ic_0 ?_
    refine v_istore (ls' := [_, _, _, _, _, _]) d_X12_idle_133 (by decide) rfl ?_
    have e9 : e = 4 := by omega
    subst e9
    exact hc I J hex hv
  | succ d ih =>
    intro e hd I J hex hv
    by_cases hbit : x_bt set e = 1
    · refine v_iload_n d_X12_idle_39 rfl ?_
      refine v_iconst (v := nI 4) d_X12_idle_40 x_ic_4 ?_
      refine w_icmp_ge d_X12_idle_41 (fun h41 => False.elim (by (try simp (disch := omega) only [x_ti, x_tm1] at h41); omega)) (fun h41 => ?_)
      refine v_iconst (v := nI 0) d_X12_idle_44 x_ic_0 ?_
      refine v_istore (ls' := [_, _, _, _, _, _]) d_X12_idle_45 (by decide) rfl ?_
      refine l_X12_idle_i Z J0 (fun a => u_al Z set a e) N e (by omega) hN hN6 hbit hes hbo hn hfo hS hP ?_ N 0 (by omega) I J hex hv
      intro I2 J2 hx2 hv2
      first | refine v_iinc (ls' := [_, _, _, _, _, _]) d_X12_idle_124 rfl (x_inc_1 _) (by decide) rfl ?_ | refine v_iinc (ls' := [_, _, _, _, _, _]) d_X12_idle_124 rfl rfl (by decide) rfl ?_
      refine v_goto d_X12_idle_127 ?_
      refine x_V.fg1 4 (ls' := [_, _, _, _, _, _]) rfl ?_
      have hw : ∀ a, u_al Z set a (e + 1) = u_al Z set a e + x_ct (u_at Z a e) N := fun a => by unfold u_al; rw [x_sm_s]; unfold w_sum; rw [if_pos hbit, hNN]
      exact ih (e + 1) (by omega) I2 J2 hx2 (fun a ha => by rw [hw a]; exact hv2 a ha)
    · refine v_iload_n d_X12_idle_39 rfl ?_
      refine v_iconst (v := nI 4) d_X12_idle_40 x_ic_4 ?_
      refine w_icmp_ge d_X12_idle_41 (fun h41 => False.elim (by (try simp (disch := omega) only [x_ti, x_tm1] at h41); omega)) (fun h41 => ?_)
      refine v_iconst (v := nI 0) d_X12_idle_44 x_ic_0 ?_
      refine v_istore (ls' := [_, _, _, _, _, _]) d_X12_idle_45 (by decide) rfl ?_
      refine v_iload d_X12_idle_47 rfl ?_
      refine v_iload_n d_X12_idle_49 rfl ?_
      refine w_icmp_ge d_X12_idle_50 (fun h50 => False.elim (by (try simp (disch := omega) only [x_ti, x_tm1] at h50); omega)) (fun h50 => ?_)
      refine v_iload_n d_X12_idle_53 rfl ?_
      refine v_iload_n d_X12_idle_54 rfl ?_
      refine v_ishr d_X12_idle_55 ?_
      refine v_iconst (v := nI 1) d_X12_idle_56 x_ic_1 ?_
      refine v_iand d_X12_idle_57 ?_
      refine v_iconst (v := nI 1) d_X12_idle_58 x_ic_1 ?_
      refine w_icmp_ne d_X12_idle_59 (fun a59 => ?_) (fun a59 => False.elim (by rw [t1] at a59; exact hbit a59))
      first | refine v_iinc (ls' := [_, _, _, _, _, _]) d_X12_idle_124 rfl (x_inc_1 _) (by decide) rfl ?_ | refine v_iinc (ls' := [_, _, _, _, _, _]) d_X12_idle_124 rfl rfl (by decide) rfl ?_
      refine v_goto d_X12_idle_127 ?_
      refine x_V.fg1 4 (ls' := [_, _, _, _, _, _]) rfl ?_
      have hw : ∀ a, u_al Z set a (e + 1) = u_al Z set a e + 0 := fun a => by unfold u_al; rw [x_sm_s]; unfold w_sum; rw [if_neg hbit]
      exact ih (e + 1) (by omega) I J hex (fun a ha => by rw [hw a]; exact hv a ha)

set_option maxRecDepth 100000 in
set_option maxHeartbeats 4000000 in
theorem l_X12_idle_z {K : x_K} {S : x_S} {P : x_P} {I : x_I} {J : x_J} {n : Nat} {set : Int32} (N : Nat) (hS : x_hS S) (hP : x_hP P) (hc : x_V f_X12_idle K 39 [some (.ref 39), some (.int set), some (.int (nI N)), some (.int (nI 0)), none, none] [] S P (x_fi I 52 0 640 0) J n 0 0) : ∀ d k : Nat, k + d = 640 → x_V f_X12_idle K 17 [some (.ref 39), some (.int set), some (.int (nI N)), some (.int (nI k)), none, none] [] S P (x_fi I 52 0 k 0) J n 0 0 := by
  intro d
  induction d with
  | zero =>
    intro k hd
    have e9 : k = 640 := by omega
    subst e9
    refine v_iload_n d_X12_idle_17 rfl ?_
    refine v_sipush (v := nI 640) d_X12_idle_18 x_sp_640 ?_
    refine w_icmp_ge d_X12_idle_21 (fun h21 => ?_) (fun h21 => False.elim (by (try simp (disch := omega) only [x_ti, x_tm1] at h21); omega))
    refine v_iconst (v := nI 0) d_X12_idle_37 x_ic_0 ?_
    refine v_istore_n (ls' := [_, _, _, _, _, _]) d_X12_idle_38 (by decide) rfl ?_
    exact hc
  | succ d ih =>
    intro k hd
    refine v_iload_n d_X12_idle_17 rfl ?_
    refine v_sipush (v := nI 640) d_X12_idle_18 x_sp_640 ?_
    refine w_icmp_ge d_X12_idle_21 (fun h21 => False.elim (by (try simp (disch := omega) only [x_ti, x_tm1] at h21); omega)) (fun h21 => ?_)
    refine v_aload_n d_X12_idle_24 rfl ?_
    refine v_gr d_X12_idle_25 lf_X12_46_12 rfl (hS _ _ rfl) (hP _ _ _ rfl) ?_
    refine v_iload_n d_X12_idle_28 rfl ?_
    refine v_iconst (v := nI 0) d_X12_idle_29 x_ic_0 ?_
    refine v_zast _ d_X12_idle_30 (rfl) (hS _ _ rfl) (⟨by omega, by omega⟩) (rfl) ?_
    first | refine v_iinc (ls' := [_, _, _, _, _, _]) d_X12_idle_31 rfl (x_inc_1 _) (by decide) rfl ?_ | refine v_iinc (ls' := [_, _, _, _, _, _]) d_X12_idle_31 rfl rfl (by decide) rfl ?_
    refine v_goto d_X12_idle_34 ?_
    rw [show nI 0 = 0 from rfl, x_fi_s0]
    exact ih (k + 1) (by omega)

set_option maxRecDepth 100000 in
set_option maxHeartbeats 4000000 in
theorem t_X12_idle {K : x_K} {S : x_S} {P : x_P} {I : x_I} {J : x_J} {n : Nat} {set : Int32} (hes : g_es (m_nb I)) (hbo : m_fo (m_nb I) 10) (hn : 0 ≤ (m_nb I 39 2).toInt ∧ (m_nb I 39 2).toInt ≤ 10) (hfo : ∀ s, s < m_ns (m_nb I) → m_fo (m_nb I) s) (hS : x_hS S) (hP : x_hP P) (hK : ∀ (I' : x_I) (J' : x_J), x_ex mF (z_idle I set) I' J J' → K (some (.int (q_idle I set))) S P I' J' n) : x_Call f_X12_idle [.ref 39, .int set] K S P I J n := by
  refine x_intro (by decide) 4 (ls := [_, _, _, _, _, _]) rfl (Nat.le_of_ble_eq_true rfl) ?_
  refine v_iload_n d_X12_idle_0 rfl ?_
  refine v_cs (as := [_]) (rest := []) d_X12_idle_1 ls_X12_214 rfl ⟨by decide, by decide⟩ rfl (Nat.le_of_ble_eq_true rfl) (by decide) (by decide) ?_
  refine t_X12_areEyes (fun q => ?_) (fun q => ?_)
  · refine w_if_ne d_X12_idle_4 (fun _ => ?_) (fun h4 => absurd h4 (by decide))
    refine v_aload_n d_X12_idle_10 rfl ?_
    refine v_cv (as := []) (rest := []) d_X12_idle_11 lv_X12_138_12 (hS _ _ rfl) rfl ⟨by decide, by decide⟩ rfl (Nat.le_of_ble_eq_true rfl) (by decide) (by decide) ?_
    refine t_X12_boardCells hS hP ?_
    refine v_istore_n (ls' := [_, _, _, _, _, _]) d_X12_idle_14 (by decide) rfl ?_
    refine v_iconst (v := nI 0) d_X12_idle_15 x_ic_0 ?_
    refine v_istore_n (ls' := [_, _, _, _, _, _]) d_X12_idle_16 (by decide) rfl ?_
    have e0 : 0 ≤ set.toInt ∧ set.toInt ≤ 15 := by omega
    simp only [q_idle, z_idle, x_if_t e0] at hK
    have hc := m_ce_in hbo
    have hcN : m_nb I 41 64 * m_nb I 41 65 = nI (m_ce (m_nb I) 10).toNat := x_of' (by have : (m_nb I 41 64 * m_nb I 41 65).toInt = m_ce (m_nb I) 10 := rfl; omega)
    have hl := l_X12_idle_z (I := m_nb I) (J := J) (K := K) (n := n) (set := set) (m_ce (m_nb I) 10).toNat hS hP ?_ 640 0 (by omega)
    · rw [x_fi_0, ← hcN] at hl
      exact hl
    refine l_X12_idle_e (m_nb I) J (m_ce (m_nb I) 10).toNat (by omega) (by omega) (by omega) hes hbo hn hfo hS hP ?_ 4 0 (by omega) _ J (x_ex.rf.fi (fun j => rfl)) (fun a ha => by rw [x_fi_in _ _ (by omega) (by omega)]; rfl)
    intro I2 J2 hx hv
    exact l_X12_idle_s (I := I2) (J := J2) (K := K) (n := n) (set := set) (m_nb I) J (m_ce (m_nb I) 10).toNat hx hes hbo hn hfo hv hS hP (hK _ _ hx) (m_ns (m_nb I)) 0 (by omega)
  · refine w_if_ne d_X12_idle_4 (fun h4 => absurd h4 (by decide)) (fun _ => ?_)
    refine v_bipush (v := (-2)) d_X12_idle_7 x_bp_m2 ?_
    refine v_ret (v := some (.int _)) d_X12_idle_9 rfl ⟨rfl, _, rfl, rfl⟩ (by decide) (by decide) ?_
    have e0 : ¬ (0 ≤ set.toInt ∧ set.toInt ≤ 15) := by omega
    simp only [q_idle, z_idle, x_if_f e0] at hK
    exact hK I J x_ex.rf

