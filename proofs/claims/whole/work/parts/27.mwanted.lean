set_option maxRecDepth 100000 in
set_option maxHeartbeats 4000000 in
theorem l_X12_wanted_c {K : x_K} {S : x_S} {P : x_P} {I : x_I} {J : x_J} {n : Nat} {lane wr m : Int32} (t sh i N : Nat) (ht : t < 6) (hs : sh < 4) (hi : i + 2 * N ≤ 64) (hm : m = nI N) (hn : 0 ≤ (I 39 2).toInt ∧ (I 39 2).toInt ≤ 10) (hfo : ∀ s, s < m_ns I → m_fo I s) (hg : ∀ j, j < N → g_pair I sh i j) (hS : x_hS S) (hP : x_hP P) (hK : K (some (.int (nI (q_wr I t sh i N)))) S P (z_wr I t sh i N) J n) : ∀ d k : Nat, k + d = N → x_V f_X12_wanted K 150 [some (.ref 39), some (.int (nI t)), some (.int (nI sh)), some (.int lane), some (.int (nI i)), some (.int m), some (.int wr), some (.int (nI (64 * sh + i))), some (.int (nI (q_wr I t sh i k))), some (.int (nI k)), none] [] S P (z_wr I t sh i k) J n 0 0 := by
  intro d
  induction d with
  | zero =>
    intro k hd
    subst hm
    have e9 : k = N := by omega
    subst e9
    refine v_iload d_X12_wanted_150 rfl ?_
    refine v_iload d_X12_wanted_152 rfl ?_
    refine w_icmp_ge d_X12_wanted_154 (fun h154 => ?_) (fun h154 => False.elim (by (try simp (disch := omega) only [x_ti, x_tm1] at h154); omega))
    refine v_iload d_X12_wanted_229 rfl ?_
    refine v_ret (v := some (.int _)) d_X12_wanted_231 rfl ⟨rfl, _, rfl, rfl⟩ (by decide) (by decide) ?_
    exact hK
  | succ d ih =>
    intro k hd
    subst hm
    have hns : m_ns I = (I 39 2).toInt.toNat := rfl
    have hpr := hg k (by omega)
    unfold g_pair g_ce at hpr
    obtain ⟨a, ha, ha1, ha2, ha3⟩ := x_ex1 (s := I 47 (64 * sh + i + 2 * k)) (by omega)
    obtain ⟨b, hb, hb1, hb2, hb3⟩ := x_ex1 (s := I 47 (64 * sh + i + 2 * k + 1)) (by omega)
    rw [ha3] at hpr
    have hfa := m_ce_in (hfo a (by omega))
    have hmt : m_to I t sh i k = 640 * t + 64 * a + b := by unfold m_to; rw [ha3, hb3]
    refine v_iload d_X12_wanted_150 rfl ?_
    refine v_iload d_X12_wanted_152 rfl ?_
    refine w_icmp_ge d_X12_wanted_154 (fun h154 => False.elim (by (try simp (disch := omega) only [x_ti, x_tm1] at h154); omega)) (fun h154 => ?_)
    refine v_sipush (v := nI 640) d_X12_wanted_157 x_sp_640 ?_
    refine v_iload_n d_X12_wanted_160 rfl ?_
    first | refine v_imulN d_X12_wanted_161 ?_ | refine v_imul d_X12_wanted_161 ?_
    refine v_bipush (v := nI 64) d_X12_wanted_162 x_bp_64 ?_
    refine v_aload_n d_X12_wanted_164 rfl ?_
    refine v_gr d_X12_wanted_165 lf_X12_31_12 rfl (hS _ _ rfl) (hP _ _ _ rfl) ?_
    refine v_iload d_X12_wanted_168 rfl ?_
    refine v_iconst (v := nI 2) d_X12_wanted_170 x_ic_2 ?_
    refine v_iload d_X12_wanted_171 rfl ?_
    first | refine v_imulN d_X12_wanted_173 ?_ | refine v_imul d_X12_wanted_173 ?_
    first | refine v_iaddN d_X12_wanted_174 ?_ | refine v_iadd d_X12_wanted_174 ?_
    refine v_iald _ d_X12_wanted_175 (rfl) (hS _ _ rfl) (⟨by omega, by omega⟩) ((z_wr_na I t sh i (by decide) _ k).trans ha) ?_
    first | refine v_imulN d_X12_wanted_176 ?_ | refine v_imul d_X12_wanted_176 ?_
    first | refine v_iaddN d_X12_wanted_177 ?_ | refine v_iadd d_X12_wanted_177 ?_
    refine v_aload_n d_X12_wanted_178 rfl ?_
    refine v_gr d_X12_wanted_179 lf_X12_31_12 rfl (hS _ _ rfl) (hP _ _ _ rfl) ?_
    refine v_iload d_X12_wanted_182 rfl ?_
    refine v_iconst (v := nI 2) d_X12_wanted_184 x_ic_2 ?_
    refine v_iload d_X12_wanted_185 rfl ?_
    first | refine v_imulN d_X12_wanted_187 ?_ | refine v_imul d_X12_wanted_187 ?_
    first | refine v_iaddN d_X12_wanted_188 ?_ | refine v_iadd d_X12_wanted_188 ?_
    refine v_iconst (v := nI 1) d_X12_wanted_189 x_ic_1 ?_
    first | refine v_iaddN d_X12_wanted_190 ?_ | refine v_iadd d_X12_wanted_190 ?_
    refine v_iald _ d_X12_wanted_191 (rfl) (hS _ _ rfl) (⟨by omega, by omega⟩) ((z_wr_na I t sh i (by decide) _ k).trans hb) ?_
    first | refine v_iaddN d_X12_wanted_192 ?_ | refine v_iadd d_X12_wanted_192 ?_
    refine v_istore (ls' := [_, _, _, _, _, _, _, _, _, _, _]) d_X12_wanted_193 (by decide) rfl ?_
    refine v_iload d_X12_wanted_195 rfl ?_
    refine v_aload_n d_X12_wanted_197 rfl ?_
    refine v_gr d_X12_wanted_198 lf_X12_57_12 rfl (hS _ _ rfl) (hP _ _ _ rfl) ?_
    refine v_iload d_X12_wanted_201 rfl ?_
    refine v_zald (v := z_wr I t sh i k 54 (640 * t + 64 * a + b)) _ d_X12_wanted_203 (rfl) (hS _ _ rfl) (⟨by omega, by omega⟩) (rfl) ?_
    refine w_if_eq d_X12_wanted_204 (fun a204 => ?_) (fun a204 => ?_)
    · try simp (disch := omega) only [x_ti, x_tm1] at a204
      refine v_iconst (v := nI 1) d_X12_wanted_211 x_ic_1 ?_
      first | refine v_iaddN d_X12_wanted_212 ?_ | refine v_iadd d_X12_wanted_212 ?_
      refine v_istore (ls' := [_, _, _, _, _, _, _, _, _, _, _]) d_X12_wanted_213 (by decide) rfl ?_
      refine v_aload_n d_X12_wanted_215 rfl ?_
      refine v_gr d_X12_wanted_216 lf_X12_57_12 rfl (hS _ _ rfl) (hP _ _ _ rfl) ?_
      refine v_iload d_X12_wanted_219 rfl ?_
      refine v_iconst (v := nI 1) d_X12_wanted_221 x_ic_1 ?_
      refine v_zast _ d_X12_wanted_222 (rfl) (hS _ _ rfl) (⟨by omega, by omega⟩) (rfl) ?_
      first | refine v_iinc (ls' := [_, _, _, _, _, _, _, _, _, _, _]) d_X12_wanted_223 rfl (x_inc_1 _) (by decide) rfl ?_ | refine v_iinc (ls' := [_, _, _, _, _, _, _, _, _, _, _]) d_X12_wanted_223 rfl rfl (by decide) rfl ?_
      refine v_goto d_X12_wanted_226 ?_
      refine x_V.fg1 10 (ls' := [_, _, _, _, _, _, _, _, _, _, _]) rfl ?_
      rw [← hmt] at a204
      have hz : z_wr I t sh i (k + 1) = x_u2 (z_wr I t sh i k) 54 (640 * t + 64 * a + b) (nI 1) := by rw [← hmt]; rfl
      rw [← hz]
      first
        | (have hq : q_wr I t sh i (k + 1) = q_wr I t sh i k + 1 := by show q_wr I t sh i k + (if (z_wr I t sh i k 54 (m_to I t sh i k)).toInt = 0 then 1 else 0) = _; rw [if_pos a204]
           rw [← hq]
           exact ih (k + 1) (by omega))
        | (have hq : q_wr I t sh i (k + 1) = q_wr I t sh i k + 0 := by show q_wr I t sh i k + (if (z_wr I t sh i k 54 (m_to I t sh i k)).toInt = 0 then 1 else 0) = _; rw [if_neg a204]
           rw [← hq]
           exact ih (k + 1) (by omega))
    · try simp (disch := omega) only [x_ti, x_tm1] at a204
      refine v_iconst (v := nI 0) d_X12_wanted_207 x_ic_0 ?_
      refine v_goto d_X12_wanted_208 ?_
      first | refine v_iaddN d_X12_wanted_212 ?_ | refine v_iadd d_X12_wanted_212 ?_
      refine v_istore (ls' := [_, _, _, _, _, _, _, _, _, _, _]) d_X12_wanted_213 (by decide) rfl ?_
      refine v_aload_n d_X12_wanted_215 rfl ?_
      refine v_gr d_X12_wanted_216 lf_X12_57_12 rfl (hS _ _ rfl) (hP _ _ _ rfl) ?_
      refine v_iload d_X12_wanted_219 rfl ?_
      refine v_iconst (v := nI 1) d_X12_wanted_221 x_ic_1 ?_
      refine v_zast _ d_X12_wanted_222 (rfl) (hS _ _ rfl) (⟨by omega, by omega⟩) (rfl) ?_
      first | refine v_iinc (ls' := [_, _, _, _, _, _, _, _, _, _, _]) d_X12_wanted_223 rfl (x_inc_1 _) (by decide) rfl ?_ | refine v_iinc (ls' := [_, _, _, _, _, _, _, _, _, _, _]) d_X12_wanted_223 rfl rfl (by decide) rfl ?_
      refine v_goto d_X12_wanted_226 ?_
      refine x_V.fg1 10 (ls' := [_, _, _, _, _, _, _, _, _, _, _]) rfl ?_
      rw [← hmt] at a204
      have hz : z_wr I t sh i (k + 1) = x_u2 (z_wr I t sh i k) 54 (640 * t + 64 * a + b) (nI 1) := by rw [← hmt]; rfl
      rw [← hz]
      first
        | (have hq : q_wr I t sh i (k + 1) = q_wr I t sh i k + 1 := by show q_wr I t sh i k + (if (z_wr I t sh i k 54 (m_to I t sh i k)).toInt = 0 then 1 else 0) = _; rw [if_pos a204]
           rw [← hq]
           exact ih (k + 1) (by omega))
        | (have hq : q_wr I t sh i (k + 1) = q_wr I t sh i k + 0 := by show q_wr I t sh i k + (if (z_wr I t sh i k 54 (m_to I t sh i k)).toInt = 0 then 1 else 0) = _; rw [if_neg a204]
           rw [← hq]
           exact ih (k + 1) (by omega))

set_option maxRecDepth 100000 in
set_option maxHeartbeats 4000000 in
theorem l_X12_wanted_b {K : x_K} {S : x_S} {P : x_P} {I : x_I} {J : x_J} {n : Nat} {lane wr m : Int32} (t sh i N : Nat) (ht : t < 6) (hs : sh < 4) (hi : i + 2 * N ≤ 64) (hm : m = nI N) (hn : 0 ≤ (I 39 2).toInt ∧ (I 39 2).toInt ≤ 10) (hfo : ∀ s, s < m_ns I → m_fo I s) (hg : ∀ j, j < N → g_pair I sh i j) (hS : x_hS S) (hP : x_hP P) (hK : K (some (.int (nI (q_wr I t sh i N)))) S P (z_wr I t sh i N) J n) : ∀ d k : Nat, k + d = 640 → x_V f_X12_wanted K 116 [some (.ref 39), some (.int (nI t)), some (.int (nI sh)), some (.int lane), some (.int (nI i)), some (.int m), some (.int wr), some (.int (nI (64 * sh + i))), some (.int (nI k)), none, none] [] S P (x_fi I 54 (640 * t) k 0) J n 0 0 := by
  intro d
  induction d with
  | zero =>
    intro k hd
    have e9 : k = 640 := by omega
    subst e9
    refine v_iload d_X12_wanted_116 rfl ?_
    refine v_sipush (v := nI 640) d_X12_wanted_118 x_sp_640 ?_
    refine w_icmp_ge d_X12_wanted_121 (fun h121 => ?_) (fun h121 => False.elim (by (try simp (disch := omega) only [x_ti, x_tm1] at h121); omega))
    refine v_iconst (v := nI 0) d_X12_wanted_144 x_ic_0 ?_
    refine v_istore (ls' := [_, _, _, _, _, _, _, _, _, _, _]) d_X12_wanted_145 (by decide) rfl ?_
    refine v_iconst (v := nI 0) d_X12_wanted_147 x_ic_0 ?_
    refine v_istore (ls' := [_, _, _, _, _, _, _, _, _, _, _]) d_X12_wanted_148 (by decide) rfl ?_
    exact l_X12_wanted_c t sh i N ht hs hi hm hn hfo hg hS hP hK N 0 (by omega)
  | succ d ih =>
    intro k hd
    refine v_iload d_X12_wanted_116 rfl ?_
    refine v_sipush (v := nI 640) d_X12_wanted_118 x_sp_640 ?_
    refine w_icmp_ge d_X12_wanted_121 (fun h121 => False.elim (by (try simp (disch := omega) only [x_ti, x_tm1] at h121); omega)) (fun h121 => ?_)
    refine v_aload_n d_X12_wanted_124 rfl ?_
    refine v_gr d_X12_wanted_125 lf_X12_57_12 rfl (hS _ _ rfl) (hP _ _ _ rfl) ?_
    refine v_sipush (v := nI 640) d_X12_wanted_128 x_sp_640 ?_
    refine v_iload_n d_X12_wanted_131 rfl ?_
    first | refine v_imulN d_X12_wanted_132 ?_ | refine v_imul d_X12_wanted_132 ?_
    refine v_iload d_X12_wanted_133 rfl ?_
    first | refine v_iaddN d_X12_wanted_135 ?_ | refine v_iadd d_X12_wanted_135 ?_
    refine v_iconst (v := nI 0) d_X12_wanted_136 x_ic_0 ?_
    refine v_zast _ d_X12_wanted_137 (rfl) (hS _ _ rfl) (⟨by omega, by omega⟩) (rfl) ?_
    first | refine v_iinc (ls' := [_, _, _, _, _, _, _, _, _, _, _]) d_X12_wanted_138 rfl (x_inc_1 _) (by decide) rfl ?_ | refine v_iinc (ls' := [_, _, _, _, _, _, _, _, _, _, _]) d_X12_wanted_138 rfl rfl (by decide) rfl ?_
    refine v_goto d_X12_wanted_141 ?_
    rw [show nI 0 = 0 from rfl, x_fi_s]
    exact ih (k + 1) (by omega)

set_option maxRecDepth 100000 in
set_option maxHeartbeats 4000000 in
theorem l_X12_wanted_a {K : x_K} {S : x_S} {P : x_P} {I : x_I} {J : x_J} {n : Nat} {lane wr m : Int32} (t sh i N : Nat) (ht : t < 6) (hs : sh < 4) (hi : i + 2 * N ≤ 64) (hm : m = nI N) (hn : 0 ≤ (I 39 2).toInt ∧ (I 39 2).toInt ≤ 10) (hfo : ∀ s, s < m_ns I → m_fo I s) (hS : x_hS S) (hP : x_hP P) (hK : K (some (.int (q_wan1 I t sh i N))) S P (z_wan1 I t sh i N) J n) : ∀ d k : Nat, k + d = N → (∀ j, j < k → g_pair I sh i j) → x_V f_X12_wanted K 65 [some (.ref 39), some (.int (nI t)), some (.int (nI sh)), some (.int lane), some (.int (nI i)), some (.int m), some (.int wr), some (.int (nI (64 * sh + i))), some (.int (nI k)), none, none] [] S P I J n 0 0 := by
  intro d
  induction d with
  | zero =>
    intro k hd hg
    subst hm
    have e9 : k = N := by omega
    subst e9
    refine v_iload d_X12_wanted_65 rfl ?_
    refine v_iload d_X12_wanted_67 rfl ?_
    refine w_icmp_ge d_X12_wanted_69 (fun h69 => ?_) (fun h69 => False.elim (by (try simp (disch := omega) only [x_ti, x_tm1] at h69); omega))
    refine v_iconst (v := nI 0) d_X12_wanted_113 x_ic_0 ?_
    refine v_istore (ls' := [_, _, _, _, _, _, _, _, _, _, _]) d_X12_wanted_114 (by decide) rfl ?_
    have e0 : ¬ (∃ j, j < k ∧ ¬ g_pair I sh i j) := fun ⟨j, h1, h2⟩ => h2 (hg j h1)
    simp only [q_wan1, z_wan1, x_if_f e0] at hK
    have hl := l_X12_wanted_b (lane := lane) (wr := wr) t sh i k ht hs hi rfl hn hfo hg hS hP hK 640 0 (by omega)
    rw [x_fi_0] at hl
    exact hl
  | succ d ih =>
    intro k hd hg
    subst hm
    refine v_iload d_X12_wanted_65 rfl ?_
    refine v_iload d_X12_wanted_67 rfl ?_
    refine w_icmp_ge d_X12_wanted_69 (fun h69 => False.elim (by (try simp (disch := omega) only [x_ti, x_tm1] at h69); omega)) (fun h69 => ?_)
    refine v_aload_n d_X12_wanted_72 rfl ?_
    refine v_aload_n d_X12_wanted_73 rfl ?_
    refine v_gr d_X12_wanted_74 lf_X12_31_12 rfl (hS _ _ rfl) (hP _ _ _ rfl) ?_
    refine v_iload d_X12_wanted_77 rfl ?_
    refine v_iconst (v := nI 2) d_X12_wanted_79 x_ic_2 ?_
    refine v_iload d_X12_wanted_80 rfl ?_
    first | refine v_imulN d_X12_wanted_82 ?_ | refine v_imul d_X12_wanted_82 ?_
    first | refine v_iaddN d_X12_wanted_83 ?_ | refine v_iadd d_X12_wanted_83 ?_
    refine v_iald _ d_X12_wanted_84 (rfl) (hS _ _ rfl) (⟨by omega, by omega⟩) (rfl) ?_
    refine v_aload_n d_X12_wanted_85 rfl ?_
    refine v_gr d_X12_wanted_86 lf_X12_31_12 rfl (hS _ _ rfl) (hP _ _ _ rfl) ?_
    refine v_iload d_X12_wanted_89 rfl ?_
    refine v_iconst (v := nI 2) d_X12_wanted_91 x_ic_2 ?_
    refine v_iload d_X12_wanted_92 rfl ?_
    first | refine v_imulN d_X12_wanted_94 ?_ | refine v_imul d_X12_wanted_94 ?_
    first | refine v_iaddN d_X12_wanted_95 ?_ | refine v_iadd d_X12_wanted_95 ?_
    refine v_iconst (v := nI 1) d_X12_wanted_96 x_ic_1 ?_
    first | refine v_iaddN d_X12_wanted_97 ?_ | refine v_iadd d_X12_wanted_97 ?_
    refine v_iald _ d_X12_wanted_98 (rfl) (hS _ _ rfl) (⟨by omega, by omega⟩) (rfl) ?_
    refine v_cv (as := [_, _]) (rest := []) d_X12_wanted_99 lv_X12_146_12 (hS _ _ rfl) rfl ⟨by decide, by decide⟩ rfl (Nat.le_of_ble_eq_true rfl) (by decide) (by decide) ?_
    refine t_X12_isCell hn.2 hS hP (fun q => ?_) (fun q => ?_)
    · refine w_if_ne d_X12_wanted_102 (fun _ => ?_) (fun h102 => absurd h102 (by decide))
      first | refine v_iinc (ls' := [_, _, _, _, _, _, _, _, _, _, _]) d_X12_wanted_107 rfl (x_inc_1 _) (by decide) rfl ?_ | refine v_iinc (ls' := [_, _, _, _, _, _, _, _, _, _, _]) d_X12_wanted_107 rfl rfl (by decide) rfl ?_
      refine v_goto d_X12_wanted_110 ?_
      have hg1 : ∀ j, j < k + 1 → g_pair I sh i j := fun j hj => by
        rcases Nat.lt_or_ge j k with h1 | h1
        · exact hg j h1
        · rw [show j = k by omega]; exact q
      exact ih (k + 1) (by omega) hg1
    · refine w_if_ne d_X12_wanted_102 (fun h102 => absurd h102 (by decide)) (fun _ => ?_)
      refine v_iconst (v := (-1)) d_X12_wanted_105 x_ic_m1 ?_
      refine v_ret (v := some (.int _)) d_X12_wanted_106 rfl ⟨rfl, _, rfl, rfl⟩ (by decide) (by decide) ?_
      have e0 : ∃ j, j < N ∧ ¬ g_pair I sh i j := ⟨k, by omega, q⟩
      simp only [q_wan1, z_wan1, x_if_t e0] at hK
      exact hK

set_option maxRecDepth 100000 in
set_option maxHeartbeats 4000000 in
theorem t_X12_wanted {K : x_K} {S : x_S} {P : x_P} {I : x_I} {J : x_J} {n : Nat} {t sh lane i m : Int32} (hlo : ∀ k, k < 4 → 0 ≤ (I 46 k).toInt ∧ (I 46 k).toInt ≤ 64) (hh : (I 39 24).toInt ≤ 6) (hn : 0 ≤ (I 39 2).toInt ∧ (I 39 2).toInt ≤ 10) (hfo : ∀ s, s < m_ns I → m_fo I s) (hS : x_hS S) (hP : x_hP P) (hK : K (some (.int (q_wanted I t sh lane i m))) S P (z_wanted I t sh lane i m) J n) : x_Call f_X12_wanted [.ref 39, .int t, .int sh, .int lane, .int i, .int m] K S P I J n := by
  refine x_intro (by decide) 5 (ls := [_, _, _, _, _, _, _, _, _, _, _]) rfl (Nat.le_of_ble_eq_true rfl) ?_
  refine v_aload_n d_X12_wanted_0 rfl ?_
  refine v_iconst (v := nI 0) d_X12_wanted_1 x_ic_0 ?_
  refine v_pi d_X12_wanted_2 (lp_X12_85_12 _) rfl (hS _ _ rfl) (rfl) rfl ?_
  refine v_aload_n d_X12_wanted_5 rfl ?_
  refine v_iload_n d_X12_wanted_6 rfl ?_
  refine v_cv (as := [_]) (rest := []) d_X12_wanted_7 lv_X12_232_12 (hS _ _ rfl) rfl ⟨by decide, by decide⟩ rfl (Nat.le_of_ble_eq_true rfl) (by decide) (by decide) ?_
  refine t_X12_isHour hS hP (fun qh => ?_) (fun qh => ?_)
  · refine w_if_eq d_X12_wanted_10 (fun h10 => absurd h10 (by decide)) (fun _ => ?_)
    refine v_iload_n d_X12_wanted_13 rfl ?_
    refine v_cs (as := [_]) (rest := []) d_X12_wanted_14 ls_X12_132 rfl ⟨by decide, by decide⟩ rfl (Nat.le_of_ble_eq_true rfl) (by decide) (by decide) ?_
    refine t_X12_isSheet (fun q1 => ?_) (fun q1 => ?_)
    · refine w_if_ne d_X12_wanted_17 (fun _ => ?_) (fun h17 => absurd h17 (by decide))
      refine v_iload_n d_X12_wanted_22 rfl ?_
      refine v_cs (as := [_]) (rest := []) d_X12_wanted_23 ls_X12_135 rfl ⟨by decide, by decide⟩ rfl (Nat.le_of_ble_eq_true rfl) (by decide) (by decide) ?_
      refine t_X12_isLane (fun q2 => ?_) (fun q2 => ?_)
      · refine w_if_ne d_X12_wanted_26 (fun _ => ?_) (fun h26 => absurd h26 (by decide))
        have qh : 0 ≤ t.toInt ∧ t.toInt < (I 39 24).toInt := qh
        obtain ⟨a, rfl, hk_a, t_a, y_a⟩ := x_ex1 (s := t) (by omega)
        obtain ⟨b, rfl, hk_b, t_b, y_b⟩ := x_ex1 (s := sh) (by omega)
        refine v_aload_n d_X12_wanted_32 rfl ?_
        refine v_iload_n d_X12_wanted_33 rfl ?_
        refine v_iload_n d_X12_wanted_34 rfl ?_
        refine v_iload d_X12_wanted_35 rfl ?_
        refine v_iload d_X12_wanted_37 rfl ?_
        refine v_iconst (v := nI 2) d_X12_wanted_39 x_ic_2 ?_
        refine v_cv (as := [_, _, _, _, _]) (rest := []) d_X12_wanted_40 lv_X12_142_12 (hS _ _ rfl) rfl ⟨by decide, by decide⟩ rfl (Nat.le_of_ble_eq_true rfl) (by decide) (by decide) ?_
        refine t_X12_against b 2 rfl (by omega) rfl (by decide) (hlo b (by omega)) hS hP (fun h0 => ?_) (fun f hf hf0 => ?_)
        · refine v_istore (ls' := [_, _, _, _, _, _, _, _, _, _, _]) d_X12_wanted_43 (by decide) rfl ?_
          refine v_iload d_X12_wanted_45 rfl ?_
          refine w_if_eq d_X12_wanted_47 (fun _ => ?_) (fun a47 => absurd a47 (by decide))
          have h0 : m_ag (I 45 b).toInt (I 46 b).toInt lane.toInt i.toInt m.toInt 2 = 0 := h0
          have hg0 := m_ag_0 h0
          obtain ⟨r, rfl, hk_r, t_r, y_r⟩ := x_ex1 (s := i) (by omega)
          obtain ⟨N, rfl, hk_N, t_N, y_N⟩ := x_ex1 (s := m) (by omega)
          refine v_bipush (v := nI 64) d_X12_wanted_53 x_bp_64 ?_
          refine v_iload_n d_X12_wanted_55 rfl ?_
          first | refine v_imulN d_X12_wanted_56 ?_ | refine v_imul d_X12_wanted_56 ?_
          refine v_iload d_X12_wanted_57 rfl ?_
          first | refine v_iaddN d_X12_wanted_59 ?_ | refine v_iadd d_X12_wanted_59 ?_
          refine v_istore (ls' := [_, _, _, _, _, _, _, _, _, _, _]) d_X12_wanted_60 (by decide) rfl ?_
          refine v_iconst (v := nI 0) d_X12_wanted_62 x_ic_0 ?_
          refine v_istore (ls' := [_, _, _, _, _, _, _, _, _, _, _]) d_X12_wanted_63 (by decide) rfl ?_
          have e0 : ¬ (¬ (g_hr I (nI a) ∧ g_ey (nI b))) := by unfold g_hr g_ey; omega
          have e1 : ¬ (¬ (0 ≤ lane.toInt ∧ lane.toInt ≤ 2)) := by omega
          have e2 : ¬ (¬ m_ag (I 45 b).toInt (I 46 b).toInt lane.toInt (nI r).toInt (nI N).toInt 2 = 0) := fun z => z h0
          simp only [q_wanted, z_wanted, x_if_f e0, x_if_f e1, y_a, y_b, y_r, y_N, x_if_f e2] at hK
          exact l_X12_wanted_a (I := x_u2 I 39 0 (nI 0)) a b r N (by omega) (by omega) (by have := hlo b (by omega); omega) rfl hn hfo hS hP hK N 0 (by omega) (fun j hj => by omega)
        · refine v_istore (ls' := [_, _, _, _, _, _, _, _, _, _, _]) d_X12_wanted_43 (by decide) rfl ?_
          refine v_iload d_X12_wanted_45 rfl ?_
          refine w_if_eq d_X12_wanted_47 (fun a47 => False.elim (by (try simp (disch := omega) only [x_ti, x_tm1] at a47); rw [x_m10 (by rw [← hf]; exact m_ag_le _ _ _ _ _ _)] at a47; omega)) (fun a47 => ?_)
          refine v_iload d_X12_wanted_50 rfl ?_
          refine v_ret (v := some (.int _)) d_X12_wanted_52 rfl ⟨rfl, _, rfl, rfl⟩ (by decide) (by decide) ?_
          have hf : m_ag (I 45 b).toInt (I 46 b).toInt lane.toInt i.toInt m.toInt 2 = f := hf
          have e0 : ¬ (¬ (g_hr I (nI a) ∧ g_ey (nI b))) := by unfold g_hr g_ey; omega
          have e1 : ¬ (¬ (0 ≤ lane.toInt ∧ lane.toInt ≤ 2)) := by omega
          have e2 : ¬ m_ag (I 45 b).toInt (I 46 b).toInt lane.toInt i.toInt m.toInt 2 = 0 := by rw [hf]; exact hf0
          simp only [q_wanted, z_wanted, x_if_f e0, x_if_f e1, y_a, y_b, x_if_t e2] at hK
          rw [hf] at hK
          exact hK
      · refine w_if_ne d_X12_wanted_26 (fun h26 => absurd h26 (by decide)) (fun _ => ?_)
        refine v_bipush (v := (-2)) d_X12_wanted_29 x_bp_m2 ?_
        refine v_ret (v := some (.int _)) d_X12_wanted_31 rfl ⟨rfl, _, rfl, rfl⟩ (by decide) (by decide) ?_
        have qh : 0 ≤ t.toInt ∧ t.toInt < (I 39 24).toInt := qh
        have e0 : ¬ (¬ (g_hr I t ∧ g_ey sh)) := by unfold g_hr g_ey; omega
        have e1 : ¬ (0 ≤ lane.toInt ∧ lane.toInt ≤ 2) := by omega
        simp only [q_wanted, z_wanted, x_if_f e0, x_if_t e1] at hK
        exact hK
    · refine w_if_ne d_X12_wanted_17 (fun h17 => absurd h17 (by decide)) (fun _ => ?_)
      refine v_iconst (v := (-1)) d_X12_wanted_20 x_ic_m1 ?_
      refine v_ret (v := some (.int _)) d_X12_wanted_21 rfl ⟨rfl, _, rfl, rfl⟩ (by decide) (by decide) ?_
      have e0 : ¬ (g_hr I t ∧ g_ey sh) := fun z => by first | exact qh z.1 | exact q1 z.2
      simp only [q_wanted, z_wanted, x_if_t e0] at hK
      exact hK
  · refine w_if_eq d_X12_wanted_10 (fun _ => ?_) (fun h10 => absurd h10 (by decide))
    refine v_iconst (v := (-1)) d_X12_wanted_20 x_ic_m1 ?_
    refine v_ret (v := some (.int _)) d_X12_wanted_21 rfl ⟨rfl, _, rfl, rfl⟩ (by decide) (by decide) ?_
    have e0 : ¬ (g_hr I t ∧ g_ey sh) := fun z => by first | exact qh z.1 | exact q1 z.2
    simp only [q_wanted, z_wanted, x_if_t e0] at hK
    exact hK

