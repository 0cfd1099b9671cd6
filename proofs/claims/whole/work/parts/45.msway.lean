theorem w_nm_cg {Z Z' : x_I} {J J' : x_J} (h : x_ex mE Z Z' J J') {e : Nat} {d : Int} {k j : Nat} (hok : s_ok Z e d k) (he : e < 4) (hbo : m_fo Z 10) (hj : (j : Int) < m_ce Z 10) (hfo : ∀ s, s < m_ns Z → m_fo Z s) : w_nm Z' e (s_x Z e d k) (s_y Z e d k) (s_z Z e d k) j = w_nm Z e (s_x Z e d k) (s_y Z e d k) (s_z Z e d k) j := by
  unfold w_nm w_is
  rw [r_seen_cg h hok hbo hj hfo, h.i 44 _ rfl]
  congr 2
  unfold w_met
  split
  · rfl
  · rw [h.i 42 _ rfl]

set_option maxRecDepth 100000 in
set_option maxHeartbeats 4000000 in
theorem l_X12_sway {K : x_K} {S : x_S} {P : x_P} {n : Nat} {dd what : Int32} (Z : x_I) (J0 : x_J) (e : Nat) (he : e < 4) (hd9 : 1 ≤ dd.toInt ∧ dd.toInt ≤ 9) (hw3 : 0 ≤ what.toInt ∧ what.toInt ≤ 3) (hes : g_es Z) (hbo : m_fo Z 10) (hn : 0 ≤ (Z 39 2).toInt ∧ (Z 39 2).toInt ≤ 10) (hfo : ∀ s, s < m_ns Z → m_fo Z s) (hS : x_hS S) (hP : x_hP P)
    (hK : ∀ r : Int32, r.toInt = s_ans (s_w Z e dd.toInt 27) what.toInt → ∀ (I : x_I) (J : x_J), x_ex mE Z I J0 J → K (some (.int r)) S P I J n) :
    ∀ d k : Nat, k + d = 27 → ∀ (w x y z : Int32) (I : x_I) (J : x_J), x_ex mE Z I J0 J → s_rel (s_w Z e dd.toInt k) w x y z → x_V f_X12_sway K 50 [some (.ref 39), some (.int (nI e)), some (.int dd), some (.int what), some (.int w), some (.int x), some (.int y), some (.int z), some (.int (nI k)), none, none, none, none] [] S P I J n 0 0 := by
  intro d
  induction d with
  | zero =>
    intro k hd w x y z I J hex hr
    have e9 : k = 27 := by omega
    subst e9
    obtain ⟨v, hv⟩ := s_some (s_ok13 (d := dd.toInt) he hes) 27 (by decide)
    rw [hv] at hr
    obtain ⟨r1, r2, r3, r4, r5⟩ := hr
    refine v_iload d_X12_sway_50 rfl ?_
    refine v_bipush (v := nI 27) d_X12_sway_52 x_bp_27 ?_
    refine w_icmp_ge d_X12_sway_54 (fun h54 => ?_) (fun h54 => False.elim (by (try simp (disch := omega) only [x_ti, x_tm1] at h54); omega))
    refine v_iload_n d_X12_sway_178 rfl ?_
    refine w_if_ne d_X12_sway_179 (fun a179 => ?_) (fun a179 => ?_)
    · try simp (disch := omega) only [x_ti, x_tm1] at a179
      refine v_iload_n d_X12_sway_187 rfl ?_
      refine v_iconst (v := nI 1) d_X12_sway_188 x_ic_1 ?_
      refine w_icmp_ne d_X12_sway_189 (fun a189 => ?_) (fun a189 => ?_)
      · try simp (disch := omega) only [x_ti, x_tm1] at a189
        refine v_iload_n d_X12_sway_197 rfl ?_
        refine v_iconst (v := nI 2) d_X12_sway_198 x_ic_2 ?_
        refine w_icmp_ne d_X12_sway_199 (fun a199 => ?_) (fun a199 => ?_)
        · try simp (disch := omega) only [x_ti, x_tm1] at a199
          refine v_iload d_X12_sway_207 rfl ?_
          refine v_ret (v := some (.int _)) d_X12_sway_209 rfl ⟨rfl, _, rfl, rfl⟩ (by decide) (by decide) ?_
          first
            | (exact hK w (by rw [hv]; show _ = if _ then _ else _; rw [if_pos (by omega), r1, x_ti (by omega)]) I J hex)
            | (exact hK x (by rw [hv]; show _ = if _ then _ else _; rw [if_neg (by omega), if_pos (by omega)]; exact r2) I J hex)
            | (exact hK y (by rw [hv]; show _ = if _ then _ else _; rw [if_neg (by omega), if_neg (by omega), if_pos (by omega)]; exact r3) I J hex)
            | (exact hK z (by rw [hv]; show _ = if _ then _ else _; rw [if_neg (by omega), if_neg (by omega), if_neg (by omega)]; exact r4) I J hex)
        · try simp (disch := omega) only [x_ti, x_tm1] at a199
          refine v_iload d_X12_sway_202 rfl ?_
          refine v_goto d_X12_sway_204 ?_
          refine v_ret (v := some (.int _)) d_X12_sway_209 rfl ⟨rfl, _, rfl, rfl⟩ (by decide) (by decide) ?_
          first
            | (exact hK w (by rw [hv]; show _ = if _ then _ else _; rw [if_pos (by omega), r1, x_ti (by omega)]) I J hex)
            | (exact hK x (by rw [hv]; show _ = if _ then _ else _; rw [if_neg (by omega), if_pos (by omega)]; exact r2) I J hex)
            | (exact hK y (by rw [hv]; show _ = if _ then _ else _; rw [if_neg (by omega), if_neg (by omega), if_pos (by omega)]; exact r3) I J hex)
            | (exact hK z (by rw [hv]; show _ = if _ then _ else _; rw [if_neg (by omega), if_neg (by omega), if_neg (by omega)]; exact r4) I J hex)
      · try simp (disch := omega) only [x_ti, x_tm1] at a189
        refine v_iload d_X12_sway_192 rfl ?_
        refine v_goto d_X12_sway_194 ?_
        refine v_ret (v := some (.int _)) d_X12_sway_209 rfl ⟨rfl, _, rfl, rfl⟩ (by decide) (by decide) ?_
        first
          | (exact hK w (by rw [hv]; show _ = if _ then _ else _; rw [if_pos (by omega), r1, x_ti (by omega)]) I J hex)
          | (exact hK x (by rw [hv]; show _ = if _ then _ else _; rw [if_neg (by omega), if_pos (by omega)]; exact r2) I J hex)
          | (exact hK y (by rw [hv]; show _ = if _ then _ else _; rw [if_neg (by omega), if_neg (by omega), if_pos (by omega)]; exact r3) I J hex)
          | (exact hK z (by rw [hv]; show _ = if _ then _ else _; rw [if_neg (by omega), if_neg (by omega), if_neg (by omega)]; exact r4) I J hex)
    · try simp (disch := omega) only [x_ti, x_tm1] at a179
      refine v_iload d_X12_sway_182 rfl ?_
      refine v_goto d_X12_sway_184 ?_
      refine v_ret (v := some (.int _)) d_X12_sway_209 rfl ⟨rfl, _, rfl, rfl⟩ (by decide) (by decide) ?_
      first
        | (exact hK w (by rw [hv]; show _ = if _ then _ else _; rw [if_pos (by omega), r1, x_ti (by omega)]) I J hex)
        | (exact hK x (by rw [hv]; show _ = if _ then _ else _; rw [if_neg (by omega), if_pos (by omega)]; exact r2) I J hex)
        | (exact hK y (by rw [hv]; show _ = if _ then _ else _; rw [if_neg (by omega), if_neg (by omega), if_pos (by omega)]; exact r3) I J hex)
        | (exact hK z (by rw [hv]; show _ = if _ then _ else _; rw [if_neg (by omega), if_neg (by omega), if_neg (by omega)]; exact r4) I J hex)
  | succ d ih =>
    intro k hd w x y z I J hex hr
    refine v_iload d_X12_sway_50 rfl ?_
    refine v_bipush (v := nI 27) d_X12_sway_52 x_bp_27 ?_
    refine w_icmp_ge d_X12_sway_54 (fun h54 => False.elim (by (try simp (disch := omega) only [x_ti, x_tm1] at h54); omega)) (fun h54 => ?_)
    have vx : (I 43 (3 * e) + dd * (nI (k / 9) - nI 1)).toInt = s_x Z e dd.toInt k := by
      have t1 : (nI 1).toInt = 1 := by decide
      have tq := x_ti (k := k / 9) (by omega)
      have s1 : (nI (k / 9) - nI 1).toInt = ((k / 9 : Nat) - 1 : Int) := by rw [x_sub (by omega) (by omega), tq, t1]
      have bb := x_pb (a := dd.toInt) (b := ((k / 9 : Nat) - 1 : Int)) (A := 9) (B := 2) (by omega) (by omega) (by omega) (by omega)
      have s2 : (dd * (nI (k / 9) - nI 1)).toInt = dd.toInt * ((k / 9 : Nat) - 1 : Int) := by rw [x_mul (by rw [s1]; omega) (by rw [s1]; omega), s1]
      have he := hes (3 * e) (by omega)
      have hz := hex.i 43 (3 * e) rfl
      rw [x_add (by rw [s2, hz]; omega) (by rw [s2, hz]; omega), s2, hz]
      rfl
    have vy : (I 43 (3 * e + 1) + dd * (nI (k / 3 % 3) - nI 1)).toInt = s_y Z e dd.toInt k := by
      have t1 : (nI 1).toInt = 1 := by decide
      have tq := x_ti (k := k / 3 % 3) (by omega)
      have s1 : (nI (k / 3 % 3) - nI 1).toInt = ((k / 3 % 3 : Nat) - 1 : Int) := by rw [x_sub (by omega) (by omega), tq, t1]
      have bb := x_pb (a := dd.toInt) (b := ((k / 3 % 3 : Nat) - 1 : Int)) (A := 9) (B := 2) (by omega) (by omega) (by omega) (by omega)
      have s2 : (dd * (nI (k / 3 % 3) - nI 1)).toInt = dd.toInt * ((k / 3 % 3 : Nat) - 1 : Int) := by rw [x_mul (by rw [s1]; omega) (by rw [s1]; omega), s1]
      have he := hes (3 * e + 1) (by omega)
      have hz := hex.i 43 (3 * e + 1) rfl
      rw [x_add (by rw [s2, hz]; omega) (by rw [s2, hz]; omega), s2, hz]
      rfl
    have vz : (I 43 (3 * e + 2) + dd * (nI (k % 3) - nI 1)).toInt = s_z Z e dd.toInt k := by
      have t1 : (nI 1).toInt = 1 := by decide
      have tq := x_ti (k := k % 3) (by omega)
      have s1 : (nI (k % 3) - nI 1).toInt = ((k % 3 : Nat) - 1 : Int) := by rw [x_sub (by omega) (by omega), tq, t1]
      have bb := x_pb (a := dd.toInt) (b := ((k % 3 : Nat) - 1 : Int)) (A := 9) (B := 2) (by omega) (by omega) (by omega) (by omega)
      have s2 : (dd * (nI (k % 3) - nI 1)).toInt = dd.toInt * ((k % 3 : Nat) - 1 : Int) := by rw [x_mul (by rw [s1]; omega) (by rw [s1]; omega), s1]
      have he := hes (3 * e + 2) (by omega)
      have hz := hex.i 43 (3 * e + 2) rfl
      rw [x_add (by rw [s2, hz]; omega) (by rw [s2, hz]; omega), s2, hz]
      rfl
    have hbI := x_fo_cg hex hbo
    have hnI := x_hn_cg hex hn
    have hfI := x_fos_cg hex hfo
    have hcI := x_ce_cg hex 10
    refine v_aload_n d_X12_sway_57 rfl ?_
    refine v_gr d_X12_sway_58 lf_X12_19_12 rfl (hS _ _ rfl) (hP _ _ _ rfl) ?_
    refine v_iconst (v := nI 3) d_X12_sway_61 x_ic_3 ?_
    refine v_iload_n d_X12_sway_62 rfl ?_
    first | refine v_imulN d_X12_sway_63 ?_ | refine v_imul d_X12_sway_63 ?_
    refine v_iald (v := I 43 (3 * e)) _ d_X12_sway_64 (rfl) (hS _ _ rfl) (⟨by omega, by omega⟩) (rfl) ?_
    refine v_iload_n d_X12_sway_65 rfl ?_
    refine v_iload d_X12_sway_66 rfl ?_
    refine v_bipush (v := nI 9) d_X12_sway_68 x_bp_9 ?_
    refine v_idiv d_X12_sway_70 (by decide) ?_
    rw [x_divN (by omega) (by decide) (by decide)]
    refine v_iconst (v := nI 1) d_X12_sway_71 x_ic_1 ?_
    refine v_isub d_X12_sway_72 ?_
    refine v_imul d_X12_sway_73 ?_
    refine v_iadd d_X12_sway_74 ?_
    refine v_istore (ls' := [_, _, _, _, _, _, _, _, _, _, _, _, _]) d_X12_sway_75 (by decide) rfl ?_
    refine v_aload_n d_X12_sway_77 rfl ?_
    refine v_gr d_X12_sway_78 lf_X12_19_12 rfl (hS _ _ rfl) (hP _ _ _ rfl) ?_
    refine v_iconst (v := nI 3) d_X12_sway_81 x_ic_3 ?_
    refine v_iload_n d_X12_sway_82 rfl ?_
    first | refine v_imulN d_X12_sway_83 ?_ | refine v_imul d_X12_sway_83 ?_
    refine v_iconst (v := nI 1) d_X12_sway_84 x_ic_1 ?_
    first | refine v_iaddN d_X12_sway_85 ?_ | refine v_iadd d_X12_sway_85 ?_
    refine v_iald _ d_X12_sway_86 (rfl) (hS _ _ rfl) (⟨by omega, by omega⟩) (rfl) ?_
    refine v_iload_n d_X12_sway_87 rfl ?_
    refine v_iload d_X12_sway_88 rfl ?_
    refine v_iconst (v := nI 3) d_X12_sway_90 x_ic_3 ?_
    refine v_idiv d_X12_sway_91 (by decide) ?_
    rw [x_divN (by omega) (by decide) (by decide)]
    refine v_iconst (v := nI 3) d_X12_sway_92 x_ic_3 ?_
    refine v_irem d_X12_sway_93 (by decide) ?_
    rw [x_remN (by omega) (by decide) (by decide)]
    refine v_iconst (v := nI 1) d_X12_sway_94 x_ic_1 ?_
    refine v_isub d_X12_sway_95 ?_
    refine v_imul d_X12_sway_96 ?_
    refine v_iadd d_X12_sway_97 ?_
    refine v_istore (ls' := [_, _, _, _, _, _, _, _, _, _, _, _, _]) d_X12_sway_98 (by decide) rfl ?_
    refine v_aload_n d_X12_sway_100 rfl ?_
    refine v_gr d_X12_sway_101 lf_X12_19_12 rfl (hS _ _ rfl) (hP _ _ _ rfl) ?_
    refine v_iconst (v := nI 3) d_X12_sway_104 x_ic_3 ?_
    refine v_iload_n d_X12_sway_105 rfl ?_
    first | refine v_imulN d_X12_sway_106 ?_ | refine v_imul d_X12_sway_106 ?_
    refine v_iconst (v := nI 2) d_X12_sway_107 x_ic_2 ?_
    first | refine v_iaddN d_X12_sway_108 ?_ | refine v_iadd d_X12_sway_108 ?_
    refine v_iald _ d_X12_sway_109 (rfl) (hS _ _ rfl) (⟨by omega, by omega⟩) (rfl) ?_
    refine v_iload_n d_X12_sway_110 rfl ?_
    refine v_iload d_X12_sway_111 rfl ?_
    refine v_iconst (v := nI 3) d_X12_sway_113 x_ic_3 ?_
    refine v_irem d_X12_sway_114 (by decide) ?_
    rw [x_remN (by omega) (by decide) (by decide)]
    refine v_iconst (v := nI 1) d_X12_sway_115 x_ic_1 ?_
    refine v_isub d_X12_sway_116 ?_
    refine v_imul d_X12_sway_117 ?_
    refine v_iadd d_X12_sway_118 ?_
    refine v_istore (ls' := [_, _, _, _, _, _, _, _, _, _, _, _, _]) d_X12_sway_119 (by decide) rfl ?_
    refine v_iload d_X12_sway_121 rfl ?_
    refine v_iload d_X12_sway_123 rfl ?_
    refine v_iload d_X12_sway_125 rfl ?_
    refine v_cs (as := [_, _, _]) (rest := []) d_X12_sway_127 ls_X12_126 rfl ⟨by decide, by decide⟩ rfl (Nat.le_of_ble_eq_true rfl) (by decide) (by decide) ?_
    refine t_X12_isPlace (fun qp => ?_) (fun qp => ?_)
    · refine w_if_ne d_X12_sway_130 (fun _ => ?_) (fun h130 => absurd h130 (by decide))
      have hok : s_ok Z e dd.toInt k := by unfold s_ok; rw [← vx, ← vy, ← vz]; exact qp
      refine v_aload_n d_X12_sway_136 rfl ?_
      refine v_iload_n d_X12_sway_137 rfl ?_
      refine v_iload d_X12_sway_138 rfl ?_
      refine v_iload d_X12_sway_140 rfl ?_
      refine v_iload d_X12_sway_142 rfl ?_
      refine v_cv (as := [_, _, _, _]) (rest := []) d_X12_sway_144 lv_X12_226_12 (hS _ _ rfl) rfl ⟨by decide, by decide⟩ rfl (Nat.le_of_ble_eq_true rfl) (by decide) (by decide) ?_
      refine t_X12_notMet e rfl (by omega) qp hbI hnI hfI hS hP (fun I2 J2 h2 => ?_)
      have hct : x_ct (w_nm I e (I 43 (3 * e) + dd * (nI (k / 9) - nI 1)).toInt (I 43 (3 * e + 1) + dd * (nI (k / 3 % 3) - nI 1)).toInt (I 43 (3 * e + 2) + dd * (nI (k % 3) - nI 1)).toInt) (m_ce I 10).toNat = s_n Z e dd.toInt k := by
        unfold s_n
        rw [vx, vy, vz, hcI]
        exact x_ct_cg _ (fun j hj => w_nm_cg hex hok (by omega) hbo (by omega) hfo)
      have hn64 : s_n Z e dd.toInt k ≤ 64 := by have h1 := x_ct_le (w_nm Z e (s_x Z e dd.toInt k) (s_y Z e dd.toInt k) (s_z Z e dd.toInt k)) (m_ce Z 10).toNat; have h2 := m_ce_in hbo; unfold s_n; omega
      rw [hct]
      refine v_istore (ls' := [_, _, _, _, _, _, _, _, _, _, _, _, _]) d_X12_sway_147 (by decide) rfl ?_
      refine v_iload d_X12_sway_149 rfl ?_
      refine v_iload d_X12_sway_151 rfl ?_
      refine w_icmp_le d_X12_sway_153 (fun a153 => ?_) (fun a153 => ?_)
      · first | refine v_iinc (ls' := [_, _, _, _, _, _, _, _, _, _, _, _, _]) d_X12_sway_172 rfl (x_inc_1 _) (by decide) rfl ?_ | refine v_iinc (ls' := [_, _, _, _, _, _, _, _, _, _, _, _, _]) d_X12_sway_172 rfl rfl (by decide) rfl ?_
        refine v_goto d_X12_sway_175 ?_
        refine x_V.fg1 9 (ls' := [_, _, _, _, _, _, _, _, _, _, _, _, _]) rfl ?_
        refine x_V.fg1 10 (ls' := [_, _, _, _, _, _, _, _, _, _, _, _, _]) rfl ?_
        refine x_V.fg1 11 (ls' := [_, _, _, _, _, _, _, _, _, _, _, _, _]) rfl ?_
        refine x_V.fg1 12 (ls' := [_, _, _, _, _, _, _, _, _, _, _, _, _]) rfl ?_
        refine ih (k + 1) (by omega) w x y z I2 J2 (hex.tr h2) ?_
        unfold s_w
        rw [x_if_t hok]
        cases hs : s_w Z e dd.toInt k with
        | none =>
          rw [hs] at hr
          obtain ⟨r1, -⟩ := hr
          rw [r1, x_tm1, x_ti (by omega)] at a153
          exact absurd a153 (by omega)
        | some v =>
          rw [hs] at hr
          obtain ⟨r1, r2, r3, r4, r5⟩ := hr
          rw [r1, x_ti (by omega), x_ti (by omega)] at a153
          unfold s_up
          simp only
          rw [if_neg (by omega)]
          exact ⟨r1, r2, r3, r4, r5⟩
      · refine v_iload d_X12_sway_156 rfl ?_
        refine v_istore (ls' := [_, _, _, _, _, _, _, _, _, _, _, _, _]) d_X12_sway_158 (by decide) rfl ?_
        refine v_iload d_X12_sway_160 rfl ?_
        refine v_istore (ls' := [_, _, _, _, _, _, _, _, _, _, _, _, _]) d_X12_sway_162 (by decide) rfl ?_
        refine v_iload d_X12_sway_164 rfl ?_
        refine v_istore (ls' := [_, _, _, _, _, _, _, _, _, _, _, _, _]) d_X12_sway_166 (by decide) rfl ?_
        refine v_iload d_X12_sway_168 rfl ?_
        refine v_istore (ls' := [_, _, _, _, _, _, _, _, _, _, _, _, _]) d_X12_sway_170 (by decide) rfl ?_
        first | refine v_iinc (ls' := [_, _, _, _, _, _, _, _, _, _, _, _, _]) d_X12_sway_172 rfl (x_inc_1 _) (by decide) rfl ?_ | refine v_iinc (ls' := [_, _, _, _, _, _, _, _, _, _, _, _, _]) d_X12_sway_172 rfl rfl (by decide) rfl ?_
        refine v_goto d_X12_sway_175 ?_
        refine x_V.fg1 9 (ls' := [_, _, _, _, _, _, _, _, _, _, _, _, _]) rfl ?_
        refine x_V.fg1 10 (ls' := [_, _, _, _, _, _, _, _, _, _, _, _, _]) rfl ?_
        refine x_V.fg1 11 (ls' := [_, _, _, _, _, _, _, _, _, _, _, _, _]) rfl ?_
        refine x_V.fg1 12 (ls' := [_, _, _, _, _, _, _, _, _, _, _, _, _]) rfl ?_
        refine ih (k + 1) (by omega) _ (I 43 (3 * e) + dd * (nI (k / 9) - nI 1)) (I 43 (3 * e + 1) + dd * (nI (k / 3 % 3) - nI 1)) (I 43 (3 * e + 2) + dd * (nI (k % 3) - nI 1)) I2 J2 (hex.tr h2) ?_
        unfold s_w
        rw [x_if_t hok]
        cases hs : s_w Z e dd.toInt k with
        | none => exact ⟨rfl, vx, vy, vz, hn64⟩
        | some v =>
          rw [hs] at hr
          obtain ⟨r1, r2, r3, r4, r5⟩ := hr
          rw [r1, x_ti (by omega), x_ti (by omega)] at a153
          unfold s_up
          simp only
          rw [if_pos (by omega)]
          exact ⟨rfl, vx, vy, vz, hn64⟩
    · refine w_if_ne d_X12_sway_130 (fun h130 => absurd h130 (by decide)) (fun _ => ?_)
      refine v_goto d_X12_sway_133 ?_
      first | refine v_iinc (ls' := [_, _, _, _, _, _, _, _, _, _, _, _, _]) d_X12_sway_172 rfl (x_inc_1 _) (by decide) rfl ?_ | refine v_iinc (ls' := [_, _, _, _, _, _, _, _, _, _, _, _, _]) d_X12_sway_172 rfl rfl (by decide) rfl ?_
      refine v_goto d_X12_sway_175 ?_
      refine x_V.fg1 9 (ls' := [_, _, _, _, _, _, _, _, _, _, _, _, _]) rfl ?_
      refine x_V.fg1 10 (ls' := [_, _, _, _, _, _, _, _, _, _, _, _, _]) rfl ?_
      refine x_V.fg1 11 (ls' := [_, _, _, _, _, _, _, _, _, _, _, _, _]) rfl ?_
      have hok : ¬ s_ok Z e dd.toInt k := by unfold s_ok; rw [← vx, ← vy, ← vz]; exact qp
      refine ih (k + 1) (by omega) w x y z I J hex ?_
      unfold s_w
      rw [x_if_f hok]
      exact hr

set_option maxRecDepth 100000 in
set_option maxHeartbeats 4000000 in
theorem t_X12_sway {K : x_K} {S : x_S} {P : x_P} {I : x_I} {J : x_J} {n : Nat} {e d what : Int32} (hes : g_es (m_nb I)) (hbo : m_fo (m_nb I) 10) (hn : 0 ≤ (m_nb I 39 2).toInt ∧ (m_nb I 39 2).toInt ≤ 10) (hfo : ∀ s, s < m_ns (m_nb I) → m_fo (m_nb I) s) (hS : x_hS S) (hP : x_hP P) (hK : ∀ r : Int32, r.toInt = q_sway I e d what → ∀ (I' : x_I) (J' : x_J), x_ex mE (z_sway I e d what) I' J J' → K (some (.int r)) S P I' J' n) : x_Call f_X12_sway [.ref 39, .int e, .int d, .int what] K S P I J n := by
  refine x_intro (by decide) 9 (ls := [_, _, _, _, _, _, _, _, _, _, _, _, _]) rfl (Nat.le_of_ble_eq_true rfl) ?_
  refine v_iload_n d_X12_sway_0 rfl ?_
  refine v_cs (as := [_]) (rest := []) d_X12_sway_1 ls_X12_123 rfl ⟨by decide, by decide⟩ rfl (Nat.le_of_ble_eq_true rfl) (by decide) (by decide) ?_
  refine t_X12_isEye (fun q => ?_) (fun q => ?_)
  · refine w_if_ne d_X12_sway_4 (fun _ => ?_) (fun h4 => absurd h4 (by decide))
    refine v_iload_n d_X12_sway_9 rfl ?_
    refine v_iconst (v := nI 1) d_X12_sway_10 x_ic_1 ?_
    refine v_bipush (v := nI 9) d_X12_sway_11 x_bp_9 ?_
    refine v_cs (as := [_, _, _]) (rest := []) d_X12_sway_13 ls_X12_90 rfl ⟨by decide, by decide⟩ rfl (Nat.le_of_ble_eq_true rfl) (by decide) (by decide) ?_
    refine t_X12_within (x_ti (k := 1) (by decide)) (x_ti (k := 9) (by decide)) (fun q1 => ?_) (fun q1 => ?_)
    · refine w_if_eq d_X12_sway_16 (fun h16 => absurd h16 (by decide)) (fun _ => ?_)
      refine v_iload_n d_X12_sway_19 rfl ?_
      refine v_iconst (v := nI 0) d_X12_sway_20 x_ic_0 ?_
      refine v_iconst (v := nI 3) d_X12_sway_21 x_ic_3 ?_
      refine v_cs (as := [_, _, _]) (rest := []) d_X12_sway_22 ls_X12_90 rfl ⟨by decide, by decide⟩ rfl (Nat.le_of_ble_eq_true rfl) (by decide) (by decide) ?_
      refine t_X12_within (x_ti (k := 0) (by decide)) (x_ti (k := 3) (by decide)) (fun q2 => ?_) (fun q2 => ?_)
      · refine w_if_ne d_X12_sway_25 (fun _ => ?_) (fun h25 => absurd h25 (by decide))
        obtain ⟨k, rfl, hk_k, t_k, y_k⟩ := x_ex1 (s := e) (by omega)
        refine v_aload_n d_X12_sway_31 rfl ?_
        refine v_cv (as := []) (rest := []) d_X12_sway_32 lv_X12_113_12 (hS _ _ rfl) rfl ⟨by decide, by decide⟩ rfl (Nat.le_of_ble_eq_true rfl) (by decide) (by decide) ?_
        refine t_X12_needBoard hS hP ?_
        refine v_iconst (v := (-1)) d_X12_sway_35 x_ic_m1 ?_
        refine v_istore (ls' := [_, _, _, _, _, _, _, _, _, _, _, _, _]) d_X12_sway_36 (by decide) rfl ?_
        refine v_iconst (v := nI 0) d_X12_sway_38 x_ic_0 ?_
        refine v_istore (ls' := [_, _, _, _, _, _, _, _, _, _, _, _, _]) d_X12_sway_39 (by decide) rfl ?_
        refine v_iconst (v := nI 0) d_X12_sway_41 x_ic_0 ?_
        refine v_istore (ls' := [_, _, _, _, _, _, _, _, _, _, _, _, _]) d_X12_sway_42 (by decide) rfl ?_
        refine v_iconst (v := nI 0) d_X12_sway_44 x_ic_0 ?_
        refine v_istore (ls' := [_, _, _, _, _, _, _, _, _, _, _, _, _]) d_X12_sway_45 (by decide) rfl ?_
        refine v_iconst (v := nI 0) d_X12_sway_47 x_ic_0 ?_
        refine v_istore (ls' := [_, _, _, _, _, _, _, _, _, _, _, _, _]) d_X12_sway_48 (by decide) rfl ?_
        have e0 : ¬ (¬ g_ey (nI k)) := by unfold g_ey; omega
        have e1 : ¬ (¬ ((1 ≤ d.toInt ∧ d.toInt ≤ 9) ∧ 0 ≤ what.toInt ∧ what.toInt ≤ 3)) := by omega
        simp only [q_sway, z_sway, x_if_f e0, x_if_f e1, y_k] at hK
        exact l_X12_sway (m_nb I) J k (by omega) q1 (by omega) hes hbo hn hfo hS hP hK 27 0 rfl _ _ _ _ (m_nb I) J x_ex.rf ⟨rfl, rfl, rfl, rfl⟩
      · refine w_if_ne d_X12_sway_25 (fun h25 => absurd h25 (by decide)) (fun _ => ?_)
        refine v_bipush (v := (-2)) d_X12_sway_28 x_bp_m2 ?_
        refine v_ret (v := some (.int _)) d_X12_sway_30 rfl ⟨rfl, _, rfl, rfl⟩ (by decide) (by decide) ?_
        have e0 : ¬ (¬ g_ey e) := by unfold g_ey; omega
        have e1 : ¬ ((1 ≤ d.toInt ∧ d.toInt ≤ 9) ∧ 0 ≤ what.toInt ∧ what.toInt ≤ 3) := by omega
        simp only [q_sway, z_sway, x_if_f e0, x_if_t e1] at hK
        exact hK _ (by decide) I J x_ex.rf
    · refine w_if_eq d_X12_sway_16 (fun _ => ?_) (fun h16 => absurd h16 (by decide))
      refine v_bipush (v := (-2)) d_X12_sway_28 x_bp_m2 ?_
      refine v_ret (v := some (.int _)) d_X12_sway_30 rfl ⟨rfl, _, rfl, rfl⟩ (by decide) (by decide) ?_
      have e0 : ¬ (¬ g_ey e) := by unfold g_ey; omega
      have e1 : ¬ ((1 ≤ d.toInt ∧ d.toInt ≤ 9) ∧ 0 ≤ what.toInt ∧ what.toInt ≤ 3) := by omega
      simp only [q_sway, z_sway, x_if_f e0, x_if_t e1] at hK
      exact hK _ (by decide) I J x_ex.rf
  · refine w_if_ne d_X12_sway_4 (fun h4 => absurd h4 (by decide)) (fun _ => ?_)
    refine v_iconst (v := (-1)) d_X12_sway_7 x_ic_m1 ?_
    refine v_ret (v := some (.int _)) d_X12_sway_8 rfl ⟨rfl, _, rfl, rfl⟩ (by decide) (by decide) ?_
    have e0 : ¬ g_ey e := by unfold g_ey; omega
    simp only [q_sway, z_sway, x_if_t e0] at hK
    exact hK _ (by decide) I J x_ex.rf

