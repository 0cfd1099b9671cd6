set_option maxRecDepth 100000 in
set_option maxHeartbeats 4000000 in
theorem l_X12_picture_b {K : x_K} {S : x_S} {P : x_P} {I : x_I} {J : x_J} {n : Nat} {lane wr : Int32} (e sh i N : Nat) (he : e < 4) (hs : sh < 4) (hi : i + N ≤ 64) (v : Int32) (hS : x_hS S) (hP : x_hP P) (hK : K (some (.int v)) S P (x_fg I 44 (64 * e) N (fun j => I 47 (64 * sh + i + j))) J n) : ∀ d k : Nat, k + d = N → x_V f_X12_picture K 134 [some (.ref 39), some (.int (nI e)), some (.int (nI sh)), some (.int lane), some (.int (nI i)), some (.int (nI N)), some (.int wr), some (.int (nI (64 * sh + i))), some (.int v), some (.int (nI k))] [] S P (x_fg I 44 (64 * e) k (fun j => I 47 (64 * sh + i + j))) J n 0 0 := by
  intro d
  induction d with
  | zero =>
    intro k hd
    have e9 : k = N := by omega
    subst e9
    refine v_iload d_X12_picture_134 rfl ?_
    refine v_iload d_X12_picture_136 rfl ?_
    refine w_icmp_ge d_X12_picture_138 (fun h138 => ?_) (fun h138 => False.elim (by (try simp (disch := omega) only [x_ti, x_tm1] at h138); omega))
    refine v_iload d_X12_picture_169 rfl ?_
    refine v_ret (v := some (.int _)) d_X12_picture_171 rfl ⟨rfl, _, rfl, rfl⟩ (by decide) (by decide) ?_
    exact hK
  | succ d ih =>
    intro k hd
    refine v_iload d_X12_picture_134 rfl ?_
    refine v_iload d_X12_picture_136 rfl ?_
    refine w_icmp_ge d_X12_picture_138 (fun h138 => False.elim (by (try simp (disch := omega) only [x_ti, x_tm1] at h138); omega)) (fun h138 => ?_)
    refine v_aload_n d_X12_picture_141 rfl ?_
    refine v_gr d_X12_picture_142 lf_X12_22_12 rfl (hS _ _ rfl) (hP _ _ _ rfl) ?_
    refine v_bipush (v := nI 64) d_X12_picture_145 x_bp_64 ?_
    refine v_iload_n d_X12_picture_147 rfl ?_
    first | refine v_imulN d_X12_picture_148 ?_ | refine v_imul d_X12_picture_148 ?_
    refine v_iload d_X12_picture_149 rfl ?_
    first | refine v_iaddN d_X12_picture_151 ?_ | refine v_iadd d_X12_picture_151 ?_
    refine v_aload_n d_X12_picture_152 rfl ?_
    refine v_gr d_X12_picture_153 lf_X12_31_12 rfl (hS _ _ rfl) (hP _ _ _ rfl) ?_
    refine v_iload d_X12_picture_156 rfl ?_
    refine v_iload d_X12_picture_158 rfl ?_
    first | refine v_iaddN d_X12_picture_160 ?_ | refine v_iadd d_X12_picture_160 ?_
    refine v_iald (v := I 47 (64 * sh + i + k)) _ d_X12_picture_161 (rfl) (hS _ _ rfl) (⟨by omega, by omega⟩) (rfl) ?_
    refine v_iast _ d_X12_picture_162 (rfl) (hS _ _ rfl) (⟨by omega, by omega⟩) ?_
    first | refine v_iinc (ls' := [_, _, _, _, _, _, _, _, _, _]) d_X12_picture_163 rfl (x_inc_1 _) (by decide) rfl ?_ | refine v_iinc (ls' := [_, _, _, _, _, _, _, _, _, _]) d_X12_picture_163 rfl rfl (by decide) rfl ?_
    refine v_goto d_X12_picture_166 ?_
    rw [x_fg_t (g := (fun j => I 47 (64 * sh + i + j))) rfl]
    exact ih (k + 1) (by omega)

set_option maxRecDepth 100000 in
set_option maxHeartbeats 4000000 in
theorem l_X12_picture_a {K : x_K} {S : x_S} {P : x_P} {I : x_I} {J : x_J} {n : Nat} {lane wr : Int32} (e sh i N : Nat) (he : e < 4) (hs : sh < 4) (hi : i + N ≤ 64) (hS : x_hS S) (hP : x_hP P) (hK : K (some (.int (q_pic1 I sh i N))) S P (z_pic1 I e sh i N) J n) : ∀ d k : Nat, k + d = N → (∀ j, j < k → g_cl (I 47 (64 * sh + i + j))) → x_V f_X12_picture K 73 [some (.ref 39), some (.int (nI e)), some (.int (nI sh)), some (.int lane), some (.int (nI i)), some (.int (nI N)), some (.int wr), some (.int (nI (64 * sh + i))), some (.int (nI (x_ct (fun j => decide (0 < (I 47 (64 * sh + i + j)).toInt)) k))), some (.int (nI k))] [] S P I J n 0 0 := by
  intro d
  induction d with
  | zero =>
    intro k hd hg
    have e9 : k = N := by omega
    subst e9
    refine v_iload d_X12_picture_73 rfl ?_
    refine v_iload d_X12_picture_75 rfl ?_
    refine w_icmp_ge d_X12_picture_77 (fun h77 => ?_) (fun h77 => False.elim (by (try simp (disch := omega) only [x_ti, x_tm1] at h77); omega))
    refine v_iconst (v := nI 0) d_X12_picture_131 x_ic_0 ?_
    refine v_istore (ls' := [_, _, _, _, _, _, _, _, _, _]) d_X12_picture_132 (by decide) rfl ?_
    have e0 : ¬ (∃ j, j < k ∧ ¬ g_cl (I 47 (64 * sh + i + j))) := fun ⟨j, h1, h2⟩ => h2 (hg j h1)
    simp only [q_pic1, z_pic1, x_if_f e0] at hK
    have hl := l_X12_picture_b (lane := lane) (wr := wr) e sh i k he hs hi _ hS hP hK k 0 (by omega)
    rw [x_fg_0] at hl
    exact hl
  | succ d ih =>
    intro k hd hg
    refine v_iload d_X12_picture_73 rfl ?_
    refine v_iload d_X12_picture_75 rfl ?_
    refine w_icmp_ge d_X12_picture_77 (fun h77 => False.elim (by (try simp (disch := omega) only [x_ti, x_tm1] at h77); omega)) (fun h77 => ?_)
    refine v_aload_n d_X12_picture_80 rfl ?_
    refine v_gr d_X12_picture_81 lf_X12_31_12 rfl (hS _ _ rfl) (hP _ _ _ rfl) ?_
    refine v_iload d_X12_picture_84 rfl ?_
    refine v_iload d_X12_picture_86 rfl ?_
    first | refine v_iaddN d_X12_picture_88 ?_ | refine v_iadd d_X12_picture_88 ?_
    refine v_iald _ d_X12_picture_89 (rfl) (hS _ _ rfl) (⟨by omega, by omega⟩) (rfl) ?_
    refine v_iconst (v := nI 0) d_X12_picture_90 x_ic_0 ?_
    refine v_bipush (v := nI 9) d_X12_picture_91 x_bp_9 ?_
    refine v_cs (as := [_, _, _]) (rest := []) d_X12_picture_93 ls_X12_90 rfl ⟨by decide, by decide⟩ rfl (Nat.le_of_ble_eq_true rfl) (by decide) (by decide) ?_
    refine t_X12_within (x_ti (k := 0) (by decide)) (x_ti (k := 9) (by decide)) (fun q => ?_) (fun q => ?_)
    · refine w_if_ne d_X12_picture_96 (fun _ => ?_) (fun h96 => absurd h96 (by decide))
      refine v_iload d_X12_picture_102 rfl ?_
      refine v_aload_n d_X12_picture_104 rfl ?_
      refine v_gr d_X12_picture_105 lf_X12_31_12 rfl (hS _ _ rfl) (hP _ _ _ rfl) ?_
      refine v_iload d_X12_picture_108 rfl ?_
      refine v_iload d_X12_picture_110 rfl ?_
      first | refine v_iaddN d_X12_picture_112 ?_ | refine v_iadd d_X12_picture_112 ?_
      refine v_iald _ d_X12_picture_113 (rfl) (hS _ _ rfl) (⟨by omega, by omega⟩) (rfl) ?_
      refine w_if_le d_X12_picture_114 (fun h114 => ?_) (fun h114 => ?_)
      · try simp (disch := omega) only [x_ti, x_tm1] at h114
        refine v_iconst (v := nI 0) d_X12_picture_121 x_ic_0 ?_
        first | refine v_iaddN d_X12_picture_122 ?_ | refine v_iadd d_X12_picture_122 ?_
        refine v_istore (ls' := [_, _, _, _, _, _, _, _, _, _]) d_X12_picture_123 (by decide) rfl ?_
        first | refine v_iinc (ls' := [_, _, _, _, _, _, _, _, _, _]) d_X12_picture_125 rfl (x_inc_1 _) (by decide) rfl ?_ | refine v_iinc (ls' := [_, _, _, _, _, _, _, _, _, _]) d_X12_picture_125 rfl rfl (by decide) rfl ?_
        refine v_goto d_X12_picture_128 ?_
        have hg1 : ∀ j, j < k + 1 → g_cl (I 47 (64 * sh + i + j)) := fun j hj => by
          rcases Nat.lt_or_ge j k with h1 | h1
          · exact hg j h1
          · rw [show j = k by omega]; exact q
        first | (rw [x_ct_y (p := (fun j => decide (0 < (I 47 (64 * sh + i + j)).toInt))) (k := k) (by simp; omega)]; exact ih (k + 1) (by omega) hg1) | (rw [x_ct_n (p := (fun j => decide (0 < (I 47 (64 * sh + i + j)).toInt))) (k := k) (by simp; omega)]; exact ih (k + 1) (by omega) hg1)
      · try simp (disch := omega) only [x_ti, x_tm1] at h114
        refine v_iconst (v := nI 1) d_X12_picture_117 x_ic_1 ?_
        refine v_goto d_X12_picture_118 ?_
        first | refine v_iaddN d_X12_picture_122 ?_ | refine v_iadd d_X12_picture_122 ?_
        refine v_istore (ls' := [_, _, _, _, _, _, _, _, _, _]) d_X12_picture_123 (by decide) rfl ?_
        first | refine v_iinc (ls' := [_, _, _, _, _, _, _, _, _, _]) d_X12_picture_125 rfl (x_inc_1 _) (by decide) rfl ?_ | refine v_iinc (ls' := [_, _, _, _, _, _, _, _, _, _]) d_X12_picture_125 rfl rfl (by decide) rfl ?_
        refine v_goto d_X12_picture_128 ?_
        have hg1 : ∀ j, j < k + 1 → g_cl (I 47 (64 * sh + i + j)) := fun j hj => by
          rcases Nat.lt_or_ge j k with h1 | h1
          · exact hg j h1
          · rw [show j = k by omega]; exact q
        first | (rw [x_ct_y (p := (fun j => decide (0 < (I 47 (64 * sh + i + j)).toInt))) (k := k) (by simp; omega)]; exact ih (k + 1) (by omega) hg1) | (rw [x_ct_n (p := (fun j => decide (0 < (I 47 (64 * sh + i + j)).toInt))) (k := k) (by simp; omega)]; exact ih (k + 1) (by omega) hg1)
    · refine w_if_ne d_X12_picture_96 (fun h96 => absurd h96 (by decide)) (fun _ => ?_)
      refine v_bipush (v := (-2)) d_X12_picture_99 x_bp_m2 ?_
      refine v_ret (v := some (.int _)) d_X12_picture_101 rfl ⟨rfl, _, rfl, rfl⟩ (by decide) (by decide) ?_
      have e0 : ∃ j, j < N ∧ ¬ g_cl (I 47 (64 * sh + i + j)) := ⟨k, by omega, q⟩
      simp only [q_pic1, z_pic1, x_if_t e0] at hK
      exact hK

set_option maxRecDepth 100000 in
set_option maxHeartbeats 4000000 in
theorem l_X12_picture_c {K : x_K} {S : x_S} {P : x_P} {I : x_I} {J : x_J} {n : Nat} {lane i : Int32} (e sh : Nat) (he : e < 4) (hs : sh < 4) (hlo : ∀ k, k < 4 → 0 ≤ (I 46 k).toInt ∧ (I 46 k).toInt ≤ 64) (hbo : m_fo I 10) (hS : x_hS S) (hP : x_hP P) (hK : K (some (.int (q_pic2 I (nI sh) lane i))) S P (z_pic2 I (nI e) (nI sh) lane i) J n) (cs sl : Nat) (hcs : cs = 0) (hsl : sl = 0) : x_V f_X12_picture K 35 [some (.ref 39), some (.int (nI e)), some (.int (nI sh)), some (.int lane), some (.int i), none, none, none, none, none] [.int (I 41 64 * I 41 65)] S P I J n cs sl := by
  subst hcs hsl
  have hc := m_ce_in hbo
  have hcb : (I 41 64 * I 41 65).toInt = m_ce I 10 := rfl
  have hcN : I 41 64 * I 41 65 = nI (m_ce I 10).toNat := x_of' (by omega)
  have ysh : x_k (nI sh) = sh := x_kn (by omega)
  have ye : x_k (nI e) = e := x_kn (by omega)
  refine v_istore (ls' := [_, _, _, _, _, _, _, _, _, _]) d_X12_picture_35 (by decide) rfl ?_
  refine v_aload_n d_X12_picture_37 rfl ?_
  refine v_iload_n d_X12_picture_38 rfl ?_
  refine v_iload_n d_X12_picture_39 rfl ?_
  refine v_iload d_X12_picture_40 rfl ?_
  refine v_iload d_X12_picture_42 rfl ?_
  refine v_iconst (v := nI 1) d_X12_picture_44 x_ic_1 ?_
  refine v_cv (as := [_, _, _, _, _]) (rest := []) d_X12_picture_45 lv_X12_142_12 (hS _ _ rfl) rfl ⟨by decide, by decide⟩ rfl (Nat.le_of_ble_eq_true rfl) (by decide) (by decide) ?_
  refine t_X12_against (m := I 41 64 * I 41 65) sh 1 rfl hs rfl (by decide) (hlo sh hs) hS hP (fun h0 => ?_) (fun f hf hf0 => ?_)
  · refine v_istore (ls' := [_, _, _, _, _, _, _, _, _, _]) d_X12_picture_48 (by decide) rfl ?_
    refine v_iload d_X12_picture_50 rfl ?_
    refine w_if_eq d_X12_picture_52 (fun _ => ?_) (fun a52 => absurd a52 (by decide))
    have hg0 := m_ag_0 h0
    obtain ⟨r, rfl, hk_r, t_r, y_r⟩ := x_ex1 (s := i) (by omega)
    refine v_bipush (v := nI 64) d_X12_picture_58 x_bp_64 ?_
    refine v_iload_n d_X12_picture_60 rfl ?_
    first | refine v_imulN d_X12_picture_61 ?_ | refine v_imul d_X12_picture_61 ?_
    refine v_iload d_X12_picture_62 rfl ?_
    first | refine v_iaddN d_X12_picture_64 ?_ | refine v_iadd d_X12_picture_64 ?_
    refine v_istore (ls' := [_, _, _, _, _, _, _, _, _, _]) d_X12_picture_65 (by decide) rfl ?_
    refine v_iconst (v := nI 0) d_X12_picture_67 x_ic_0 ?_
    refine v_istore (ls' := [_, _, _, _, _, _, _, _, _, _]) d_X12_picture_68 (by decide) rfl ?_
    refine v_iconst (v := nI 0) d_X12_picture_70 x_ic_0 ?_
    refine v_istore (ls' := [_, _, _, _, _, _, _, _, _, _]) d_X12_picture_71 (by decide) rfl ?_
    have e0 : ¬ (¬ m_ag (I 45 sh).toInt (I 46 sh).toInt lane.toInt (nI r).toInt (m_ce I 10) 1 = 0) := fun z => z h0
    simp only [q_pic2, z_pic2, x_if_f e0, ye, ysh, y_r] at hK
    have hl := l_X12_picture_a (lane := lane) (wr := nI 0) e sh r (m_ce I 10).toNat he hs (by have := hlo sh hs; omega) hS hP hK (m_ce I 10).toNat 0 (by omega) (fun j hj => by omega)
    rw [← hcN] at hl
    exact hl
  · refine v_istore (ls' := [_, _, _, _, _, _, _, _, _, _]) d_X12_picture_48 (by decide) rfl ?_
    refine v_iload d_X12_picture_50 rfl ?_
    refine w_if_eq d_X12_picture_52 (fun a52 => False.elim (by (try simp (disch := omega) only [x_ti, x_tm1] at a52); rw [x_m10 (by rw [← hf]; exact m_ag_le _ _ _ _ _ _)] at a52; omega)) (fun a52 => ?_)
    refine v_iload d_X12_picture_55 rfl ?_
    refine v_ret (v := some (.int _)) d_X12_picture_57 rfl ⟨rfl, _, rfl, rfl⟩ (by decide) (by decide) ?_
    have hf : m_ag (I 45 sh).toInt (I 46 sh).toInt lane.toInt i.toInt (I 41 64 * I 41 65).toInt 1 = f := hf
    have e0 : ¬ m_ag (I 45 (x_k (nI sh))).toInt (I 46 (x_k (nI sh))).toInt lane.toInt i.toInt (m_ce I 10) 1 = 0 := by rw [ysh, hcb.symm]; rw [hf]; exact hf0
    simp only [q_pic2, z_pic2, x_if_t e0] at hK
    rw [ysh, hcb.symm, hf] at hK
    exact hK

set_option maxRecDepth 100000 in
set_option maxHeartbeats 4000000 in
theorem t_X12_picture {K : x_K} {S : x_S} {P : x_P} {I : x_I} {J : x_J} {n : Nat} {e sh lane i : Int32} (hlo : ∀ k, k < 4 → 0 ≤ (I 46 k).toInt ∧ (I 46 k).toInt ≤ 64) (hbo : m_fo (m_nb (x_u2 I 39 0 (nI 0))) 10) (hS : x_hS S) (hP : x_hP P) (hK : K (some (.int (q_picture I e sh lane i))) S P (z_picture I e sh lane i) J n) : x_Call f_X12_picture [.ref 39, .int e, .int sh, .int lane, .int i] K S P I J n := by
  refine x_intro (by decide) 5 (ls := [_, _, _, _, _, _, _, _, _, _]) rfl (Nat.le_of_ble_eq_true rfl) ?_
  refine v_aload_n d_X12_picture_0 rfl ?_
  refine v_iconst (v := nI 0) d_X12_picture_1 x_ic_0 ?_
  refine v_pi d_X12_picture_2 (lp_X12_85_12 _) rfl (hS _ _ rfl) (rfl) rfl ?_
  refine v_iload_n d_X12_picture_5 rfl ?_
  refine v_cs (as := [_]) (rest := []) d_X12_picture_6 ls_X12_123 rfl ⟨by decide, by decide⟩ rfl (Nat.le_of_ble_eq_true rfl) (by decide) (by decide) ?_
  refine t_X12_isEye (fun q => ?_) (fun q => ?_)
  · refine w_if_eq d_X12_picture_9 (fun h9 => absurd h9 (by decide)) (fun _ => ?_)
    refine v_iload_n d_X12_picture_12 rfl ?_
    refine v_cs (as := [_]) (rest := []) d_X12_picture_13 ls_X12_132 rfl ⟨by decide, by decide⟩ rfl (Nat.le_of_ble_eq_true rfl) (by decide) (by decide) ?_
    refine t_X12_isSheet (fun q1 => ?_) (fun q1 => ?_)
    · refine w_if_ne d_X12_picture_16 (fun _ => ?_) (fun h16 => absurd h16 (by decide))
      refine v_iload_n d_X12_picture_21 rfl ?_
      refine v_cs (as := [_]) (rest := []) d_X12_picture_22 ls_X12_135 rfl ⟨by decide, by decide⟩ rfl (Nat.le_of_ble_eq_true rfl) (by decide) (by decide) ?_
      refine t_X12_isLane (fun q2 => ?_) (fun q2 => ?_)
      · refine w_if_ne d_X12_picture_25 (fun _ => ?_) (fun h25 => absurd h25 (by decide))
        refine v_aload_n d_X12_picture_31 rfl ?_
        refine v_cv (as := []) (rest := []) d_X12_picture_32 lv_X12_138_12 (hS _ _ rfl) rfl ⟨by decide, by decide⟩ rfl (Nat.le_of_ble_eq_true rfl) (by decide) (by decide) ?_
        refine t_X12_boardCells hS hP ?_
        obtain ⟨a, rfl, hk_a, t_a, y_a⟩ := x_ex1 (s := e) (by omega)
        obtain ⟨b, rfl, hk_b, t_b, y_b⟩ := x_ex1 (s := sh) (by omega)
        have e0 : ¬ (¬ (g_ey (nI a) ∧ g_ey (nI b))) := by unfold g_ey; omega
        have e1 : ¬ (¬ (0 ≤ lane.toInt ∧ lane.toInt ≤ 2)) := by omega
        simp only [q_picture, z_picture, x_if_f e0, x_if_f e1] at hK
        exact l_X12_picture_c a b (by omega) (by omega) (fun k hk => by rw [m_nb_at _ (by decide) (by omega)]; exact hlo k hk) hbo hS hP hK _ _ rfl rfl
      · refine w_if_ne d_X12_picture_25 (fun h25 => absurd h25 (by decide)) (fun _ => ?_)
        refine v_bipush (v := (-2)) d_X12_picture_28 x_bp_m2 ?_
        refine v_ret (v := some (.int _)) d_X12_picture_30 rfl ⟨rfl, _, rfl, rfl⟩ (by decide) (by decide) ?_
        have e0 : ¬ (¬ (g_ey e ∧ g_ey sh)) := by unfold g_ey; omega
        have e1 : ¬ (0 ≤ lane.toInt ∧ lane.toInt ≤ 2) := by omega
        simp only [q_picture, z_picture, x_if_f e0, x_if_t e1] at hK
        exact hK
    · refine w_if_ne d_X12_picture_16 (fun h16 => absurd h16 (by decide)) (fun _ => ?_)
      refine v_iconst (v := (-1)) d_X12_picture_19 x_ic_m1 ?_
      refine v_ret (v := some (.int _)) d_X12_picture_20 rfl ⟨rfl, _, rfl, rfl⟩ (by decide) (by decide) ?_
      have e0 : ¬ (g_ey e ∧ g_ey sh) := by unfold g_ey; omega
      simp only [q_picture, z_picture, x_if_t e0] at hK
      exact hK
  · refine w_if_eq d_X12_picture_9 (fun _ => ?_) (fun h9 => absurd h9 (by decide))
    refine v_iconst (v := (-1)) d_X12_picture_19 x_ic_m1 ?_
    refine v_ret (v := some (.int _)) d_X12_picture_20 rfl ⟨rfl, _, rfl, rfl⟩ (by decide) (by decide) ?_
    have e0 : ¬ (g_ey e ∧ g_ey sh) := by unfold g_ey; omega
    simp only [q_picture, z_picture, x_if_t e0] at hK
    exact hK

