theorem c_R.pi_ {fa : Nat → Nat} {bd : Nat} {Z : x_I} {S : x_S} {P : x_P} {I : x_I} {J : x_J} {n : Nat} {e N : Nat} {g : Nat → Int32} (h : c_R fa bd Z S P I J n) (hn : (Z 39 2).toInt ≤ 10) (he : e < 4) (hN : N ≤ 64) : c_R fa bd (x_fg Z 44 (64 * e) N g) S P (x_fg I (11 + e) 0 N g) J n := by
  have hI : ∀ a, a ≠ 11 + e → ∀ j, x_fg I (11 + e) 0 N g a j = I a j := fun a a1 j => x_fg_na _ _ _ _ _ a1
  have hZ : ∀ a, a ≠ 44 → ∀ j, x_fg Z 44 (64 * e) N g a j = Z a j := fun a a1 j => x_fg_na _ _ _ _ _ a1
  refine h.sm hn (fun a j ha => hI a (by omega) j) (hZ 40 (by decide)) (hZ 41 (by decide)) (hZ 42 (by decide)) (hZ 39 (by decide) 2) (hZ 39 (by decide) 8) (fun j hj => by rw [hI 9 (by omega), hZ 43 (by decide)]; exact h.Ey j hj) ?_ ⟨?_, ?_, fun j hj => ?_⟩ (fun t s c ht hs hc => by rw [hZ 54 (by decide)]; exact h.Wa t s c ht hs hc) (h.Sh.cg (fun k j hk => hI _ (by omega) j) (hI 37 (by omega)) (hI 38 (by omega)) (hZ 45 (by decide)) (hZ 46 (by decide)) (hZ 47 (by decide))) (by rw [hI 31 (by omega), hZ 39 (by decide)]; exact h.fau) (by rw [hI 2 (by omega), hZ 39 (by decide)]; exact h.tra)
  · intro e' k he' hk
    by_cases q : e' = e
    · subst q
      by_cases q2 : k < N
      · rw [x_fg_in _ _ (Nat.zero_le _) (by omega), x_fg_in _ _ (by omega) (by omega)]
        congr 1; omega
      · rw [x_fg_out _ _ (by omega), x_fg_out _ _ (by omega)]
        exact h.Pi e' k he' hk
    · rw [hI _ (by omega), x_fg_out _ _ (by omega)]
      exact h.Pi e' k he' hk
  · rw [hI 20 (by omega), hZ 39 (by decide)]; exact h.Li.1
  · rw [hI 20 (by omega), hZ 39 (by decide)]; exact h.Li.2.1
  · rw [hI 21 (by omega), hZ 53 (by decide)]; exact h.Li.2.2 j hj

set_option maxRecDepth 100000 in
set_option maxHeartbeats 4000000 in
theorem l_X2_take2 {K : x_K} {S : x_S} {P : x_P} {I : x_I} {J : x_J} {n : Nat} {fa : Nat → Nat} {bd : Nat} {Z : x_I} (hR : c_R fa bd Z S P I J n) (mi : m_I Z) (hnb : m_nb Z = Z) (e sh i N : Nat) (he : e < 4) (hsh : sh < 4) (hN : (N : Int) = m_ce Z 10) (hiN : i + N ≤ 64) (hall : ¬ ∃ j, j < N ∧ ¬ g_cl (Z 47 (64 * sh + i + j))) (hK : ∀ I' : x_I, c_R fa bd (z_pic1 Z e sh i N) S P I' J n → (∀ b j, b ≠ 11 + e → I' b j = I b j) → K (some (.int (q_pic1 Z sh i N))) S P I' J n) : ∀ d k : Nat, k + d = N → x_V f_X2_takePicture K 46 [some (.ref 8), some (.int (nI e)), some (.ref 31), some (.int (nI sh)), some (.int (nI i)), some (.int (nI (x_ct (fun j => decide (0 < (Z 47 (64 * sh + i + j)).toInt)) k))), some (.int (nI k)), none] [] S P (x_fg I (11 + e) 0 k (fun j => Z 47 (64 * sh + i + j))) J n 0 0 := by
  have hS := hR.hS
  have hP := hR.hP
  have hn := mi.hn
  have hfo := mi.fo
  have h9 : m_ns Z = (Z 39 2).toInt.toNat := rfl
  have hbo := mi.bo
  rw [hnb] at hbo
  have hbm := m_ce_in hbo
  have hceN : m_nb Z 41 (6 * 10 + 4) * m_nb Z 41 (6 * 10 + 5) = nI N := by rw [hnb]; exact x_of' (by unfold m_ce at hN; omega)
  intro d
  induction d with
  | zero =>
    intro k hd
    have e1 : k = N := by omega
    subst e1
    refine v_iload d_X2_takePicture_46 rfl ?_
    refine v_aload_n d_X2_takePicture_48 rfl ?_
    refine v_gr d_X2_takePicture_49 lf_X2_38_2 rfl (hS _ _ rfl) (hR.pb) ?_
    refine v_gie d_X2_takePicture_52 lf_X2_63_1 rfl (hR.sb) ((x_fg_na I 0 k (fun j => Z 47 (64 * sh + i + j)) 8 (show bd ≠ 11 + e by have := hR.Bd.1; omega)).trans (hR.fb.ce.trans hceN)) ?_
    refine w_icmp_ge d_X2_takePicture_55 (fun h55 => ?_) (fun h55 => False.elim (by (try simp (disch := omega) only [x_ti, x_tm1] at h55); omega))
    refine v_iload d_X2_takePicture_102 rfl ?_
    refine v_ret (v := some (.int _)) d_X2_takePicture_104 rfl ⟨rfl, _, rfl, rfl⟩ (by decide) (by decide) ?_
    rw [q_pic1, z_pic1, x_if_f hall, x_if_f hall] at hK
    exact hK _ (hR.pi_ hn.2 he (by omega)) (fun b j hb => x_fg_na _ _ _ _ _ hb)
  | succ d ih =>
    intro k hd
    have e47 := (hR.Sh sh hsh).2.2 (i + k) (by omega)
    rw [← Nat.add_assoc] at e47
    refine v_iload d_X2_takePicture_46 rfl ?_
    refine v_aload_n d_X2_takePicture_48 rfl ?_
    refine v_gr d_X2_takePicture_49 lf_X2_38_2 rfl (hS _ _ rfl) (hR.pb) ?_
    refine v_gie d_X2_takePicture_52 lf_X2_63_1 rfl (hR.sb) ((x_fg_na I 0 k (fun j => Z 47 (64 * sh + i + j)) 8 (show bd ≠ 11 + e by have := hR.Bd.1; omega)).trans (hR.fb.ce.trans hceN)) ?_
    refine w_icmp_ge d_X2_takePicture_55 (fun h55 => False.elim (by (try simp (disch := omega) only [x_ti, x_tm1] at h55); omega)) (fun h55 => ?_)
    refine v_aload_n d_X2_takePicture_58 rfl ?_
    refine v_iload_n d_X2_takePicture_59 rfl ?_
    refine v_iload d_X2_takePicture_60 rfl ?_
    refine v_iload d_X2_takePicture_62 rfl ?_
    first | refine v_iaddN d_X2_takePicture_64 ?_ | refine v_iadd d_X2_takePicture_64 ?_
    refine v_cv (as := [_, _]) (rest := []) d_X2_takePicture_65 lv_X2_67_7 (hS _ _ rfl) rfl ⟨by decide, by decide⟩ rfl (Nat.le_of_ble_eq_true rfl) (by decide) (by decide) ?_
    refine t_X7_read sh (i + k) rfl hsh rfl (by omega) hS hP ?_
    rw [x_fg_na I 0 k (fun j => Z 47 (64 * sh + i + j)) (i + k) (show 33 + sh ≠ 11 + e by omega), e47]
    refine v_istore (ls' := [_, _, _, _, _, _, _, _]) d_X2_takePicture_68 (by decide) rfl ?_
    refine v_aload_n d_X2_takePicture_70 rfl ?_
    refine v_gr d_X2_takePicture_71 lf_X2_17_2 rfl (hS _ _ rfl) (hP _ _ _ rfl) ?_
    refine v_iload_n d_X2_takePicture_74 rfl ?_
    refine v_aald _ d_X2_takePicture_75 (rfl) (hS _ _ rfl) (by decide) (⟨by omega, by omega⟩) (c_pp hP he) ?_
    refine v_iload d_X2_takePicture_76 rfl ?_
    refine v_iload d_X2_takePicture_78 rfl ?_
    refine v_iast _ d_X2_takePicture_80 (rfl) (c_sp hS he) (⟨by omega, by omega⟩) ?_
    refine v_iload d_X2_takePicture_81 rfl ?_
    refine v_iload d_X2_takePicture_83 rfl ?_
    refine w_if_ne d_X2_takePicture_85 (fun a85 => ?_) (fun a85 => ?_)
    · refine v_iconst (v := nI 1) d_X2_takePicture_92 x_ic_1 ?_
      refine v_iaddN d_X2_takePicture_93 ?_
      refine v_istore (ls' := [_, _, _, _, _, _, _, _]) d_X2_takePicture_94 (by decide) rfl ?_
      first | refine v_iinc (ls' := [_, _, _, _, _, _, _, _]) d_X2_takePicture_96 rfl (x_inc_1 _) (by decide) rfl ?_ | refine v_iinc (ls' := [_, _, _, _, _, _, _, _]) d_X2_takePicture_96 rfl rfl (by decide) rfl ?_
      refine v_goto d_X2_takePicture_99 ?_
      refine x_V.fg1 7 (ls' := [_, _, _, _, _, _, _, _]) rfl ?_
      rw [show x_u2 (x_fg I (11 + e) 0 k (fun j => Z 47 (64 * sh + i + j))) (11 + e) k (Z 47 (64 * sh + i + k)) = (x_fg I (11 + e) 0 (k + 1) (fun j => Z 47 (64 * sh + i + j))) from x_fg_t0 rfl]
      have hcl : g_cl (Z 47 (64 * sh + i + k)) := by
        by_cases z : g_cl (Z 47 (64 * sh + i + k))
        · exact z
        · exact absurd ⟨k, by omega, z⟩ hall
      have hcl0 := hcl.1
      first
        | (rw [x_ct_y (p := (fun j => decide (0 < (Z 47 (64 * sh + i + j)).toInt))) (k := k) (by simp; omega)]; exact ih (k + 1) (by omega))
        | (rw [x_ct_n (p := (fun j => decide (0 < (Z 47 (64 * sh + i + j)).toInt))) (k := k) (by simp; omega)]; exact ih (k + 1) (by omega))
    · refine v_iconst (v := nI 0) d_X2_takePicture_88 x_ic_0 ?_
      refine v_goto d_X2_takePicture_89 ?_
      refine v_iaddN d_X2_takePicture_93 ?_
      refine v_istore (ls' := [_, _, _, _, _, _, _, _]) d_X2_takePicture_94 (by decide) rfl ?_
      first | refine v_iinc (ls' := [_, _, _, _, _, _, _, _]) d_X2_takePicture_96 rfl (x_inc_1 _) (by decide) rfl ?_ | refine v_iinc (ls' := [_, _, _, _, _, _, _, _]) d_X2_takePicture_96 rfl rfl (by decide) rfl ?_
      refine v_goto d_X2_takePicture_99 ?_
      refine x_V.fg1 7 (ls' := [_, _, _, _, _, _, _, _]) rfl ?_
      rw [show x_u2 (x_fg I (11 + e) 0 k (fun j => Z 47 (64 * sh + i + j))) (11 + e) k (Z 47 (64 * sh + i + k)) = (x_fg I (11 + e) 0 (k + 1) (fun j => Z 47 (64 * sh + i + j))) from x_fg_t0 rfl]
      have hcl : g_cl (Z 47 (64 * sh + i + k)) := by
        by_cases z : g_cl (Z 47 (64 * sh + i + k))
        · exact z
        · exact absurd ⟨k, by omega, z⟩ hall
      have hcl0 := hcl.1
      first
        | (rw [x_ct_y (p := (fun j => decide (0 < (Z 47 (64 * sh + i + j)).toInt))) (k := k) (by simp; omega)]; exact ih (k + 1) (by omega))
        | (rw [x_ct_n (p := (fun j => decide (0 < (Z 47 (64 * sh + i + j)).toInt))) (k := k) (by simp; omega)]; exact ih (k + 1) (by omega))

set_option maxRecDepth 100000 in
set_option maxHeartbeats 4000000 in
theorem l_X2_take1 {K : x_K} {S : x_S} {P : x_P} {I : x_I} {J : x_J} {n : Nat} {fa : Nat → Nat} {bd : Nat} {Z : x_I} (hR : c_R fa bd Z S P I J n) (mi : m_I Z) (hnb : m_nb Z = Z) (e sh i N : Nat) (he : e < 4) (hsh : sh < 4) (hN : (N : Int) = m_ce Z 10) (hiN : i + N ≤ 64) (hK : ∀ I' : x_I, c_R fa bd (z_pic1 Z e sh i N) S P I' J n → (∀ b j, b ≠ 11 + e → I' b j = I b j) → K (some (.int (q_pic1 Z sh i N))) S P I' J n) : ∀ d k : Nat, k + d = N → (∀ j, j < k → g_cl (Z 47 (64 * sh + i + j))) → x_V f_X2_takePicture K 3 [some (.ref 8), some (.int (nI e)), some (.ref 31), some (.int (nI sh)), some (.int (nI i)), some (.int (nI k)), none, none] [] S P I J n 0 0 := by
  have hS := hR.hS
  have hP := hR.hP
  have hn := mi.hn
  have hfo := mi.fo
  have h9 : m_ns Z = (Z 39 2).toInt.toNat := rfl
  have hbo := mi.bo
  rw [hnb] at hbo
  have hbm := m_ce_in hbo
  have hceN : m_nb Z 41 (6 * 10 + 4) * m_nb Z 41 (6 * 10 + 5) = nI N := by rw [hnb]; exact x_of' (by unfold m_ce at hN; omega)
  intro d
  induction d with
  | zero =>
    intro k hd hj
    refine v_iload d_X2_takePicture_3 rfl ?_
    refine v_aload_n d_X2_takePicture_5 rfl ?_
    refine v_gr d_X2_takePicture_6 lf_X2_38_2 rfl (hS _ _ rfl) (hR.pb) ?_
    refine v_gie d_X2_takePicture_9 lf_X2_63_1 rfl (hR.sb) (hR.fb.ce.trans hceN) ?_
    refine w_icmp_ge d_X2_takePicture_12 (fun h12 => ?_) (fun h12 => False.elim (by (try simp (disch := omega) only [x_ti, x_tm1] at h12); omega))
    refine v_iconst (v := nI 0) d_X2_takePicture_40 x_ic_0 ?_
    refine v_istore (ls' := [_, _, _, _, _, _, _, _]) d_X2_takePicture_41 (by decide) rfl ?_
    refine v_iconst (v := nI 0) d_X2_takePicture_43 x_ic_0 ?_
    refine v_istore (ls' := [_, _, _, _, _, _, _, _]) d_X2_takePicture_44 (by decide) rfl ?_
    have hall : ¬ ∃ j, j < N ∧ ¬ g_cl (Z 47 (64 * sh + i + j)) := fun ⟨j, j1, j2⟩ => j2 (hj j (by omega))
    have hl := l_X2_take2 hR mi hnb e sh i N he hsh hN hiN hall hK N 0 (by omega)
    rw [x_fg_0] at hl
    exact hl
  | succ d ih =>
    intro k hd hj
    have e47 := (hR.Sh sh hsh).2.2 (i + k) (by omega)
    rw [← Nat.add_assoc] at e47
    refine v_iload d_X2_takePicture_3 rfl ?_
    refine v_aload_n d_X2_takePicture_5 rfl ?_
    refine v_gr d_X2_takePicture_6 lf_X2_38_2 rfl (hS _ _ rfl) (hR.pb) ?_
    refine v_gie d_X2_takePicture_9 lf_X2_63_1 rfl (hR.sb) (hR.fb.ce.trans hceN) ?_
    refine w_icmp_ge d_X2_takePicture_12 (fun h12 => False.elim (by (try simp (disch := omega) only [x_ti, x_tm1] at h12); omega)) (fun h12 => ?_)
    refine v_aload_n d_X2_takePicture_15 rfl ?_
    refine v_iload_n d_X2_takePicture_16 rfl ?_
    refine v_iload d_X2_takePicture_17 rfl ?_
    refine v_iload d_X2_takePicture_19 rfl ?_
    first | refine v_iaddN d_X2_takePicture_21 ?_ | refine v_iadd d_X2_takePicture_21 ?_
    refine v_cv (as := [_, _]) (rest := []) d_X2_takePicture_22 lv_X2_67_7 (hS _ _ rfl) rfl ⟨by decide, by decide⟩ rfl (Nat.le_of_ble_eq_true rfl) (by decide) (by decide) ?_
    refine t_X7_read sh (i + k) rfl hsh rfl (by omega) hS hP ?_
    rw [e47]
    refine v_cs (as := [_]) (rest := []) d_X2_takePicture_25 ls_X2_73 rfl ⟨by decide, by decide⟩ rfl (Nat.le_of_ble_eq_true rfl) (by decide) (by decide) ?_
    refine t_X11_isColour (fun q => ?_) (fun q => ?_)
    · refine w_if_ne d_X2_takePicture_28 (fun _ => ?_) (fun h28 => absurd h28 (by decide))
      first | refine v_iinc (ls' := [_, _, _, _, _, _, _, _]) d_X2_takePicture_34 rfl (x_inc_1 _) (by decide) rfl ?_ | refine v_iinc (ls' := [_, _, _, _, _, _, _, _]) d_X2_takePicture_34 rfl rfl (by decide) rfl ?_
      refine v_goto d_X2_takePicture_37 ?_
      refine ih (k + 1) (by omega) (fun j hj2 => ?_)
      by_cases e1 : j = k
      · subst e1; exact q
      · exact hj j (by omega)
    · refine w_if_ne d_X2_takePicture_28 (fun h28 => absurd h28 (by decide)) (fun _ => ?_)
      refine v_bipush (v := (-2)) d_X2_takePicture_31 x_bp_m2 ?_
      refine v_ret (v := some (.int _)) d_X2_takePicture_33 rfl ⟨rfl, _, rfl, rfl⟩ (by decide) (by decide) ?_
      have hbad : ∃ j, j < N ∧ ¬ g_cl (Z 47 (64 * sh + i + j)) := ⟨k, by omega, q⟩
      rw [q_pic1, z_pic1, x_if_t hbad, x_if_t hbad] at hK
      exact hK I hR (fun _ _ _ => rfl)

set_option maxRecDepth 100000 in
set_option maxHeartbeats 4000000 in
theorem t_X2_takePicture {K : x_K} {S : x_S} {P : x_P} {I : x_I} {J : x_J} {n : Nat} {x y w : Int32} {fa : Nat → Nat} {bd : Nat} {Z : x_I} (hR : c_R fa bd Z S P I J n) (mi : m_I Z) (hnb : m_nb Z = Z) (e sh i N : Nat) (he : e < 4) (hsh : sh < 4) (hN : (N : Int) = m_ce Z 10) (hiN : i + N ≤ 64) (hx : x = nI e) (hy : y = nI sh) (hw : w = nI i) (hK : ∀ I' : x_I, c_R fa bd (z_pic1 Z e sh i N) S P I' J n → (∀ b j, b ≠ 11 + e → I' b j = I b j) → K (some (.int (q_pic1 Z sh i N))) S P I' J n) : x_Call f_X2_takePicture [.ref 8, .int x, .ref 31, .int y, .int w] K S P I J n := by
  subst hx hy hw
  refine x_intro (by decide) 3 (ls := [_, _, _, _, _, _, _, _]) rfl (Nat.le_of_ble_eq_true rfl) ?_
  refine v_iconst (v := nI 0) d_X2_takePicture_0 x_ic_0 ?_
  refine v_istore (ls' := [_, _, _, _, _, _, _, _]) d_X2_takePicture_1 (by decide) rfl ?_
  exact l_X2_take1 hR mi hnb e sh i N he hsh hN hiN hK N 0 (by omega) (fun j hj => absurd hj (Nat.not_lt_zero _))

set_option maxRecDepth 100000 in
set_option maxHeartbeats 4000000 in
theorem t_X11_picture {K : x_K} {S : x_S} {P : x_P} {I : x_I} {J : x_J} {n : Nat} {e s lane i : Int32} {fa : Nat → Nat} {bd : Nat} {Z : x_I} (hR : c_R fa bd Z S P I J n) (mi : m_I Z) (hK : c_K K (z_picture Z e s lane i) I J n (.int (q_picture Z e s lane i))) : x_Call f_X11_picture [.ref 1, .int e, .int s, .int lane, .int i] K S P I J n := by
  have hS := hR.hS
  have hP := hR.hP
  have hn := mi.hn
  have hfo := mi.fo
  have h9 : m_ns Z = (Z 39 2).toInt.toNat := rfl
  refine x_intro (by decide) 1 (ls := [_, _, _, _, _, _]) rfl (Nat.le_of_ble_eq_true rfl) ?_
  refine v_aload_n d_X11_picture_0 rfl ?_
  refine v_gr d_X11_picture_1 lf_X11_53_11 rfl (hS _ _ rfl) (hP _ _ _ rfl) ?_
  refine v_cv (as := []) (rest := []) d_X11_picture_4 lv_X11_129_7 (hS _ _ rfl) rfl ⟨by decide, by decide⟩ rfl (Nat.le_of_ble_eq_true rfl) (by decide) (by decide) ?_
  refine t_X7_begin hS hP ?_
  refine v_iload_n d_X11_picture_7 rfl ?_
  refine v_cs (as := [_]) (rest := []) d_X11_picture_8 ls_X11_118 rfl ⟨by decide, by decide⟩ rfl (Nat.le_of_ble_eq_true rfl) (by decide) (by decide) ?_
  refine t_X2_hasEye (fun q1 => ?_) (fun q1 => ?_)
  · obtain ⟨e0, rfl, hk_e0, t_e0, y_e0⟩ := x_ex1 (s := e) (q1.1)
    have q1b := q1.2
    rw [t_e0] at q1b
    refine w_if_eq d_X11_picture_11 (fun h11 => absurd h11 (by decide)) (fun _ => ?_)
    refine v_iload_n d_X11_picture_14 rfl ?_
    refine v_cs (as := [_]) (rest := []) d_X11_picture_15 ls_X11_132 rfl ⟨by decide, by decide⟩ rfl (Nat.le_of_ble_eq_true rfl) (by decide) (by decide) ?_
    refine t_X7_has (fun q2 => ?_) (fun q2 => ?_)
    · obtain ⟨sh, rfl, hk_sh, t_sh, y_sh⟩ := x_ex1 (s := s) (q2.1)
      have q2b := q2.2
      rw [t_sh] at q2b
      refine w_if_ne d_X11_picture_18 (fun _ => ?_) (fun h18 => absurd h18 (by decide))
      refine v_iload_n d_X11_picture_23 rfl ?_
      refine v_cs (as := [_]) (rest := []) d_X11_picture_24 ls_X11_135 rfl ⟨by decide, by decide⟩ rfl (Nat.le_of_ble_eq_true rfl) (by decide) (by decide) ?_
      refine t_X7_isLane (fun q3 => ?_) (fun q3 => ?_)
      · have hR1 : c_R fa bd (m_nb (x_u2 Z 39 0 (nI 0))) S P (x_u2 I 31 3 (nI 0)) J n := (hR.fa_ (f := nI 0) hn.2).nb hn.2
        have mi1 : m_I (m_nb (x_u2 Z 39 0 (nI 0))) := mi.f0.nb
        have hbo1 := mi1.bo
        rw [m_nb_nb] at hbo1
        have hbm := m_ce_in hbo1
        have hcb := hR1.fb.ce
        rw [m_nb_nb] at hcb
        refine w_if_ne d_X11_picture_27 (fun _ => ?_) (fun h27 => absurd h27 (by decide))
        refine v_aload_n d_X11_picture_33 rfl ?_
        refine v_gr d_X11_picture_34 lf_X11_53_11 rfl (hS _ _ rfl) (hP _ _ _ rfl) ?_
        refine v_iload_n d_X11_picture_37 rfl ?_
        refine v_iload_n d_X11_picture_38 rfl ?_
        refine v_iload d_X11_picture_39 rfl ?_
        refine v_aload_n d_X11_picture_41 rfl ?_
        refine v_gr d_X11_picture_42 lf_X11_39_11 rfl (hS _ _ rfl) (hP _ _ _ rfl) ?_
        refine v_gr d_X11_picture_45 lf_X11_138_2 rfl (hS _ _ rfl) (hR1.pb) ?_
        refine v_gie d_X11_picture_48 lf_X11_141_1 rfl (hR1.sb) (hcb) ?_
        refine v_i2l d_X11_picture_51 ?_
        refine v_cv (as := [_, _, _, _]) (rest := []) d_X11_picture_52 lv_X11_144_7 (hS _ _ rfl) rfl ⟨by decide, by decide⟩ rfl (Nat.le_of_ble_eq_true rfl) (by decide) (by decide) ?_
        refine t_X7_faultOfTaking (Z := (m_nb (x_u2 Z 39 0 (nI 0)))) sh rfl (by omega) (mi1.la sh (by omega)).1 (mi1.la sh (by omega)).2 (hR1.Sh sh (by omega)).1 (hR1.Sh sh (by omega)).2.1 (by rw [x_il]; unfold m_ce at hbm; omega) hS hP ?_
        have hag : m_ag3 ((m_nb (x_u2 Z 39 0 (nI 0))) 45 sh).toInt ((m_nb (x_u2 Z 39 0 (nI 0))) 46 sh).toInt lane.toInt i.toInt ((m_nb (x_u2 Z 39 0 (nI 0))) 41 (6 * 10 + 4) * (m_nb (x_u2 Z 39 0 (nI 0))) 41 (6 * 10 + 5)).toInt64.toInt = m_ag ((m_nb (x_u2 Z 39 0 (nI 0))) 45 sh).toInt ((m_nb (x_u2 Z 39 0 (nI 0))) 46 sh).toInt lane.toInt i.toInt (m_ce (m_nb (x_u2 Z 39 0 (nI 0))) 10) 1 := by
          rw [x_il]
          have := m_ag3_1 ((m_nb (x_u2 Z 39 0 (nI 0))) 45 sh).toInt ((m_nb (x_u2 Z 39 0 (nI 0))) 46 sh).toInt lane.toInt i.toInt (m_ce (m_nb (x_u2 Z 39 0 (nI 0))) 10) 1 (Or.inl rfl)
          rw [Int.mul_one] at this
          exact this
        rw [hag]
        have hle := m_ag_le ((m_nb (x_u2 Z 39 0 (nI 0))) 45 sh).toInt ((m_nb (x_u2 Z 39 0 (nI 0))) 46 sh).toInt lane.toInt i.toInt (m_ce (m_nb (x_u2 Z 39 0 (nI 0))) 10) 1
        refine v_istore (ls' := [_, _, _, _, _, _]) d_X11_picture_55 (by decide) rfl ?_
        refine v_iload d_X11_picture_57 rfl ?_
        refine w_if_eq d_X11_picture_59 (fun a59 => ?_) (fun a59 => ?_)
        · rw [x_ti (by omega)] at a59
          have a59 : m_ag ((m_nb (x_u2 Z 39 0 (nI 0))) 45 sh).toInt ((m_nb (x_u2 Z 39 0 (nI 0))) 46 sh).toInt lane.toInt i.toInt (m_ce (m_nb (x_u2 Z 39 0 (nI 0))) 10) 1 = 0 := by omega
          obtain ⟨g1, g2, g3, g4, g5, g6⟩ := m_ag_0 a59
          have hlen := (mi1.la sh (by omega)).2
          obtain ⟨i0, rfl, hk_i0, t_i0, y_i0⟩ := x_ex1 (s := i) (g4)
          rw [t_i0] at g5 g6
          refine v_aload_n d_X11_picture_72 rfl ?_
          refine v_gr d_X11_picture_73 lf_X11_39_11 rfl (hS _ _ rfl) (hP _ _ _ rfl) ?_
          refine v_iload_n d_X11_picture_76 rfl ?_
          refine v_aload_n d_X11_picture_77 rfl ?_
          refine v_gr d_X11_picture_78 lf_X11_53_11 rfl (hS _ _ rfl) (hP _ _ _ rfl) ?_
          refine v_iload_n d_X11_picture_81 rfl ?_
          refine v_iload d_X11_picture_82 rfl ?_
          refine v_cv (as := [_, _, _, _]) (rest := []) d_X11_picture_84 lv_X11_152_2 (hS _ _ rfl) rfl ⟨by decide, by decide⟩ rfl (Nat.le_of_ble_eq_true rfl) (by decide) (by decide) ?_
          refine t_X2_takePicture hR1 mi1 (m_nb_nb _) e0 sh i0 (m_ce (m_nb (x_u2 Z 39 0 (nI 0))) 10).toNat (by omega) (by omega) (by omega) (by omega) rfl rfl rfl (fun I2 k1 k2 => ?_)
          refine v_ret (v := some (.int _)) d_X11_picture_87 rfl ⟨rfl, _, rfl, rfl⟩ (by decide) (by decide) ?_
          have ec0 : ¬ (¬ (g_ey (nI e0) ∧ g_ey (nI sh))) := fun z => z ⟨q1, q2⟩
          have ec1 : ¬ (¬ (0 ≤ lane.toInt ∧ lane.toInt ≤ 2)) := fun z => z q3
          have ec2 : ¬ (¬ m_ag ((m_nb (x_u2 Z 39 0 (nI 0))) 45 sh).toInt ((m_nb (x_u2 Z 39 0 (nI 0))) 46 sh).toInt lane.toInt (nI i0).toInt (m_ce (m_nb (x_u2 Z 39 0 (nI 0))) 10) 1 = 0) := fun z => z a59
          simp only [q_picture, z_picture, x_if_f ec0, x_if_f ec1, q_pic2, z_pic2, y_sh, x_if_f ec2, y_e0, y_i0] at hK
          exact hK _ _ _ _ _ ⟨fa, bd, k1⟩ (fun b j hj => ⟨by have hb2 := cC_no hj; rw [k2 b j (by omega), x_u2_na _ _ _ _ (by omega)], rfl⟩) (by omega)
        · have a59 : ¬ m_ag ((m_nb (x_u2 Z 39 0 (nI 0))) 45 sh).toInt ((m_nb (x_u2 Z 39 0 (nI 0))) 46 sh).toInt lane.toInt i.toInt (m_ce (m_nb (x_u2 Z 39 0 (nI 0))) 10) 1 = 0 := fun z => a59 (by rw [z]; decide)
          refine v_aload_n d_X11_picture_62 rfl ?_
          refine v_gr d_X11_picture_63 lf_X11_53_11 rfl (hS _ _ rfl) (hP _ _ _ rfl) ?_
          refine v_iload d_X11_picture_66 rfl ?_
          refine v_cv (as := [_]) (rest := []) d_X11_picture_68 lv_X11_148_7 (hS _ _ rfl) rfl ⟨by decide, by decide⟩ rfl (Nat.le_of_ble_eq_true rfl) (by decide) (by decide) ?_
          refine t_X7_failBy hS hP ?_
          refine v_ret (v := some (.int _)) d_X11_picture_71 rfl ⟨rfl, _, rfl, rfl⟩ (by decide) (by decide) ?_
          have ec0 : ¬ (¬ (g_ey (nI e0) ∧ g_ey (nI sh))) := fun z => z ⟨q1, q2⟩
          have ec1 : ¬ (¬ (0 ≤ lane.toInt ∧ lane.toInt ≤ 2)) := fun z => z q3
          have ec2 : ¬ m_ag ((m_nb (x_u2 Z 39 0 (nI 0))) 45 sh).toInt ((m_nb (x_u2 Z 39 0 (nI 0))) 46 sh).toInt lane.toInt i.toInt (m_ce (m_nb (x_u2 Z 39 0 (nI 0))) 10) 1 = 0 := a59
          simp only [q_picture, z_picture, q_pic2, z_pic2, x_if_f ec0, x_if_f ec1, x_if_t ec2, y_sh] at hK
          exact hK _ _ _ _ _ ⟨fa, bd, hR1.fa_ mi1.hn.2⟩ ((x_ex.rf.ui rfl).ui rfl) (by omega)
      · refine w_if_ne d_X11_picture_27 (fun h27 => absurd h27 (by decide)) (fun _ => ?_)
        refine v_bipush (v := (-2)) d_X11_picture_30 x_bp_m2 ?_
        refine v_ret (v := some (.int _)) d_X11_picture_32 rfl ⟨rfl, _, rfl, rfl⟩ (by decide) (by decide) ?_
        have ec0 : ¬ (¬ (g_ey (nI e0) ∧ g_ey (nI sh))) := fun z => z ⟨q1, q2⟩
        have ec1 : ¬ (0 ≤ lane.toInt ∧ lane.toInt ≤ 2) := q3
        simp only [q_picture, z_picture, x_if_f ec0, x_if_t ec1] at hK
        exact hK _ _ _ _ _ ⟨fa, bd, (hR.fa_ (f := nI 0) hn.2)⟩ (x_ex.rf.ui rfl) (by omega)
    · refine w_if_ne d_X11_picture_18 (fun h18 => absurd h18 (by decide)) (fun _ => ?_)
      refine v_iconst (v := (-1)) d_X11_picture_21 x_ic_m1 ?_
      refine v_ret (v := some (.int _)) d_X11_picture_22 rfl ⟨rfl, _, rfl, rfl⟩ (by decide) (by decide) ?_
      first
        | (have ec0 : ¬ (g_ey e ∧ g_ey s) := fun z => q1 z.1
           simp only [q_picture, z_picture, x_if_t ec0] at hK
           exact hK _ _ _ _ _ ⟨fa, bd, (hR.fa_ (f := nI 0) hn.2)⟩ (x_ex.rf.ui rfl) (by omega))
        | (have ec0 : ¬ (g_ey (nI e0) ∧ g_ey s) := fun z => q2 z.2
           simp only [q_picture, z_picture, x_if_t ec0] at hK
           exact hK _ _ _ _ _ ⟨fa, bd, (hR.fa_ (f := nI 0) hn.2)⟩ (x_ex.rf.ui rfl) (by omega))
  · refine w_if_eq d_X11_picture_11 (fun _ => ?_) (fun h11 => absurd h11 (by decide))
    refine v_iconst (v := (-1)) d_X11_picture_21 x_ic_m1 ?_
    refine v_ret (v := some (.int _)) d_X11_picture_22 rfl ⟨rfl, _, rfl, rfl⟩ (by decide) (by decide) ?_
    first
      | (have ec0 : ¬ (g_ey e ∧ g_ey s) := fun z => q1 z.1
         simp only [q_picture, z_picture, x_if_t ec0] at hK
         exact hK _ _ _ _ _ ⟨fa, bd, (hR.fa_ (f := nI 0) hn.2)⟩ (x_ex.rf.ui rfl) (by omega))
      | (have ec0 : ¬ (g_ey (nI e0) ∧ g_ey s) := fun z => q2 z.2
         simp only [q_picture, z_picture, x_if_t ec0] at hK
         exact hK _ _ _ _ _ ⟨fa, bd, (hR.fa_ (f := nI 0) hn.2)⟩ (x_ex.rf.ui rfl) (by omega))

set_option maxRecDepth 100000 in
set_option maxHeartbeats 4000000 in
theorem l_X8_bare {K : x_K} {S : x_S} {P : x_P} {I : x_I} {J : x_J} {n : Nat} {fa : Nat → Nat} {bd : Nat} {Z : x_I} (hR : c_R fa bd Z S P I J n) (mi : m_I Z) (hK : ∀ I' : x_I, (∀ s, s < m_ns Z → ∀ j, j < (m_ce Z s).toNat → I' (fa s + 2) j = 0) → (∀ b j, (∀ s, s < m_ns Z → b ≠ fa s + 2) → I' b j = I b j) → K none S P I' J n) : ∀ d k : Nat, k + d = m_ns Z → ∀ I' : x_I, (∀ s, s < k → ∀ j, j < (m_ce Z s).toNat → I' (fa s + 2) j = 0) → (∀ b j, (∀ s, s < m_ns Z → b ≠ fa s + 2) → I' b j = I b j) → x_V f_X8_becomeBare K 2 [some (.ref 3), some (.int (nI k)), none] [] S P I' J n 0 0 := by
  have hS := hR.hS
  have hP := hR.hP
  have hn := mi.hn
  have hfo := mi.fo
  have h9 : m_ns Z = (Z 39 2).toInt.toNat := rfl
  intro d
  induction d with
  | zero =>
    intro k hd I' h1 h2
    have e1 : k = m_ns Z := by omega
    subst e1
    have e3 : I' 3 1 = Z 39 2 := (h2 3 1 (fun s hs => by have := (hR.w hs).ad; omega)).trans hR.ns
    refine v_iload_n d_X8_becomeBare_2 rfl ?_
    refine v_aload_n d_X8_becomeBare_3 rfl ?_
    refine v_gie d_X8_becomeBare_4 lf_X8_17_8 rfl (hS _ _ rfl) (e3) ?_
    refine w_icmp_ge d_X8_becomeBare_7 (fun h7 => ?_) (fun h7 => False.elim (by (try simp (disch := omega) only [x_ti, x_tm1] at h7); omega))
    refine v_ret (v := none) d_X8_becomeBare_34 rfl ⟨rfl, rfl⟩ (by decide) (by decide) ?_
    exact hK I' h1 h2
  | succ d ih =>
    intro k hd I' h1 h2
    have hk : k < m_ns Z := by omega
    have hw := hR.w hk
    have hmc := m_ce_in (hfo k hk)
    have e3 : I' 3 1 = Z 39 2 := (h2 3 1 (fun s hs => by have := (hR.w hs).ad; omega)).trans hR.ns
    refine v_iload_n d_X8_becomeBare_2 rfl ?_
    refine v_aload_n d_X8_becomeBare_3 rfl ?_
    refine v_gie d_X8_becomeBare_4 lf_X8_17_8 rfl (hS _ _ rfl) (e3) ?_
    refine w_icmp_ge d_X8_becomeBare_7 (fun h7 => False.elim (by (try simp (disch := omega) only [x_ti, x_tm1] at h7); omega)) (fun h7 => ?_)
    refine v_aload_n d_X8_becomeBare_10 rfl ?_
    refine v_iload_n d_X8_becomeBare_11 rfl ?_
    refine v_cv (as := [_]) (rest := []) d_X8_becomeBare_12 lv_X8_30_8 (hS _ _ rfl) rfl ⟨by decide, by decide⟩ rfl (Nat.le_of_ble_eq_true rfl) (by decide) (by decide) ?_
    refine t_X8_wallP k e3 (by omega) (by omega) hw.p4 hS hP ?_
    refine v_astore_n (ls' := [_, _, _]) d_X8_becomeBare_15 (by decide) rfl ?_
    refine v_aload_n d_X8_becomeBare_16 rfl ?_
    refine v_ifnull d_X8_becomeBare_17 ?_
    refine v_aload_n d_X8_becomeBare_20 rfl ?_
    refine v_gr d_X8_becomeBare_21 (lfw_X8_44 (c_kc_ok _)) (x_ftw2 (c_kc_ok _)) (hw.sw) (hw.pc) ?_
    refine v_iconst (v := nI 0) d_X8_becomeBare_24 x_ic_0 ?_
    refine v_cs (as := [_, _]) (rest := []) d_X8_becomeBare_25 ls_X8_59 rfl ⟨by decide, by decide⟩ rfl (Nat.le_of_ble_eq_true rfl) (by decide) (by decide) ?_
    refine t_fill (m_ce Z k).toNat hw.sc (by omega) ?_
    first | refine v_iinc (ls' := [_, _, _]) d_X8_becomeBare_28 rfl (x_inc_1 _) (by decide) rfl ?_ | refine v_iinc (ls' := [_, _, _]) d_X8_becomeBare_28 rfl rfl (by decide) rfl ?_
    refine v_goto d_X8_becomeBare_31 ?_
    refine x_V.fg1 2 (ls' := [_, _, _]) rfl ?_
    have hne : ∀ s, s < m_ns Z → s ≠ k → fa s + 2 ≠ fa k + 2 := fun s hs hsk => by
      have hmo := hR.2.1.2.1
      rcases Nat.lt_or_gt_of_ne hsk with q1 | q1
      · have := hmo s k q1 hk; omega
      · have := hmo k s q1 hs; omega
    refine ih (k + 1) (by omega) _ (fun s hs j hj => ?_) (fun b j hb => ?_)
    · by_cases e : s = k
      · subst e; exact x_fi_in _ _ (Nat.zero_le _) (by omega)
      · rw [x_fi_na _ _ _ _ _ (hne s (by omega) e)]; exact h1 s (by omega) j hj
    · rw [x_fi_na _ _ _ _ _ (hb k hk)]; exact h2 b j hb

set_option maxRecDepth 100000 in
set_option maxHeartbeats 4000000 in
theorem t_X8_becomeBare {K : x_K} {S : x_S} {P : x_P} {I : x_I} {J : x_J} {n : Nat} {fa : Nat → Nat} {bd : Nat} {Z : x_I} (hR : c_R fa bd Z S P I J n) (mi : m_I Z) (hK : ∀ I' : x_I, (∀ s, s < m_ns Z → ∀ j, j < (m_ce Z s).toNat → I' (fa s + 2) j = 0) → (∀ b j, (∀ s, s < m_ns Z → b ≠ fa s + 2) → I' b j = I b j) → K none S P I' J n) : x_Call f_X8_becomeBare [.ref 3] K S P I J n := by
  have hS := hR.hS
  have hP := hR.hP
  have hn := mi.hn
  have hfo := mi.fo
  have h9 : m_ns Z = (Z 39 2).toInt.toNat := rfl
  refine x_intro (by decide) 2 (ls := [_, _, _]) rfl (Nat.le_of_ble_eq_true rfl) ?_
  refine v_iconst (v := nI 0) d_X8_becomeBare_0 x_ic_0 ?_
  refine v_istore_n (ls' := [_, _, _]) d_X8_becomeBare_1 (by decide) rfl ?_
  exact l_X8_bare hR mi hK (m_ns Z) 0 (by omega) I (fun s hs => absurd hs (Nat.not_lt_zero _)) (fun _ _ _ => rfl)

theorem c_R.cs_ {fa : Nat → Nat} {bd : Nat} {Z : x_I} {S : x_S} {P : x_P} {I : x_I} {J : x_J} {n : Nat} {Z' I' : x_I} (h : c_R fa bd Z S P I J n) (hn : (Z 39 2).toInt ≤ 10) (hz : ∀ b j, b ≠ 42 → Z' b j = Z b j) (hi : ∀ b j, (∀ s, s < m_ns Z → b ≠ fa s + 2) → I' b j = I b j) (hc : ∀ s, s < m_ns Z → ∀ j, j < (m_ce Z s).toNat → I' (fa s + 2) j = Z' 42 (64 * s + j)) : c_R fa bd Z' S P I' J n := by
  have lo : ∀ b, b < 63 → ∀ j, I' b j = I b j := fun b hb j => hi b j (fun s hs => by have := (h.w hs).ad; omega)
  have e2 := hz 39 2 (by decide)
  have ens : m_ns Z' = m_ns Z := by unfold m_ns; rw [e2]
  have e41 : ∀ k, Z' 41 k = Z 41 k := fun k => hz 41 k (by decide)
  refine ⟨h.1, ⟨fun t q => ?_, fun s t q1 q2 => h.2.1.2.1 s t q1 (by rw [← ens]; exact q2), ?_⟩, ⟨h.Bd.1, h.Bd.2.1, h.pb, h.sb, ?_⟩, fun k hk => by rw [lo 9 (by omega), hz 43 k (by decide)]; exact h.Ey k hk, h.Pi.cg (fun e k he => lo _ (by omega) k) (fun k => hz 44 k (by decide)), ⟨by rw [lo 20 (by omega), hz 39 _ (by decide)]; exact h.Li.1, by rw [lo 20 (by omega), hz 39 _ (by decide)]; exact h.Li.2.1, fun k hk => by rw [lo 21 (by omega), hz 53 _ (by decide)]; exact h.Li.2.2 k hk⟩, fun t s c ht hs hc => by rw [hz 54 _ (by decide)]; exact h.Wa t s c ht hs hc, h.Sh.cg (fun e k he => lo _ (by omega) k) (lo 37 (by omega)) (lo 38 (by omega)) (fun k => hz 45 k (by decide)) (fun k => hz 46 k (by decide)) (fun k => hz 47 k (by decide)), by rw [lo 31 (by omega), hz 39 _ (by decide)]; exact h.fau, by rw [lo 2 (by omega), hz 39 _ (by decide)]; exact h.tra⟩
  · rw [ens] at q
    obtain ⟨b1, b2, b3, b4, b5, b6, b7, b8, b9, b10⟩ := h.w q
    have hd : ∀ a, (a = fa t ∨ a = fa t + 1) → ∀ k, I' a k = I a k := fun a ha k => by
      refine hi a k (fun s hs e => ?_)
      have hsc := (h.w hs).sc
      rcases ha with rfl | rfl
      · rw [← e, b2] at hsc; cases hsc
      · rw [← e, b3] at hsc; cases hsc
    have ec : m_ce Z' t = m_ce Z t := m_ce_sm (fun k _ => e41 _)
    refine ⟨b1, b2, by rw [hz 40 t (by decide)]; exact b3, by rw [ec]; exact b4, b5, b6, b7, by rw [hd _ (Or.inr rfl)]; exact b8, (b9.cg (I' := I') (fun k => hd _ (Or.inl rfl) k)).cz (fun k _ => e41 _), fun k hk => ?_⟩
    rw [ec] at hk
    exact hc t q k hk
  · rw [lo 3 (by omega), e2]; exact h.ns
  · refine (h.fb.cg (I' := I') (fun k => hi _ _ (fun s hs e => ?_))).cz (fun k _ => m_nb_41 (hz 39 8 (by decide)) e41 _)
    have h1 := h.sb
    rw [e, (h.w hs).sc] at h1
    cases h1

set_option maxRecDepth 100000 in
set_option maxHeartbeats 4000000 in
theorem t_X11_wash {K : x_K} {S : x_S} {P : x_P} {I : x_I} {J : x_J} {n : Nat} {fa : Nat → Nat} {bd : Nat} {Z : x_I} (hR : c_R fa bd Z S P I J n) (mi : m_I Z) (hK : c_K K (x_fi Z 42 0 640 0) I J n (.int (nI (x_sm (m_pa Z) (m_ns Z))))) : x_Call f_X11_wash [.ref 1] K S P I J n := by
  have hS := hR.hS
  have hP := hR.hP
  have hn := mi.hn
  have hfo := mi.fo
  have h9 : m_ns Z = (Z 39 2).toInt.toNat := rfl
  refine x_intro (by decide) 1 (ls := [_, _]) rfl (Nat.le_of_ble_eq_true rfl) ?_
  refine v_aload_n d_X11_wash_0 rfl ?_
  refine v_gr d_X11_wash_1 lf_X11_21_11 rfl (hS _ _ rfl) (hP _ _ _ rfl) ?_
  refine v_cv (as := []) (rest := []) d_X11_wash_4 lv_X11_205_8 (hS _ _ rfl) rfl ⟨by decide, by decide⟩ rfl (Nat.le_of_ble_eq_true rfl) (by decide) (by decide) ?_
  refine t_X8_notBare hR mi ?_
  refine v_istore_n (ls' := [_, _]) d_X11_wash_7 (by decide) rfl ?_
  refine v_aload_n d_X11_wash_8 rfl ?_
  refine v_gr d_X11_wash_9 lf_X11_21_11 rfl (hS _ _ rfl) (hP _ _ _ rfl) ?_
  refine v_cv (as := []) (rest := []) d_X11_wash_12 lv_X11_206_8 (hS _ _ rfl) rfl ⟨by decide, by decide⟩ rfl (Nat.le_of_ble_eq_true rfl) (by decide) (by decide) ?_
  refine t_X8_becomeBare hR mi (fun I2 k1 k2 => ?_)
  refine v_iload_n d_X11_wash_15 rfl ?_
  refine v_ret (v := some (.int _)) d_X11_wash_16 rfl ⟨rfl, _, rfl, rfl⟩ (by decide) (by decide) ?_
  refine hK _ _ _ _ _ ⟨fa, bd, hR.cs_ hn.2 (fun b j hb => x_fi_na _ _ _ _ _ hb) k2 (fun s hs j hj => ?_)⟩ (fun b j hj => ⟨?_, rfl⟩) (by omega)
  · have := m_ce_in (hfo s hs)
    rw [k1 s hs j hj, x_fi_in _ _ (by omega) (by omega)]
  · have hb2 := cC_no hj
    exact k2 b j (fun s hs => by have := (hR.w hs).ad; omega)

