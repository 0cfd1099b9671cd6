def w_b (Z : x_I) (t s c : Nat) : Bool := decide (¬ (Z 54 (640 * t + 64 * s + c)).toInt = 0)
def W_at (Z : x_I) (t : Nat) : Nat := x_sm (fun s => x_ct (w_b Z t s) 64) 10
theorem x_ct_blk (p : Nat → Bool) (m : Nat) : ∀ n, x_ct p (m * n) = x_sm (fun i => x_ct (fun j => p (m * i + j)) m) n
  | 0 => by rw [Nat.mul_zero]; rfl
  | n + 1 => by rw [Nat.mul_succ, x_ct_ab, x_ct_blk p m n, x_sm]
theorem W_all {Z : x_I} (mi : m_I Z) : x_sm (W_at Z) (m_nh Z) = m_wm Z := by
  have hh := mi.hh
  have h1 : x_sm (W_at Z) (m_nh Z) = x_sm (W_at Z) 6 := (x_sm_ex 6 (by unfold m_nh; omega) (fun t h1 h2 => by
    unfold W_at
    rw [x_sm_cg (f := fun s => x_ct (w_b Z t s) 64) (g := fun _ => 0) 10 (fun s hs => x_ct_0 64 (fun c hc => decide_eq_false (fun q => q ((mi.wa t s c h2 hs hc).2 (fun z => by omega)))))]
    rfl)).symm
  rw [h1]
  unfold m_wm W_at
  rw [show 3840 = 640 * 6 by decide, x_ct_blk]
  refine x_sm_cg 6 (fun t ht => ?_)
  rw [show (640 : Nat) = 64 * 10 by decide, x_ct_blk]
  refine x_sm_cg 10 (fun s hs => x_ct_cg 64 (fun c hc => ?_))
  unfold w_b
  rw [show 64 * 10 * t + (64 * s + c) = 640 * t + 64 * s + c by omega]

theorem x_ct_or1 {p : Nat → Bool} : ∀ (n c : Nat), c < n → x_ct (fun k => p k || decide (k = c)) n = x_ct p n + (if p c = false then 1 else 0)
  | 0, c, h => absurd h (Nat.not_lt_zero _)
  | n + 1, c, h => by
    by_cases e : c = n
    · subst e
      have e1 : x_ct (fun k => p k || decide (k = c)) c = x_ct p c := x_ct_cg c (fun k hk => by rw [decide_eq_false (by omega), Bool.or_false])
      rw [x_ct, x_ct, e1]
      cases hp : p c <;> simp [hp]
    · have ih := x_ct_or1 (p := p) n c (by omega)
      rw [x_ct, x_ct, ih]
      have : ¬ n = c := fun q => e q.symm
      simp only [this, decide_false, Bool.or_false]
      omega
theorem x_sm_1 {v : Nat} : ∀ (n c : Nat), c < n → x_sm (fun s => if s = c then v else 0) n = v
  | 0, c, h => absurd h (Nat.not_lt_zero _)
  | n + 1, c, h => by
    rw [x_sm]
    by_cases e : c = n
    · subst e
      rw [if_pos rfl, x_sm_cg (g := fun _ => 0) c (fun k hk => if_neg (by omega))]
      have : ∀ m, x_sm (fun _ => 0) m = 0 := by
        intro m
        induction m with
        | zero => rfl
        | succ m ih => rw [x_sm, ih]
      rw [this]; omega
    · rw [if_neg (fun q => e q.symm), x_sm_1 n c (by omega), Nat.add_zero]

set_option maxRecDepth 100000 in
set_option maxHeartbeats 4000000 in
theorem l_X4_cwa {K : x_K} {S : x_S} {P : x_P} {I : x_I} {J : x_J} {n : Nat} {fa : Nat → Nat} {bd : Nat} {Z : x_I} (hR : c_R fa bd Z S P I J n) (t : Nat) (ht : t < 6) (hK : K (some (.int (nI (W_at Z t)))) S P I J n) : ∀ d k : Nat, k + d = 10 → x_V f_X4_countWantedAt K 4 [some (.ref 20), some (.int (nI t)), some (.int (nI (x_sm (fun s => x_ct (w_b Z t s) 64) k))), some (.int (nI k))] [] S P I J n 0 0 := by
  have hS := hR.hS
  have hP := hR.hP
  intro d
  induction d with
  | zero =>
    intro k hd
    refine v_iload_n d_X4_countWantedAt_4 rfl ?_
    refine v_bipush (v := nI 10) d_X4_countWantedAt_5 x_bp_10 ?_
    refine w_icmp_ge d_X4_countWantedAt_7 (fun h7 => ?_) (fun h7 => False.elim (by (try simp (disch := omega) only [x_ti, x_tm1] at h7); omega))
    refine v_iload_n d_X4_countWantedAt_33 rfl ?_
    refine v_ret (v := some (.int _)) d_X4_countWantedAt_34 rfl ⟨rfl, _, rfl, rfl⟩ (by decide) (by decide) ?_
    have e1 : k = 10 := by omega
    subst e1
    exact hK
  | succ d ih =>
    intro k hd
    refine v_iload_n d_X4_countWantedAt_4 rfl ?_
    refine v_bipush (v := nI 10) d_X4_countWantedAt_5 x_bp_10 ?_
    refine w_icmp_ge d_X4_countWantedAt_7 (fun h7 => False.elim (by (try simp (disch := omega) only [x_ti, x_tm1] at h7); omega)) (fun h7 => ?_)
    refine v_iload_n d_X4_countWantedAt_10 rfl ?_
    refine v_aload_n d_X4_countWantedAt_11 rfl ?_
    refine v_gr d_X4_countWantedAt_12 lf_X4_15_4 rfl (hS _ _ rfl) (hP _ _ _ rfl) ?_
    refine v_iload_n d_X4_countWantedAt_15 rfl ?_
    refine v_bipush (v := nI 10) d_X4_countWantedAt_16 x_bp_10 ?_
    first | refine v_imulN d_X4_countWantedAt_18 ?_ | refine v_imul d_X4_countWantedAt_18 ?_
    refine v_iload_n d_X4_countWantedAt_19 rfl ?_
    first | refine v_iaddN d_X4_countWantedAt_20 ?_ | refine v_iadd d_X4_countWantedAt_20 ?_
    refine v_lald (10 * t + k) d_X4_countWantedAt_21 (by rw [Nat.mul_comm]) (hS _ _ rfl) (⟨by omega, by omega⟩) (rfl) ?_
    refine v_cs (as := [_]) (rest := [_]) d_X4_countWantedAt_22 ls_X4_54 rfl ⟨by decide, by decide⟩ rfl (Nat.le_of_ble_eq_true rfl) (by decide) (by decide) ?_
    refine t_bitL ?_
    rw [x_lb_ct (v := J 22 (10 * t + k)) (p := w_b Z t k) (fun c hc1 => hR.Wa t k c ht (by omega) hc1)]
    refine v_iaddN d_X4_countWantedAt_25 ?_
    refine v_istore_n (ls' := [_, _, _, _]) d_X4_countWantedAt_26 (by decide) rfl ?_
    first | refine v_iinc (ls' := [_, _, _, _]) d_X4_countWantedAt_27 rfl (x_inc_1 _) (by decide) rfl ?_ | refine v_iinc (ls' := [_, _, _, _]) d_X4_countWantedAt_27 rfl rfl (by decide) rfl ?_
    refine v_goto d_X4_countWantedAt_30 ?_
    exact ih (k + 1) (by omega)

set_option maxRecDepth 100000 in
set_option maxHeartbeats 4000000 in
theorem t_X4_countWantedAt {K : x_K} {S : x_S} {P : x_P} {I : x_I} {J : x_J} {n : Nat} {x : Int32} {fa : Nat → Nat} {bd : Nat} {Z : x_I} (hR : c_R fa bd Z S P I J n) (t : Nat) (hx : x = nI t) (ht : t < 6) (hK : K (some (.int (nI (W_at Z t)))) S P I J n) : x_Call f_X4_countWantedAt [.ref 20, .int x] K S P I J n := by
  subst hx
  refine x_intro (by decide) 2 (ls := [_, _, _, _]) rfl (Nat.le_of_ble_eq_true rfl) ?_
  refine v_iconst (v := nI 0) d_X4_countWantedAt_0 x_ic_0 ?_
  refine v_istore_n (ls' := [_, _, _, _]) d_X4_countWantedAt_1 (by decide) rfl ?_
  refine v_iconst (v := nI 0) d_X4_countWantedAt_2 x_ic_0 ?_
  refine v_istore_n (ls' := [_, _, _, _]) d_X4_countWantedAt_3 (by decide) rfl ?_
  exact l_X4_cwa hR t ht hK 10 0 (by omega)

set_option maxRecDepth 100000 in
set_option maxHeartbeats 4000000 in
theorem l_X4_cw {K : x_K} {S : x_S} {P : x_P} {I : x_I} {J : x_J} {n : Nat} {fa : Nat → Nat} {bd : Nat} {Z : x_I} (hR : c_R fa bd Z S P I J n) (mi : m_I Z) (hK : K (some (.int (nI (x_sm (W_at Z) (m_nh Z))))) S P I J n) : ∀ d k : Nat, k + d = m_nh Z → x_V f_X4_countWanted K 4 [some (.ref 20), some (.int (nI (x_sm (W_at Z) k))), some (.int (nI k))] [] S P I J n 0 0 := by
  have hS := hR.hS
  have hP := hR.hP
  have hn := mi.hn
  have hfo := mi.fo
  have h9 : m_ns Z = (Z 39 2).toInt.toNat := rfl
  have hh := mi.hh
  have h7 : m_nh Z = (Z 39 24).toInt.toNat := rfl
  intro d
  induction d with
  | zero =>
    intro k hd
    refine v_iload_n d_X4_countWanted_4 rfl ?_
    refine v_aload_n d_X4_countWanted_5 rfl ?_
    refine v_gie d_X4_countWanted_6 lf_X4_41_4 rfl (hS _ _ rfl) (hR.Li.1) ?_
    refine w_icmp_ge d_X4_countWanted_9 (fun h9 => ?_) (fun h9 => False.elim (by (try simp (disch := omega) only [x_ti, x_tm1] at h9); omega))
    refine v_iload_n d_X4_countWanted_26 rfl ?_
    refine v_ret (v := some (.int _)) d_X4_countWanted_27 rfl ⟨rfl, _, rfl, rfl⟩ (by decide) (by decide) ?_
    have e1 : k = m_nh Z := by omega
    subst e1
    exact hK
  | succ d ih =>
    intro k hd
    refine v_iload_n d_X4_countWanted_4 rfl ?_
    refine v_aload_n d_X4_countWanted_5 rfl ?_
    refine v_gie d_X4_countWanted_6 lf_X4_41_4 rfl (hS _ _ rfl) (hR.Li.1) ?_
    refine w_icmp_ge d_X4_countWanted_9 (fun h9 => False.elim (by (try simp (disch := omega) only [x_ti, x_tm1] at h9); omega)) (fun h9 => ?_)
    refine v_iload_n d_X4_countWanted_12 rfl ?_
    refine v_aload_n d_X4_countWanted_13 rfl ?_
    refine v_iload_n d_X4_countWanted_14 rfl ?_
    refine v_cv (as := [_]) (rest := [_]) d_X4_countWanted_15 lv_X4_50_4 (hS _ _ rfl) rfl ⟨by decide, by decide⟩ rfl (Nat.le_of_ble_eq_true rfl) (by decide) (by decide) ?_
    refine t_X4_countWantedAt hR k rfl (by omega) ?_
    refine v_iaddN d_X4_countWanted_18 ?_
    refine v_istore_n (ls' := [_, _, _]) d_X4_countWanted_19 (by decide) rfl ?_
    first | refine v_iinc (ls' := [_, _, _]) d_X4_countWanted_20 rfl (x_inc_1 _) (by decide) rfl ?_ | refine v_iinc (ls' := [_, _, _]) d_X4_countWanted_20 rfl rfl (by decide) rfl ?_
    refine v_goto d_X4_countWanted_23 ?_
    exact ih (k + 1) (by omega)

set_option maxRecDepth 100000 in
set_option maxHeartbeats 4000000 in
theorem t_X4_countWanted {K : x_K} {S : x_S} {P : x_P} {I : x_I} {J : x_J} {n : Nat} {fa : Nat → Nat} {bd : Nat} {Z : x_I} (hR : c_R fa bd Z S P I J n) (mi : m_I Z) (hK : K (some (.int (nI (m_wm Z)))) S P I J n) : x_Call f_X4_countWanted [.ref 20] K S P I J n := by
  rw [← W_all mi] at hK
  refine x_intro (by decide) 2 (ls := [_, _, _]) rfl (Nat.le_of_ble_eq_true rfl) ?_
  refine v_iconst (v := nI 0) d_X4_countWanted_0 x_ic_0 ?_
  refine v_istore_n (ls' := [_, _, _]) d_X4_countWanted_1 (by decide) rfl ?_
  refine v_iconst (v := nI 0) d_X4_countWanted_2 x_ic_0 ?_
  refine v_istore_n (ls' := [_, _, _]) d_X4_countWanted_3 (by decide) rfl ?_
  exact l_X4_cw hR mi hK (m_nh Z) 0 (by omega)

set_option maxRecDepth 100000 in
set_option maxHeartbeats 4000000 in
theorem t_X11_many {K : x_K} {S : x_S} {P : x_P} {I : x_I} {J : x_J} {n : Nat} {w : Int32} {fa : Nat → Nat} {bd : Nat} {Z : x_I} (hR : c_R fa bd Z S P I J n) (mi : m_I Z) (hK : c_K K (z_many Z w) I J n (.int (q_many Z w))) : x_Call f_X11_many [.ref 1, .int w] K S P I J n := by
  have hS := hR.hS
  have hP := hR.hP
  have hn := mi.hn
  have hfo := mi.fo
  have h9 : m_ns Z = (Z 39 2).toInt.toNat := rfl
  refine x_intro (by decide) 0 (ls := [_, _]) rfl (Nat.le_of_ble_eq_true rfl) ?_
  refine v_iload_n d_X11_many_0 rfl ?_
  rcases (show w.toInt = 0 ∨ w.toInt = 1 ∨ w.toInt = 2 ∨ w.toInt = 3 ∨ w.toInt = 4 ∨ w.toInt = 5 ∨ (w.toInt < 0 ∨ 5 < w.toInt) by omega) with e | e | e | e | e | e | e
  · refine v_tin (off := 39) (tgt := 40) d_X11_many_1 (by omega) (by omega) (by rw [e]; rfl) (by decide) ?_
    refine v_aload_n d_X11_many_40 rfl ?_
    refine v_gr d_X11_many_41 lf_X11_21_11 rfl (hS _ _ rfl) (hP _ _ _ rfl) ?_
    refine v_gie d_X11_many_44 lf_X11_320_8 rfl (hS _ _ rfl) (hR.ns) ?_
    refine v_ret (v := some (.int _)) d_X11_many_47 rfl ⟨rfl, _, rfl, rfl⟩ (by decide) (by decide) ?_
    have ec0 : w.toInt = 0 := by omega
    have ec1 : ¬ (w.toInt = 2) := by omega
    simp only [q_many, z_many, x_if_t ec0, x_if_f ec1] at hK
    exact hK _ _ _ _ _ ⟨fa, bd, hR⟩ (x_ex.rf) (by omega)
  · refine v_tin (off := 47) (tgt := 48) d_X11_many_1 (by omega) (by omega) (by rw [e]; rfl) (by decide) ?_
    refine v_aload_n d_X11_many_48 rfl ?_
    refine v_gr d_X11_many_49 lf_X11_21_11 rfl (hS _ _ rfl) (hP _ _ _ rfl) ?_
    refine v_cv (as := []) (rest := []) d_X11_many_52 lv_X11_323_8 (hS _ _ rfl) rfl ⟨by decide, by decide⟩ rfl (Nat.le_of_ble_eq_true rfl) (by decide) (by decide) ?_
    refine t_X8_countCells hR mi ?_
    refine v_ret (v := some (.int _)) d_X11_many_55 rfl ⟨rfl, _, rfl, rfl⟩ (by decide) (by decide) ?_
    have ec0 : ¬ (w.toInt = 0) := by omega
    have ec1 : w.toInt = 1 := by omega
    have ec2 : ¬ (w.toInt = 2) := by omega
    simp only [q_many, z_many, x_if_f ec0, x_if_t ec1, x_if_f ec2] at hK
    exact hK _ _ _ _ _ ⟨fa, bd, hR⟩ (x_ex.rf) (by omega)
  · refine v_tin (off := 55) (tgt := 56) d_X11_many_1 (by omega) (by omega) (by rw [e]; rfl) (by decide) ?_
    refine v_aload_n d_X11_many_56 rfl ?_
    refine v_gr d_X11_many_57 lf_X11_39_11 rfl (hS _ _ rfl) (hP _ _ _ rfl) ?_
    refine v_gr d_X11_many_60 lf_X11_138_2 rfl (hS _ _ rfl) (hR.pb) ?_
    refine v_gie d_X11_many_63 lf_X11_141_1 rfl (hR.sb) (hR.fb.ce) ?_
    refine v_ret (v := some (.int _)) d_X11_many_66 rfl ⟨rfl, _, rfl, rfl⟩ (by decide) (by decide) ?_
    have ec0 : ¬ (w.toInt = 0) := by omega
    have ec1 : ¬ (w.toInt = 1) := by omega
    have ec2 : w.toInt = 2 := by omega
    simp only [q_many, z_many, x_if_f ec0, x_if_f ec1, x_if_t ec2] at hK
    exact hK _ _ _ _ _ ⟨fa, bd, hR.nb hn.2⟩ (x_ex.rf) (by omega)
  · refine v_tin (off := 66) (tgt := 67) d_X11_many_1 (by omega) (by omega) (by rw [e]; rfl) (by decide) ?_
    refine v_aload_n d_X11_many_67 rfl ?_
    refine v_gr d_X11_many_68 lf_X11_46_11 rfl (hS _ _ rfl) (hP _ _ _ rfl) ?_
    refine v_gie d_X11_many_71 lf_X11_228_4 rfl (hS _ _ rfl) (hR.Li.1) ?_
    refine v_ret (v := some (.int _)) d_X11_many_74 rfl ⟨rfl, _, rfl, rfl⟩ (by decide) (by decide) ?_
    have ec0 : ¬ (w.toInt = 0) := by omega
    have ec1 : ¬ (w.toInt = 1) := by omega
    have ec2 : ¬ (w.toInt = 2) := by omega
    have ec3 : w.toInt = 3 := by omega
    simp only [q_many, z_many, x_if_f ec0, x_if_f ec1, x_if_f ec2, x_if_t ec3] at hK
    exact hK _ _ _ _ _ ⟨fa, bd, hR⟩ (x_ex.rf) (by omega)
  · refine v_tin (off := 74) (tgt := 75) d_X11_many_1 (by omega) (by omega) (by rw [e]; rfl) (by decide) ?_
    refine v_aload_n d_X11_many_75 rfl ?_
    refine v_gr d_X11_many_76 lf_X11_21_11 rfl (hS _ _ rfl) (hP _ _ _ rfl) ?_
    refine v_cv (as := []) (rest := []) d_X11_many_79 lv_X11_205_8 (hS _ _ rfl) rfl ⟨by decide, by decide⟩ rfl (Nat.le_of_ble_eq_true rfl) (by decide) (by decide) ?_
    refine t_X8_notBare hR mi ?_
    refine v_ret (v := some (.int _)) d_X11_many_82 rfl ⟨rfl, _, rfl, rfl⟩ (by decide) (by decide) ?_
    have ec0 : ¬ (w.toInt = 0) := by omega
    have ec1 : ¬ (w.toInt = 1) := by omega
    have ec2 : ¬ (w.toInt = 2) := by omega
    have ec3 : ¬ (w.toInt = 3) := by omega
    have ec4 : w.toInt = 4 := by omega
    simp only [q_many, z_many, x_if_f ec0, x_if_f ec1, x_if_f ec2, x_if_f ec3, x_if_t ec4] at hK
    exact hK _ _ _ _ _ ⟨fa, bd, hR⟩ (x_ex.rf) (by omega)
  · refine v_tin (off := 82) (tgt := 83) d_X11_many_1 (by omega) (by omega) (by rw [e]; rfl) (by decide) ?_
    refine v_aload_n d_X11_many_83 rfl ?_
    refine v_gr d_X11_many_84 lf_X11_46_11 rfl (hS _ _ rfl) (hP _ _ _ rfl) ?_
    refine v_cv (as := []) (rest := []) d_X11_many_87 lv_X11_326_4 (hS _ _ rfl) rfl ⟨by decide, by decide⟩ rfl (Nat.le_of_ble_eq_true rfl) (by decide) (by decide) ?_
    refine t_X4_countWanted hR mi ?_
    refine v_ret (v := some (.int _)) d_X11_many_90 rfl ⟨rfl, _, rfl, rfl⟩ (by decide) (by decide) ?_
    have ec0 : ¬ (w.toInt = 0) := by omega
    have ec1 : ¬ (w.toInt = 1) := by omega
    have ec2 : ¬ (w.toInt = 2) := by omega
    have ec3 : ¬ (w.toInt = 3) := by omega
    have ec4 : ¬ (w.toInt = 4) := by omega
    have ec5 : w.toInt = 5 := by omega
    simp only [q_many, z_many, x_if_f ec0, x_if_f ec1, x_if_f ec2, x_if_f ec3, x_if_f ec4, x_if_t ec5] at hK
    exact hK _ _ _ _ _ ⟨fa, bd, hR⟩ (x_ex.rf) (by omega)
  · refine v_tout (tgt := 91) d_X11_many_1 e (by decide) ?_
    refine v_bipush (v := (-2)) d_X11_many_91 x_bp_m2 ?_
    refine v_ret (v := some (.int _)) d_X11_many_93 rfl ⟨rfl, _, rfl, rfl⟩ (by decide) (by decide) ?_
    have ec0 : ¬ (w.toInt = 0) := by omega
    have ec1 : ¬ (w.toInt = 1) := by omega
    have ec2 : ¬ (w.toInt = 2) := by omega
    have ec3 : ¬ (w.toInt = 3) := by omega
    have ec4 : ¬ (w.toInt = 4) := by omega
    have ec5 : ¬ (w.toInt = 5) := by omega
    simp only [q_many, z_many, x_if_f ec0, x_if_f ec1, x_if_f ec2, x_if_f ec3, x_if_f ec4, x_if_f ec5] at hK
    exact hK _ _ _ _ _ ⟨fa, bd, hR⟩ (x_ex.rf) (by omega)

theorem c_R.w0_ {fa : Nat → Nat} {bd : Nat} {Z : x_I} {S : x_S} {P : x_P} {I : x_I} {J : x_J} {n : Nat} {t : Nat} (h : c_R fa bd Z S P I J n) (hn : (Z 39 2).toInt ≤ 10) (ht : t < 6) : c_R fa bd (x_fi Z 54 (640 * t) 640 0) S P I (x_fi J 22 (10 * t) 10 0) n := by
  have hZ : ∀ a, a ≠ 54 → ∀ j, x_fi Z 54 (640 * t) 640 0 a j = Z a j := fun a a1 j => x_fi_na _ _ _ _ _ a1
  refine h.sm hn (fun _ _ _ => rfl) (hZ 40 (by decide)) (hZ 41 (by decide)) (hZ 42 (by decide)) (hZ 39 (by decide) 2) (hZ 39 (by decide) 8) (fun j hj => by rw [hZ 43 (by decide)]; exact h.Ey j hj) (h.Pi.cg (fun _ _ _ => rfl) (hZ 44 (by decide))) ⟨by rw [hZ 39 (by decide)]; exact h.Li.1, by rw [hZ 39 (by decide)]; exact h.Li.2.1, fun j hj => by rw [hZ 53 (by decide)]; exact h.Li.2.2 j hj⟩ (fun t' s c ht' hs hc => ?_) (h.Sh.cg (fun _ _ _ => rfl) (fun _ => rfl) (fun _ => rfl) (hZ 45 (by decide)) (hZ 46 (by decide)) (hZ 47 (by decide))) (by rw [hZ 39 (by decide)]; exact h.fau) (by rw [hZ 39 (by decide)]; exact h.tra)
  by_cases e : t' = t
  · subst e
    rw [x_fi_in _ _ (by omega) (by omega), x_fi_in _ _ (by omega) (by omega), x_lb_0]
    exact (decide_eq_false (fun q => q (by decide))).symm
  · rw [x_fi_out _ _ (by omega), x_fi_out _ _ (by omega)]
    exact h.Wa t' s c ht' hs hc
theorem c_R.wo_ {fa : Nat → Nat} {bd : Nat} {Z : x_I} {S : x_S} {P : x_P} {I : x_I} {J : x_J} {n : Nat} {t s c : Nat} (h : c_R fa bd Z S P I J n) (hn : (Z 39 2).toInt ≤ 10) (ht : t < 6) (hs : s < 10) (hc : c < 64) : c_R fa bd (x_u2 Z 54 (640 * t + 64 * s + c) (nI 1)) S P I (x_u2 J 22 (10 * t + s) (J 22 (10 * t + s) ||| 1 <<< ((nI c).toInt64 &&& 63))) n :=
  h.sm hn (fun _ _ _ => rfl) (fun _ => rfl) (fun _ => rfl) (fun _ => rfl) rfl rfl h.Ey (h.Pi.cg (fun _ _ _ => rfl) (fun _ => rfl)) h.Li (fun t' s' c' ht' hs' hc' => by
    have h0 := h.Wa t' s' c' ht' hs' hc'
    rw [x_u2_at, x_u2_at]
    by_cases e : t' = t ∧ s' = s
    · obtain ⟨rfl, rfl⟩ := e
      rw [if_pos ⟨rfl, rfl⟩, x_lb_or, x_lb_1 hc, h0]
      by_cases e2 : c' = c
      · subst e2
        rw [if_pos ⟨rfl, rfl⟩, decide_eq_true rfl, Bool.or_true]
        exact (decide_eq_true (show ¬ (nI 1).toInt = 0 by decide)).symm
      · rw [if_neg (fun q => e2 (by omega)), decide_eq_false e2, Bool.or_false]
    · rw [if_neg (fun q => e (by omega)), if_neg (fun q => e (by omega))]
      exact h0) (h.Sh.cg (fun _ _ _ => rfl) (fun _ => rfl) (fun _ => rfl) (fun _ => rfl) (fun _ => rfl) (fun _ => rfl)) h.fau h.tra
theorem m_to_in {Z : x_I} (mi : m_I Z) {t sh i j : Nat} (hp : g_pair Z sh i j) : x_k (Z 47 (64 * sh + i + 2 * j)) < 10 ∧ x_k (Z 47 (64 * sh + i + 2 * j + 1)) < 64 ∧ m_to Z t sh i j = 640 * t + 64 * x_k (Z 47 (64 * sh + i + 2 * j)) + x_k (Z 47 (64 * sh + i + 2 * j + 1)) := by
  obtain ⟨⟨h1, h2⟩, h3, h4⟩ := hp
  have hn := mi.hn
  have hm := m_ce_in (mi.fo (x_k (Z 47 (64 * sh + i + 2 * j))) (by unfold m_ns x_k; omega))
  refine ⟨by unfold x_k; omega, by unfold x_k at hm h4 ⊢; omega, rfl⟩
theorem q_wr_ct {Z : x_I} (mi : m_I Z) {t sh i : Nat} (ht : t < 6) : ∀ k, (∀ j, j < k → g_pair Z sh i j) → W_at (z_wr Z t sh i k) t = q_wr Z t sh i k
  | 0, _ => by
    unfold W_at
    rw [x_sm_cg (f := fun s => x_ct (w_b (z_wr Z t sh i 0) t s) 64) (g := fun _ => 0) 10 (fun s hs => x_ct_0 64 (fun c hc => decide_eq_false (fun q => q (by unfold z_wr; rw [x_fi_in _ _ (by omega) (by omega)]; decide))))]
    rfl
  | k + 1, hp => by
    have ih := q_wr_ct mi ht k (fun j hj => hp j (by omega))
    obtain ⟨h1, h2, h3⟩ := m_to_in (t := t) mi (hp k (by omega))
    rw [q_wr, ← ih]
    generalize x_k (Z 47 (64 * sh + i + 2 * k)) = s0 at h1 h3
    generalize x_k (Z 47 (64 * sh + i + 2 * k + 1)) = c0 at h2 h3
    have ez : z_wr Z t sh i (k + 1) = x_u2 (z_wr Z t sh i k) 54 (640 * t + 64 * s0 + c0) (nI 1) := by rw [z_wr, h3]
    rw [h3, ez]
    generalize z_wr Z t sh i k = Y
    unfold W_at
    have hs : ∀ s, s < 10 → x_ct (w_b (x_u2 Y 54 (640 * t + 64 * s0 + c0) (nI 1)) t s) 64 = x_ct (w_b Y t s) 64 + (if s = s0 then (if (Y 54 (640 * t + 64 * s0 + c0)).toInt = 0 then 1 else 0) else 0) := fun s hs => by
      by_cases e : s = s0
      · subst e
        rw [if_pos rfl]
        have hb : ∀ c, c < 64 → w_b (x_u2 Y 54 (640 * t + 64 * s + c0) (nI 1)) t s c = (w_b Y t s c || decide (c = c0)) := fun c hc => by
          unfold w_b
          rw [x_u2_at]
          by_cases e2 : c = c0
          · subst e2
            rw [if_pos ⟨rfl, rfl⟩, decide_eq_true (show ¬ (nI 1).toInt = 0 by decide), decide_eq_true rfl, Bool.or_true]
          · rw [if_neg (fun q => e2 (by omega)), decide_eq_false e2, Bool.or_false]
        rw [x_ct_cg 64 hb, x_ct_or1 (p := w_b Y t s) 64 c0 h2]
        unfold w_b
        by_cases e3 : (Y 54 (640 * t + 64 * s + c0)).toInt = 0
        · rw [if_pos e3, if_pos (by simp [e3])]
        · rw [if_neg e3, if_neg (by simp [e3])]
      · rw [if_neg e, Nat.add_zero]
        refine x_ct_cg 64 (fun c hc => ?_)
        unfold w_b
        rw [x_u2_nk _ _ _ _ (by omega)]
    rw [x_sm_cg 10 hs, x_sm_ad]
    congr 1
    exact x_sm_1 10 s0 h1

