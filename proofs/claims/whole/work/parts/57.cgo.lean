set_option maxRecDepth 100000 in
set_option maxHeartbeats 4000000 in
theorem t_X6_standAt {K : x_K} {S : x_S} {P : x_P} {I : x_I} {J : x_J} {n : Nat} {x y z : Int32} (hS : x_hS S) (hP : x_hP P) (hK : K none S P (x_u2 (x_u2 (x_u2 I 6 0 x) 6 1 y) 6 2 z) J n) : x_Call f_X6_standAt [.ref 5, .int x, .int y, .int z] K S P I J n := by
  refine x_intro (by decide) 0 (ls := [_, _, _, _]) rfl (Nat.le_of_ble_eq_true rfl) ?_
  refine v_aload_n d_X6_standAt_0 rfl ?_
  refine v_gr d_X6_standAt_1 lf_X6_9_6 rfl (hS _ _ rfl) (hP _ _ _ rfl) ?_
  refine v_iconst (v := nI 0) d_X6_standAt_4 x_ic_0 ?_
  refine v_iload_n d_X6_standAt_5 rfl ?_
  refine v_iast _ d_X6_standAt_6 (rfl) (hS _ _ rfl) (⟨by omega, by omega⟩) ?_
  refine v_aload_n d_X6_standAt_7 rfl ?_
  refine v_gr d_X6_standAt_8 lf_X6_9_6 rfl (hS _ _ rfl) (hP _ _ _ rfl) ?_
  refine v_iconst (v := nI 1) d_X6_standAt_11 x_ic_1 ?_
  refine v_iload_n d_X6_standAt_12 rfl ?_
  refine v_iast _ d_X6_standAt_13 (rfl) (hS _ _ rfl) (⟨by omega, by omega⟩) ?_
  refine v_aload_n d_X6_standAt_14 rfl ?_
  refine v_gr d_X6_standAt_15 lf_X6_9_6 rfl (hS _ _ rfl) (hP _ _ _ rfl) ?_
  refine v_iconst (v := nI 2) d_X6_standAt_18 x_ic_2 ?_
  refine v_iload_n d_X6_standAt_19 rfl ?_
  refine v_iast _ d_X6_standAt_20 (rfl) (hS _ _ rfl) (⟨by omega, by omega⟩) ?_
  refine v_ret (v := none) d_X6_standAt_21 rfl ⟨rfl, rfl⟩ (by decide) (by decide) ?_
  exact hK

set_option maxRecDepth 100000 in
set_option maxHeartbeats 4000000 in
theorem t_X6_headFor {K : x_K} {S : x_S} {P : x_P} {I : x_I} {J : x_J} {n : Nat} {x y z : Int32} (hS : x_hS S) (hP : x_hP P) (hK : K none S P (x_u2 (x_u2 (x_u2 I 7 0 x) 7 1 y) 7 2 z) J n) : x_Call f_X6_headFor [.ref 5, .int x, .int y, .int z] K S P I J n := by
  refine x_intro (by decide) 0 (ls := [_, _, _, _]) rfl (Nat.le_of_ble_eq_true rfl) ?_
  refine v_aload_n d_X6_headFor_0 rfl ?_
  refine v_gr d_X6_headFor_1 lf_X6_15_6 rfl (hS _ _ rfl) (hP _ _ _ rfl) ?_
  refine v_iconst (v := nI 0) d_X6_headFor_4 x_ic_0 ?_
  refine v_iload_n d_X6_headFor_5 rfl ?_
  refine v_iast _ d_X6_headFor_6 (rfl) (hS _ _ rfl) (⟨by omega, by omega⟩) ?_
  refine v_aload_n d_X6_headFor_7 rfl ?_
  refine v_gr d_X6_headFor_8 lf_X6_15_6 rfl (hS _ _ rfl) (hP _ _ _ rfl) ?_
  refine v_iconst (v := nI 1) d_X6_headFor_11 x_ic_1 ?_
  refine v_iload_n d_X6_headFor_12 rfl ?_
  refine v_iast _ d_X6_headFor_13 (rfl) (hS _ _ rfl) (⟨by omega, by omega⟩) ?_
  refine v_aload_n d_X6_headFor_14 rfl ?_
  refine v_gr d_X6_headFor_15 lf_X6_15_6 rfl (hS _ _ rfl) (hP _ _ _ rfl) ?_
  refine v_iconst (v := nI 2) d_X6_headFor_18 x_ic_2 ?_
  refine v_iload_n d_X6_headFor_19 rfl ?_
  refine v_iast _ d_X6_headFor_20 (rfl) (hS _ _ rfl) (⟨by omega, by omega⟩) ?_
  refine v_ret (v := none) d_X6_headFor_21 rfl ⟨rfl, rfl⟩ (by decide) (by decide) ?_
  exact hK

set_option maxRecDepth 100000 in
set_option maxHeartbeats 4000000 in
theorem t_X6_turnBack {K : x_K} {S : x_S} {P : x_P} {I : x_I} {J : x_J} {n : Nat} {fa : Nat → Nat} {Z : x_I} {s : Nat} (t : Nat) (ht : I 5 9 = nI t) (hw : c_w fa Z S P I n s) (hfo : m_fo Z s) (hS : x_hS S) (hP : x_hP P) (hK : K none S P (x_u2 (x_u2 (x_u2 (x_u2 (x_u2 I 6 (r_a Z s) (nI 4 * Z 41 (6 * s + 1) - I 6 (r_a Z s))) 7 (r_a Z s) (-(I 7 (r_a Z s)))) 5 3 (I 5 7)) 5 4 (I 5 8)) 5 9 (nI (t + 1))) J n) : x_Call f_X6_turnBack [.ref 5, .ref (fa s)] K S P I J n := by
  have ha := r_a_lt hfo
  have had := hw.ad
  obtain ⟨f0, f1, f2, f3, f4, f5, f6, f7⟩ := id hfo
  have e0 : Z 41 (6 * s) = nI (r_a Z s) := x_of f0.1
  refine x_intro (by decide) 1 (ls := [_, _, _]) rfl (Nat.le_of_ble_eq_true rfl) ?_
  refine v_aload_n d_X6_turnBack_0 rfl ?_
  refine v_gie d_X6_turnBack_1 lf_X6_69_1 rfl (hw.sf) (hw.fl.ax.trans e0) ?_
  refine v_istore_n (ls' := [_, _, _]) d_X6_turnBack_4 (by decide) rfl ?_
  refine v_aload_n d_X6_turnBack_5 rfl ?_
  refine v_gr d_X6_turnBack_6 lf_X6_9_6 rfl (hS _ _ rfl) (hP _ _ _ rfl) ?_
  refine v_iload_n d_X6_turnBack_9 rfl ?_
  refine v_iconst (v := nI 4) d_X6_turnBack_10 x_ic_4 ?_
  refine v_aload_n d_X6_turnBack_11 rfl ?_
  refine v_gie d_X6_turnBack_12 lf_X6_74_1 rfl (hw.sf) (hw.fl.c) ?_
  refine v_imul d_X6_turnBack_15 ?_
  refine v_aload_n d_X6_turnBack_16 rfl ?_
  refine v_gr d_X6_turnBack_17 lf_X6_9_6 rfl (hS _ _ rfl) (hP _ _ _ rfl) ?_
  refine v_iload_n d_X6_turnBack_20 rfl ?_
  refine v_iald _ d_X6_turnBack_21 (rfl) (hS _ _ rfl) (⟨by omega, by omega⟩) (rfl) ?_
  refine v_isub d_X6_turnBack_22 ?_
  refine v_iast _ d_X6_turnBack_23 (rfl) (hS _ _ rfl) (⟨by omega, by omega⟩) ?_
  refine v_aload_n d_X6_turnBack_24 rfl ?_
  refine v_gr d_X6_turnBack_25 lf_X6_15_6 rfl (hS _ _ rfl) (hP _ _ _ rfl) ?_
  refine v_iload_n d_X6_turnBack_28 rfl ?_
  refine v_aload_n d_X6_turnBack_29 rfl ?_
  refine v_gr d_X6_turnBack_30 lf_X6_15_6 rfl (hS _ _ rfl) (hP _ _ _ rfl) ?_
  refine v_iload_n d_X6_turnBack_33 rfl ?_
  refine v_iald _ d_X6_turnBack_34 (rfl) (hS _ _ rfl) (⟨by omega, by omega⟩) (rfl) ?_
  refine v_ineg d_X6_turnBack_35 ?_
  refine v_iast _ d_X6_turnBack_36 (rfl) (hS _ _ rfl) (⟨by omega, by omega⟩) ?_
  refine v_aload_n d_X6_turnBack_37 rfl ?_
  refine v_aload_n d_X6_turnBack_38 rfl ?_
  refine v_gi d_X6_turnBack_39 lf_X6_77_6 rfl (hS _ _ rfl) ?_
  refine v_pi d_X6_turnBack_42 (lp_X6_26_6 _) rfl (hS _ _ rfl) (rfl) rfl ?_
  refine v_aload_n d_X6_turnBack_45 rfl ?_
  refine v_aload_n d_X6_turnBack_46 rfl ?_
  refine v_gi d_X6_turnBack_47 lf_X6_80_6 rfl (hS _ _ rfl) ?_
  refine v_pi d_X6_turnBack_50 (lp_X6_29_6 _) rfl (hS _ _ rfl) (rfl) rfl ?_
  refine v_aload_n d_X6_turnBack_53 rfl ?_
  refine v_dup d_X6_turnBack_54 rfl ?_
  refine v_gie d_X6_turnBack_55 lf_X6_22_6 rfl (hS _ _ rfl) (ht) ?_
  refine v_iconst (v := nI 1) d_X6_turnBack_58 x_ic_1 ?_
  refine v_iaddN d_X6_turnBack_59 ?_
  refine v_pi d_X6_turnBack_60 (lp_X6_22_6 _) rfl (hS _ _ rfl) (rfl) rfl ?_
  refine v_ret (v := none) d_X6_turnBack_63 rfl ⟨rfl, rfl⟩ (by decide) (by decide) ?_
  exact hK

set_option maxRecDepth 100000 in
set_option maxHeartbeats 4000000 in
theorem t_X8_wall {K : x_K} {S : x_S} {P : x_P} {I : x_I} {J : x_J} {n : Nat} {s : Int32} {fa : Nat → Nat} {bd : Nat} {Z : x_I} (hR : c_R fa bd Z S P I J n) (mi : m_I Z) (k1 : ¬ g_sf Z s → K (some .null) S P I J n) (k2 : ∀ k : Nat, s = nI k → k < m_ns Z → k < 10 → K (some (.ref (fa k + 1))) S P I J n) : x_Call f_X8_wall [.ref 3, .int s] K S P I J n := by
  have hS := hR.hS
  have hP := hR.hP
  have hn := mi.hn
  have hfo := mi.fo
  have h9 : m_ns Z = (Z 39 2).toInt.toNat := rfl
  refine x_intro (by decide) 0 (ls := [_, _]) rfl (Nat.le_of_ble_eq_true rfl) ?_
  refine v_iload_n d_X8_wall_0 rfl ?_
  refine w_if_lt d_X8_wall_1 (fun h1 => ?_) (fun h1 => ?_)
  · try simp (disch := omega) only [x_ti, x_tm1] at h1
    refine v_null d_X8_wall_21 ?_
    refine v_ret (v := some .null) d_X8_wall_22 rfl ⟨rfl, _, rfl⟩ (by decide) (by decide) ?_
    exact k1 (by unfold g_sf; omega)
  · try simp (disch := omega) only [x_ti, x_tm1] at h1
    refine v_iload_n d_X8_wall_4 rfl ?_
    refine v_aload_n d_X8_wall_5 rfl ?_
    refine v_gie d_X8_wall_6 lf_X8_17_8 rfl (hS _ _ rfl) (hR.ns) ?_
    refine w_icmp_ge d_X8_wall_9 (fun h9 => ?_) (fun h9 => ?_)
    · try simp (disch := omega) only [x_ti, x_tm1] at h9
      refine v_null d_X8_wall_21 ?_
      refine v_ret (v := some .null) d_X8_wall_22 rfl ⟨rfl, _, rfl⟩ (by decide) (by decide) ?_
      exact k1 (by unfold g_sf; omega)
    · try simp (disch := omega) only [x_ti, x_tm1] at h9
      obtain ⟨k, rfl, hk_k, t_k, y_k⟩ := x_ex1 (s := s) (by omega)
      have hk : k < m_ns Z := by omega
      have hw := hR.w hk
      refine v_aload_n d_X8_wall_12 rfl ?_
      refine v_gr d_X8_wall_13 lf_X8_11_8 rfl (hS _ _ rfl) (hP _ _ _ rfl) ?_
      refine v_iload_n d_X8_wall_16 rfl ?_
      refine v_aald _ d_X8_wall_17 (rfl) (hS _ _ rfl) (by decide) (⟨by omega, by omega⟩) (hw.p4) ?_
      refine v_goto d_X8_wall_18 ?_
      refine v_ret (v := some (.ref _)) d_X8_wall_22 rfl ⟨rfl, _, rfl⟩ (by decide) (by decide) ?_
      exact k2 k rfl hk (by omega)

set_option maxRecDepth 100000 in
set_option maxHeartbeats 4000000 in
theorem t_X8_wallP {K : x_K} {S : x_S} {P : x_P} {I : x_I} {J : x_J} {n : Nat} {q : Nat} {c : Int32} (k : Nat) (hc : I 3 1 = c) (hk : (k : Int) < c.toInt) (hk10 : k < 10) (hp : P 4 k = some q) (hS : x_hS S) (hP : x_hP P) (hK : K (some (.ref q)) S P I J n) : x_Call f_X8_wall [.ref 3, .int (nI k)] K S P I J n := by
  refine x_intro (by decide) 0 (ls := [_, _]) rfl (Nat.le_of_ble_eq_true rfl) ?_
  refine v_iload_n d_X8_wall_0 rfl ?_
  refine w_if_lt d_X8_wall_1 (fun h1 => False.elim (by (try simp (disch := omega) only [x_ti, x_tm1] at h1); omega)) (fun h1 => ?_)
  refine v_iload_n d_X8_wall_4 rfl ?_
  refine v_aload_n d_X8_wall_5 rfl ?_
  refine v_gie d_X8_wall_6 lf_X8_17_8 rfl (hS _ _ rfl) (hc) ?_
  refine w_icmp_ge d_X8_wall_9 (fun h9 => False.elim (by (try simp (disch := omega) only [x_ti, x_tm1] at h9); omega)) (fun h9 => ?_)
  refine v_aload_n d_X8_wall_12 rfl ?_
  refine v_gr d_X8_wall_13 lf_X8_11_8 rfl (hS _ _ rfl) (hP _ _ _ rfl) ?_
  refine v_iload_n d_X8_wall_16 rfl ?_
  refine v_aald _ d_X8_wall_17 (rfl) (hS _ _ rfl) (by decide) (⟨by omega, by omega⟩) (hp) ?_
  refine v_goto d_X8_wall_18 ?_
  refine v_ret (v := some (.ref _)) d_X8_wall_22 rfl ⟨rfl, _, rfl⟩ (by decide) (by decide) ?_
  exact hK

set_option maxRecDepth 100000 in
set_option maxHeartbeats 4000000 in
theorem sv_X6_go_90 {K : x_K} {S : x_S} {P : x_P} {I : x_I} {J : x_J} {n : Nat} {fa : Nat → Nat} {Z : x_I} {s j : Nat} {ls : List (Option Value)} {x : Int32} (hx : x = nI j) (hw : c_w fa Z S P I n s) (hk : 0 ≤ (Z 40 s).toInt ∧ (Z 40 s).toInt ≤ 2) (hj : (j : Int) < m_ce Z s) (hj6 : j < 64)
    (ht : r_tb Z s j = true → x_V f_X6_go K 93 ls [.int (nI 1)] S P I J n 0 0) (hf : r_tb Z s j = false → x_V f_X6_go K 93 ls [.int (nI 0)] S P I J n 0 0) : x_V f_X6_go K 90 ls [.int x, .ref (fa s + 1)] S P I J n 0 0 := by
  subst hx
  have hs := hw.sw
  unfold c_kc at hs
  unfold r_tb at ht hf
  split at hs
  · refine v_cv (as := [_]) (rest := []) d_X6_go_90 lv_X6_52_10 hs rfl ⟨by decide, by decide⟩ rfl (Nat.le_of_ble_eq_true rfl) (by decide) (by decide) ?_
    refine t_X10_throwsBack ?_
    exact hf (decide_eq_false (by omega))
  · split at hs
    · refine v_cu (as := [_]) (rest := []) d_X6_go_90 lu_X6_52_5 hs rfl ⟨by decide, by decide⟩ rfl (Nat.le_of_ble_eq_true rfl) (by decide) (by decide) ?_
      refine t_X5_throwsBack ?_
      exact ht (decide_eq_true (by omega))
    · refine v_cu (as := [_]) (rest := []) d_X6_go_90 lu_X6_52_0 hs rfl ⟨by decide, by decide⟩ rfl (Nat.le_of_ble_eq_true rfl) (by decide) (by decide) ?_
      refine t_X0_throwsBack hw j rfl hj hj6 hs (fun q => ?_) (fun q => ?_)
      · exact ht (decide_eq_true (by omega))
      · exact hf (decide_eq_false (by omega))

set_option maxRecDepth 100000 in
set_option maxHeartbeats 4000000 in
theorem l_X6_go_i {K : x_K} {S : x_S} {J : x_J} {n : Nat} {fa : Nat → Nat} {bd : Nat} {Z : x_I} {x : Int32} (P0 : x_P) (I0 : x_I) (g : Nat) (hR : c_R fa bd Z S P0 I0 J n) (mi : m_I Z) (hlu : -2000 ≤ (I0 5 3).toInt ∧ (I0 5 3).toInt ≤ 2000) (hld : 1 ≤ (I0 5 4).toInt ∧ (I0 5 4).toInt ≤ 100) (hp : ∀ a, a < 3 → -1000 ≤ (I0 6 a).toInt ∧ (I0 6 a).toInt ≤ 1000) (hq : ∀ a, a < 3 → -100 ≤ (I0 7 a).toInt ∧ (I0 7 a).toInt ≤ 100)
    (hc : ∀ (P : x_P) (I : x_I), p_ex P0 P → x_ex c5 I0 I J J → c_nx fa (r_best Z 2 (fun a => (I0 6 a).toInt) (fun a => (I0 7 a).toInt) (I0 5 3).toInt (I0 5 4).toInt x.toInt (m_ns Z)) P I → x_V f_X6_go K 72 [some (.ref 5), some (.int x), some (.int (nI g)), some (.int (nI (m_ns Z))), none] [] S P I J n 0 0) :
    ∀ d j : Nat, j + d = m_ns Z → ∀ (P : x_P) (I : x_I), p_ex P0 P → x_ex c5 I0 I J J → c_nx fa (r_best Z 2 (fun a => (I0 6 a).toInt) (fun a => (I0 7 a).toInt) (I0 5 3).toInt (I0 5 4).toInt x.toInt j) P I → x_V f_X6_go K 29 [some (.ref 5), some (.int x), some (.int (nI g)), some (.int (nI j)), none] [] S P I J n 0 0 := by
  have hn := mi.hn
  have hfo := mi.fo
  have h9 : m_ns Z = (Z 39 2).toInt.toNat := rfl
  intro d
  induction d with
  | zero =>
    intro j hd P I hpe hex hb
    have hR2 := hR.cgE hex.c5E hpe
    have hS2 := hR2.hS
    have hP2 := hR2.hP
    have hS := hS2
    have hP := hP2
    have e6 : (fun a => (I 6 a).toInt) = (fun a => (I0 6 a).toInt) := funext fun a => by rw [hex.i 6 a rfl]
    have e7 : (fun a => (I 7 a).toInt) = (fun a => (I0 7 a).toInt) := funext fun a => by rw [hex.i 7 a rfl]
    have e53 : (I 5 3).toInt = (I0 5 3).toInt := by rw [hex.i 5 3 rfl]
    have e54 : (I 5 4).toInt = (I0 5 4).toInt := by rw [hex.i 5 4 rfl]
    refine v_iload_n d_X6_go_29 rfl ?_
    refine v_aload_n d_X6_go_30 rfl ?_
    refine v_gr d_X6_go_31 lf_X6_18_6 rfl (hS _ _ rfl) (hP _ _ _ rfl) ?_
    refine v_gie d_X6_go_34 lf_X6_36_8 rfl (hS _ _ rfl) (hR2.ns) ?_
    refine w_icmp_ge d_X6_go_37 (fun h37 => ?_) (fun h37 => False.elim (by (try simp (disch := omega) only [x_ti, x_tm1] at h37); omega))
    have e9 : j = m_ns Z := by omega
    subst e9
    exact hc P I hpe hex hb
  | succ d ih =>
    intro j hd P I hpe hex hb
    have hR2 := hR.cgE hex.c5E hpe
    have hS2 := hR2.hS
    have hP2 := hR2.hP
    have hS := hS2
    have hP := hP2
    have e6 : (fun a => (I 6 a).toInt) = (fun a => (I0 6 a).toInt) := funext fun a => by rw [hex.i 6 a rfl]
    have e7 : (fun a => (I 7 a).toInt) = (fun a => (I0 7 a).toInt) := funext fun a => by rw [hex.i 7 a rfl]
    have e53 : (I 5 3).toInt = (I0 5 3).toInt := by rw [hex.i 5 3 rfl]
    have e54 : (I 5 4).toInt = (I0 5 4).toInt := by rw [hex.i 5 4 rfl]
    have hw := hR2.w (show j < m_ns Z by omega)
    refine v_iload_n d_X6_go_29 rfl ?_
    refine v_aload_n d_X6_go_30 rfl ?_
    refine v_gr d_X6_go_31 lf_X6_18_6 rfl (hS _ _ rfl) (hP _ _ _ rfl) ?_
    refine v_gie d_X6_go_34 lf_X6_36_8 rfl (hS _ _ rfl) (hR2.ns) ?_
    refine w_icmp_ge d_X6_go_37 (fun h37 => False.elim (by (try simp (disch := omega) only [x_ti, x_tm1] at h37); omega)) (fun h37 => ?_)
    refine v_aload_n d_X6_go_40 rfl ?_
    refine v_gr d_X6_go_41 lf_X6_18_6 rfl (hS _ _ rfl) (hP _ _ _ rfl) ?_
    refine v_iload_n d_X6_go_44 rfl ?_
    refine v_cv (as := [_]) (rest := []) d_X6_go_45 lv_X6_41_8 (hS _ _ rfl) rfl ⟨by decide, by decide⟩ rfl (Nat.le_of_ble_eq_true rfl) (by decide) (by decide) ?_
    refine t_X8_wallP j hR2.ns (by omega) (by omega) hw.p4 hS2 hP2 ?_
    refine v_astore (ls' := [_, _, _, _, _]) d_X6_go_48 (by decide) rfl ?_
    refine v_iload_n d_X6_go_50 rfl ?_
    refine v_iload_n d_X6_go_51 rfl ?_
    refine w_icmp_eq d_X6_go_52 (fun a53 => ?_) (fun a53 => ?_)
    · first | refine v_iinc (ls' := [_, _, _, _, _]) d_X6_go_66 rfl (x_inc_1 _) (by decide) rfl ?_ | refine v_iinc (ls' := [_, _, _, _, _]) d_X6_go_66 rfl rfl (by decide) rfl ?_
      refine v_goto d_X6_go_69 ?_
      refine x_V.fg1 4 (ls' := [_, _, _, _, _]) rfl ?_
      rw [x_ti (by omega)] at a53
      refine ih (j + 1) (by omega) P I hpe hex ?_
      rw [r_best_w a53]
      exact hb
    · refine v_aload d_X6_go_55 rfl ?_
      refine v_ifnull d_X6_go_57 ?_
      refine v_aload_n d_X6_go_60 rfl ?_
      refine v_aload d_X6_go_61 rfl ?_
      refine v_cv (as := [_]) (rest := []) d_X6_go_63 lv_X6_45_6 (hS _ _ rfl) rfl ⟨by decide, by decide⟩ rfl (Nat.le_of_ble_eq_true rfl) (by decide) (by decide) ?_
      refine t_X6_consider (r_best Z 2 (fun a => (I0 6 a).toInt) (fun a => (I0 7 a).toInt) (I0 5 3).toInt (I0 5 4).toInt x.toInt j) hw (hfo j (by omega)) hb (fun s' c' u' d' hq9 => (r_best_in hp hq (Or.inr rfl) j (fun s hs => hfo s (by omega)) hq9).2.2.2) (by rw [hex.i 5 3 rfl]; exact hlu) (by rw [hex.i 5 4 rfl]; exact hld) (fun a ha => by rw [hex.i 6 a rfl]; exact hp a ha) (fun a ha => by rw [hex.i 7 a rfl]; exact hq a ha) hS2 hP2 (fun P' I' h1 h2 h3 => ?_)
      first | refine v_iinc (ls' := [_, _, _, _, _]) d_X6_go_66 rfl (x_inc_1 _) (by decide) rfl ?_ | refine v_iinc (ls' := [_, _, _, _, _]) d_X6_go_66 rfl rfl (by decide) rfl ?_
      refine v_goto d_X6_go_69 ?_
      refine x_V.fg1 4 (ls' := [_, _, _, _, _]) rfl ?_
      rw [x_ti (by omega)] at a53
      refine ih (j + 1) (by omega) P' I' (hpe.tr h1) (hex.tr h2) ?_
      unfold r_best
      rw [if_neg a53]
      rw [e6, e7, e53, e54] at h3
      exact h3

set_option maxRecDepth 100000 in
set_option maxHeartbeats 4000000 in
theorem l_X6_go_o {K : x_K} {S : x_S} {J : x_J} {n : Nat} {fa : Nat → Nat} {bd : Nat} {Z : x_I} {x : Int32} (mi : m_I Z) :
    ∀ k g : Nat, g + k = 3 → ∀ (P : x_P) (I : x_I), c_R fa bd Z S P I J n → I 5 9 = nI g → (∀ a, a < 3 → -(90 + 160 * (g : Int)) ≤ (I 6 a).toInt ∧ (I 6 a).toInt ≤ 90 + 160 * (g : Int)) → (∀ a, a < 3 → -100 ≤ (I 7 a).toInt ∧ (I 7 a).toInt ≤ 100) → (-2000 ≤ (I 5 3).toInt ∧ (I 5 3).toInt ≤ 2000) → (1 ≤ (I 5 4).toInt ∧ (I 5 4).toInt ≤ 100) →
    (∀ (P' : x_P) (I' : x_I), p_ex P P' → x_ex cE I I' J J → I' 5 9 = nI (g + (r_end Z 2 x.toInt k (fun a => (I 6 a).toInt) (fun a => (I 7 a).toInt) (I 5 3).toInt (I 5 4).toInt).2) → K (some (.int (r_ans (r_end Z 2 x.toInt k (fun a => (I 6 a).toInt) (fun a => (I 7 a).toInt) (I 5 3).toInt (I 5 4).toInt).1))) S P' I' J n) → x_V f_X6_go K 17 [some (.ref 5), some (.int x), some (.int (nI g)), none, none] [] S P I J n 0 0 := by
  have hn := mi.hn
  have hfo := mi.fo
  have h9 : m_ns Z = (Z 39 2).toInt.toNat := rfl
  intro k
  induction k with
  | zero =>
    intro g hg P I hR hth hp hq hlu hld hK
    have hR1 : c_R fa bd Z S (x_u2 P 5 5 none) I J n := hR.cg x_ex.rf p_ex.rf.u
    have hS := hR.hS
    have hP := hR.hP
    refine v_iload_n d_X6_go_17 rfl ?_
    refine v_iconst (v := nI 3) d_X6_go_18 x_ic_3 ?_
    refine w_icmp_gt d_X6_go_19 (fun h19 => False.elim (by (try simp (disch := omega) only [x_ti, x_tm1] at h19); omega)) (fun h19 => ?_)
    refine v_aload_n d_X6_go_22 rfl ?_
    refine v_null d_X6_go_23 ?_
    refine v_pn d_X6_go_24 (lp_X6_32_6 _) rfl (hS _ _ rfl) rfl rfl ?_
    refine v_iconst (v := nI 0) d_X6_go_27 x_ic_0 ?_
    refine v_istore_n (ls' := [_, _, _, _, _]) d_X6_go_28 (by decide) rfl ?_
    refine l_X6_go_i (x_u2 P 5 5 none) I g hR1 mi hlu hld (fun a ha => by have := hp a ha; omega) hq ?_ (m_ns Z) 0 (by omega) (x_u2 P 5 5 none) I p_ex.rf x_ex.rf (x_u2_s _ _ _ _)
    intro P1 I1 h1 h2 hb
    have hR2 := hR1.cgE h2.c5E h1
    have hS := hR2.hS
    have hP := hR2.hP
    cases hbest : r_best Z 2 (fun a => (I 6 a).toInt) (fun a => (I 7 a).toInt) (I 5 3).toInt (I 5 4).toInt x.toInt (m_ns Z) with
    | none =>
      rw [hbest] at hb
      refine v_aload_n d_X6_go_72 rfl ?_
      refine v_gn d_X6_go_73 lf_X6_32_6 rfl (hS _ _ rfl) (hb) ?_
      refine v_ifnonnullN d_X6_go_76 ?_
      refine v_bipush (v := (-9)) d_X6_go_79 x_bp_m9 ?_
      refine v_ret (v := some (.int _)) d_X6_go_81 rfl ⟨rfl, _, rfl, rfl⟩ (by decide) (by decide) ?_
      rw [r_end_n hbest] at hK
      exact hK P1 I1 (p_ex.rf.u.tr h1) h2.c5E (by rw [h2.i 5 9 rfl]; exact hth)
    | some v =>
      obtain ⟨s, c, u, d⟩ := v
      rw [hbest] at hb
      have hin := r_best_in (fun a ha => by have := hp a ha; omega) hq (Or.inr rfl) _ hfo hbest
      have hw := hR2.w hin.1
      refine v_aload_n d_X6_go_72 rfl ?_
      refine v_gr d_X6_go_73 lf_X6_32_6 rfl (hS _ _ rfl) (hb.1) ?_
      refine v_ifnonnull d_X6_go_76 ?_
      refine v_aload_n d_X6_go_82 rfl ?_
      refine v_gr d_X6_go_83 lf_X6_32_6 rfl (hS _ _ rfl) (hb.1) ?_
      refine v_aload_n d_X6_go_86 rfl ?_
      refine v_gie d_X6_go_87 lf_X6_49_6 rfl (hS _ _ rfl) (hb.2.1) ?_
      refine sv_X6_go_90 (s := s) (j := c) rfl hw (mi.kd s hin.1) hin.2.1 hin.2.2.1 (fun htb => ?_) (fun htb => ?_)
      · refine w_if_ne d_X6_go_93 (fun _ => ?_) (fun h93 => absurd h93 (by decide))
        refine v_iload_n d_X6_go_112 rfl ?_
        refine v_iconst (v := nI 3) d_X6_go_113 x_ic_3 ?_
        refine w_icmp_ge d_X6_go_114 (fun h114 => ?_) (fun h114 => False.elim (by (try simp (disch := omega) only [x_ti, x_tm1] at h114); omega))
        first | refine v_iinc (ls' := [_, _, _, _, _]) d_X6_go_128 rfl (x_inc_1 _) (by decide) rfl ?_ | refine v_iinc (ls' := [_, _, _, _, _]) d_X6_go_128 rfl rfl (by decide) rfl ?_
        refine v_goto d_X6_go_131 ?_
        refine v_iload_n d_X6_go_17 rfl ?_
        refine v_iconst (v := nI 3) d_X6_go_18 x_ic_3 ?_
        refine w_icmp_gt d_X6_go_19 (fun h19 => ?_) (fun h19 => False.elim (by (try simp (disch := omega) only [x_ti, x_tm1] at h19); omega))
        refine v_bipush (v := (-9)) d_X6_go_134 x_bp_m9 ?_
        refine v_ret (v := some (.int _)) d_X6_go_136 rfl ⟨rfl, _, rfl, rfl⟩ (by decide) (by decide) ?_
        rw [r_end_0 hbest htb] at hK
        exact hK P1 I1 (p_ex.rf.u.tr h1) h2.c5E (by rw [h2.i 5 9 rfl]; exact hth)
      · refine w_if_ne d_X6_go_93 (fun h93 => absurd h93 (by decide)) (fun _ => ?_)
        refine v_bipush (v := nI 100) d_X6_go_96 x_bp_100 ?_
        refine v_aload_n d_X6_go_98 rfl ?_
        refine v_gr d_X6_go_99 lf_X6_32_6 rfl (hS _ _ rfl) (hb.1) ?_
        refine v_gie d_X6_go_102 (lfw_X6_58 (c_kc_ok _)) (x_ftw0 (c_kc_ok _)) (hw.sw) (hw.nu) ?_
        refine v_imulN d_X6_go_105 ?_
        refine v_aload_n d_X6_go_106 rfl ?_
        refine v_gie d_X6_go_107 lf_X6_49_6 rfl (hS _ _ rfl) (hb.2.1) ?_
        refine v_iaddN d_X6_go_110 ?_
        refine v_ret (v := some (.int _)) d_X6_go_111 rfl ⟨rfl, _, rfl, rfl⟩ (by decide) (by decide) ?_
        rw [r_end_e hbest htb] at hK
        refine hK P1 I1 (p_ex.rf.u.tr h1) h2.c5E (by rw [h2.i 5 9 rfl]; exact hth)
  | succ k ih =>
    intro g hg P I hR hth hp hq hlu hld hK
    have hR1 : c_R fa bd Z S (x_u2 P 5 5 none) I J n := hR.cg x_ex.rf p_ex.rf.u
    have hS := hR.hS
    have hP := hR.hP
    refine v_iload_n d_X6_go_17 rfl ?_
    refine v_iconst (v := nI 3) d_X6_go_18 x_ic_3 ?_
    refine w_icmp_gt d_X6_go_19 (fun h19 => False.elim (by (try simp (disch := omega) only [x_ti, x_tm1] at h19); omega)) (fun h19 => ?_)
    refine v_aload_n d_X6_go_22 rfl ?_
    refine v_null d_X6_go_23 ?_
    refine v_pn d_X6_go_24 (lp_X6_32_6 _) rfl (hS _ _ rfl) rfl rfl ?_
    refine v_iconst (v := nI 0) d_X6_go_27 x_ic_0 ?_
    refine v_istore_n (ls' := [_, _, _, _, _]) d_X6_go_28 (by decide) rfl ?_
    refine l_X6_go_i (x_u2 P 5 5 none) I g hR1 mi hlu hld (fun a ha => by have := hp a ha; omega) hq ?_ (m_ns Z) 0 (by omega) (x_u2 P 5 5 none) I p_ex.rf x_ex.rf (x_u2_s _ _ _ _)
    intro P1 I1 h1 h2 hb
    have hR2 := hR1.cgE h2.c5E h1
    have hS := hR2.hS
    have hP := hR2.hP
    cases hbest : r_best Z 2 (fun a => (I 6 a).toInt) (fun a => (I 7 a).toInt) (I 5 3).toInt (I 5 4).toInt x.toInt (m_ns Z) with
    | none =>
      rw [hbest] at hb
      refine v_aload_n d_X6_go_72 rfl ?_
      refine v_gn d_X6_go_73 lf_X6_32_6 rfl (hS _ _ rfl) (hb) ?_
      refine v_ifnonnullN d_X6_go_76 ?_
      refine v_bipush (v := (-9)) d_X6_go_79 x_bp_m9 ?_
      refine v_ret (v := some (.int _)) d_X6_go_81 rfl ⟨rfl, _, rfl, rfl⟩ (by decide) (by decide) ?_
      rw [r_end_n hbest] at hK
      exact hK P1 I1 (p_ex.rf.u.tr h1) h2.c5E (by rw [h2.i 5 9 rfl]; exact hth)
    | some v =>
      obtain ⟨s, c, u, d⟩ := v
      rw [hbest] at hb
      have hin := r_best_in (fun a ha => by have := hp a ha; omega) hq (Or.inr rfl) _ hfo hbest
      have hw := hR2.w hin.1
      refine v_aload_n d_X6_go_72 rfl ?_
      refine v_gr d_X6_go_73 lf_X6_32_6 rfl (hS _ _ rfl) (hb.1) ?_
      refine v_ifnonnull d_X6_go_76 ?_
      refine v_aload_n d_X6_go_82 rfl ?_
      refine v_gr d_X6_go_83 lf_X6_32_6 rfl (hS _ _ rfl) (hb.1) ?_
      refine v_aload_n d_X6_go_86 rfl ?_
      refine v_gie d_X6_go_87 lf_X6_49_6 rfl (hS _ _ rfl) (hb.2.1) ?_
      refine sv_X6_go_90 (s := s) (j := c) rfl hw (mi.kd s hin.1) hin.2.1 hin.2.2.1 (fun htb => ?_) (fun htb => ?_)
      · refine w_if_ne d_X6_go_93 (fun _ => ?_) (fun h93 => absurd h93 (by decide))
        refine v_iload_n d_X6_go_112 rfl ?_
        refine v_iconst (v := nI 3) d_X6_go_113 x_ic_3 ?_
        refine w_icmp_ge d_X6_go_114 (fun h114 => False.elim (by (try simp (disch := omega) only [x_ti, x_tm1] at h114); omega)) (fun h114 => ?_)
        refine v_aload_n d_X6_go_117 rfl ?_
        refine v_aload_n d_X6_go_118 rfl ?_
        refine v_gr d_X6_go_119 lf_X6_32_6 rfl (hS _ _ rfl) (hb.1) ?_
        refine v_gr d_X6_go_122 (lfw_X6_61 (c_kc_ok _)) (x_ftw1 (c_kc_ok _)) (hw.sw) (hw.pf) ?_
        refine v_cv (as := [_]) (rest := []) d_X6_go_125 lv_X6_65_6 (hS _ _ rfl) rfl ⟨by decide, by decide⟩ rfl (Nat.le_of_ble_eq_true rfl) (by decide) (by decide) ?_
        refine t_X6_turnBack g (by rw [h2.i 5 9 rfl]; exact hth) hw (hfo s hin.1) hS hP ?_
        first | refine v_iinc (ls' := [_, _, _, _, _]) d_X6_go_128 rfl (x_inc_1 _) (by decide) rfl ?_ | refine v_iinc (ls' := [_, _, _, _, _]) d_X6_go_128 rfl rfl (by decide) rfl ?_
        refine v_goto d_X6_go_131 ?_
        refine x_V.fg1 3 (ls' := [_, _, _, _, _]) rfl ?_
        have had := hw.ad
        have hfs := hfo s hin.1
        have ha := r_a_lt hfs
        obtain ⟨f0, f1, -⟩ := id hfs
        have e6 : I1 6 = I 6 := funext fun a => h2.i 6 a rfl
        have e7 : I1 7 = I 7 := funext fun a => h2.i 7 a rfl
        have b1 := hp _ ha
        have b2 := hq _ ha
        have e4 : (nI 4).toInt = 4 := by decide
        have g1 : (nI 4 * Z 41 (6 * s + 1)).toInt = 2 * (Z 41 (6 * s + 1)).toInt * 2 := by rw [x_mul (by rw [e4]; omega) (by rw [e4]; omega), e4]; omega
        have g2 : (nI 4 * Z 41 (6 * s + 1) - I 6 (r_a Z s)).toInt = 2 * (Z 41 (6 * s + 1)).toInt * 2 - (I 6 (r_a Z s)).toInt := by rw [x_sub (by rw [g1]; omega) (by rw [g1]; omega), g1]
        have g3 : (-(I 7 (r_a Z s))).toInt = -(I 7 (r_a Z s)).toInt := x_neg (by omega)
        rw [e6, e7]
        have hx3 : x_ex cE I (x_u2 (x_u2 (x_u2 (x_u2 (x_u2 I1 6 (r_a Z s) (nI 4 * Z 41 (6 * s + 1) - I 6 (r_a Z s))) 7 (r_a Z s) (-(I 7 (r_a Z s)))) 5 3 (I1 5 7)) 5 4 (I1 5 8)) 5 9 (nI (g + 1))) J J := ((((h2.c5E.ui rfl).ui rfl).ui rfl).ui rfl).ui rfl
        have q6 : (fun a => (x_u2 (x_u2 (x_u2 (x_u2 (x_u2 I1 6 (r_a Z s) (nI 4 * Z 41 (6 * s + 1) - I 6 (r_a Z s))) 7 (r_a Z s) (-(I 7 (r_a Z s)))) 5 3 (I1 5 7)) 5 4 (I1 5 8)) 5 9 (nI (g + 1)) 6 a).toInt) = r_upd (fun a => (I 6 a).toInt) (r_a Z s) (2 * (Z 41 (6 * s + 1)).toInt * 2 - (I 6 (r_a Z s)).toInt) := by
          funext a
          show (x_u2 I1 6 (r_a Z s) (nI 4 * Z 41 (6 * s + 1) - I 6 (r_a Z s)) 6 a).toInt = _
          unfold r_upd
          rw [x_u2_at]
          by_cases hqa : a = r_a Z s
          · rw [if_pos ⟨rfl, hqa⟩, if_pos hqa, g2]
          · rw [if_neg (fun z => hqa z.2), if_neg hqa, e6]
        have q7 : (fun a => (x_u2 (x_u2 (x_u2 (x_u2 (x_u2 I1 6 (r_a Z s) (nI 4 * Z 41 (6 * s + 1) - I 6 (r_a Z s))) 7 (r_a Z s) (-(I 7 (r_a Z s)))) 5 3 (I1 5 7)) 5 4 (I1 5 8)) 5 9 (nI (g + 1)) 7 a).toInt) = r_upd (fun a => (I 7 a).toInt) (r_a Z s) (-(I 7 (r_a Z s)).toInt) := by
          funext a
          show (x_u2 (x_u2 I1 6 (r_a Z s) (nI 4 * Z 41 (6 * s + 1) - I 6 (r_a Z s))) 7 (r_a Z s) (-(I 7 (r_a Z s))) 7 a).toInt = _
          unfold r_upd
          rw [x_u2_at]
          by_cases hqa : a = r_a Z s
          · rw [if_pos ⟨rfl, hqa⟩, if_pos hqa, g3]
          · rw [if_neg (fun z => hqa z.2), if_neg hqa]
            show (I1 7 a).toInt = _
            rw [e7]
        rw [r_end_s hbest htb rfl rfl] at hK
        refine ih (g + 1) (by omega) P1 _ (hR.cgE hx3 (p_ex.rf.u.tr h1)) ?_ ?_ ?_ ?_ ?_ ?_
        · show nI (g + 1) = _; rfl
        · intro a ha2
          have z1 := congrFun q6 a
          rw [z1]
          unfold r_upd
          dsimp only
          have := hp a ha2
          split <;> omega
        · intro a ha2
          have z1 := congrFun q7 a
          rw [z1]
          unfold r_upd
          dsimp only
          have := hq a ha2
          split <;> omega
        · show -2000 ≤ (I1 5 7).toInt ∧ (I1 5 7).toInt ≤ 2000
          rw [hb.2.2.1]; exact hin.2.2.2.1
        · show 1 ≤ (I1 5 8).toInt ∧ (I1 5 8).toInt ≤ 100
          rw [hb.2.2.2]; exact hin.2.2.2.2
        · have z3 : (x_u2 (x_u2 (x_u2 (x_u2 (x_u2 I1 6 (r_a Z s) (nI 4 * Z 41 (6 * s + 1) - I 6 (r_a Z s))) 7 (r_a Z s) (-(I 7 (r_a Z s)))) 5 3 (I1 5 7)) 5 4 (I1 5 8)) 5 9 (nI (g + 1)) 5 3).toInt = u := hb.2.2.1
          have z4 : (x_u2 (x_u2 (x_u2 (x_u2 (x_u2 I1 6 (r_a Z s) (nI 4 * Z 41 (6 * s + 1) - I 6 (r_a Z s))) 7 (r_a Z s) (-(I 7 (r_a Z s)))) 5 3 (I1 5 7)) 5 4 (I1 5 8)) 5 9 (nI (g + 1)) 5 4).toInt = d := hb.2.2.2
          rw [q6, q7, z3, z4]
          intro P3 I3 k1 k2 k3
          refine hK P3 I3 ((p_ex.rf.u.tr h1).tr k1) (hx3.tr k2) ?_
          rw [k3]
          congr 1
          show _ = g + (_ + 1)
          omega
      · refine w_if_ne d_X6_go_93 (fun h93 => absurd h93 (by decide)) (fun _ => ?_)
        refine v_bipush (v := nI 100) d_X6_go_96 x_bp_100 ?_
        refine v_aload_n d_X6_go_98 rfl ?_
        refine v_gr d_X6_go_99 lf_X6_32_6 rfl (hS _ _ rfl) (hb.1) ?_
        refine v_gie d_X6_go_102 (lfw_X6_58 (c_kc_ok _)) (x_ftw0 (c_kc_ok _)) (hw.sw) (hw.nu) ?_
        refine v_imulN d_X6_go_105 ?_
        refine v_aload_n d_X6_go_106 rfl ?_
        refine v_gie d_X6_go_107 lf_X6_49_6 rfl (hS _ _ rfl) (hb.2.1) ?_
        refine v_iaddN d_X6_go_110 ?_
        refine v_ret (v := some (.int _)) d_X6_go_111 rfl ⟨rfl, _, rfl, rfl⟩ (by decide) (by decide) ?_
        rw [r_end_e hbest htb] at hK
        refine hK P1 I1 (p_ex.rf.u.tr h1) h2.c5E (by rw [h2.i 5 9 rfl]; exact hth)

set_option maxRecDepth 100000 in
set_option maxHeartbeats 4000000 in
theorem t_X6_go {K : x_K} {S : x_S} {P : x_P} {I : x_I} {J : x_J} {n : Nat} {fa : Nat → Nat} {bd : Nat} {Z : x_I} {x : Int32} (hR : c_R fa bd Z S P I J n) (mi : m_I Z) (hp : ∀ a, a < 3 → -90 ≤ (I 6 a).toInt ∧ (I 6 a).toInt ≤ 90) (hq : ∀ a, a < 3 → -100 ≤ (I 7 a).toInt ∧ (I 7 a).toInt ≤ 100) (hK : ∀ (P' : x_P) (I' : x_I), p_ex P P' → x_ex cE I I' J J → I' 5 9 = nI (r_end Z 2 x.toInt 3 (fun a => (I 6 a).toInt) (fun a => (I 7 a).toInt) 0 1).2 → K (some (.int (r_ans (r_end Z 2 x.toInt 3 (fun a => (I 6 a).toInt) (fun a => (I 7 a).toInt) 0 1).1))) S P' I' J n) : x_Call f_X6_go [.ref 5, .int x] K S P I J n := by
  have hS := hR.hS
  have hP := hR.hP
  refine x_intro (by decide) 3 (ls := [_, _, _, _, _]) rfl (Nat.le_of_ble_eq_true rfl) ?_
  refine v_aload_n d_X6_go_0 rfl ?_
  refine v_iconst (v := nI 0) d_X6_go_1 x_ic_0 ?_
  refine v_pi d_X6_go_2 (lp_X6_22_6 _) rfl (hS _ _ rfl) (rfl) rfl ?_
  refine v_aload_n d_X6_go_5 rfl ?_
  refine v_iconst (v := nI 0) d_X6_go_6 x_ic_0 ?_
  refine v_pi d_X6_go_7 (lp_X6_26_6 _) rfl (hS _ _ rfl) (rfl) rfl ?_
  refine v_aload_n d_X6_go_10 rfl ?_
  refine v_iconst (v := nI 1) d_X6_go_11 x_ic_1 ?_
  refine v_pi d_X6_go_12 (lp_X6_29_6 _) rfl (hS _ _ rfl) (rfl) rfl ?_
  refine v_iconst (v := nI 0) d_X6_go_15 x_ic_0 ?_
  refine v_istore_n (ls' := [_, _, _, _, _]) d_X6_go_16 (by decide) rfl ?_
  have hx : x_ex cE I (x_u2 (x_u2 (x_u2 I 5 9 (nI 0)) 5 3 (nI 0)) 5 4 (nI 1)) J J := ((x_ex.rf.ui rfl).ui rfl).ui rfl
  refine l_X6_go_o mi 3 0 rfl _ _ (hR.cgE hx p_ex.rf) rfl (fun a ha => by have := hp a ha; show -(90 + 160 * ((0 : Nat) : Int)) ≤ (I 6 a).toInt ∧ (I 6 a).toInt ≤ 90 + 160 * ((0 : Nat) : Int); omega) (fun a ha => hq a ha) ?_ ?_ ?_
  · show -2000 ≤ (nI 0).toInt ∧ (nI 0).toInt ≤ 2000; decide
  · show 1 ≤ (nI 1).toInt ∧ (nI 1).toInt ≤ 100; decide
  · intro P' I' h1 h2 h3
    refine hK P' I' h1 (hx.tr h2) ?_
    rw [h3, Nat.zero_add]; rfl

