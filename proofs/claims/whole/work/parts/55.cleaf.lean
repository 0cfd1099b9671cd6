theorem c_w.ad {fa : Nat → Nat} {Z : x_I} {S : x_S} {P : x_P} {I : x_I} {n s : Nat} (h : c_w fa Z S P I n s) : 63 ≤ fa s ∧ fa s + 2 ≤ n := h.1
theorem c_w.sf {fa : Nat → Nat} {Z : x_I} {S : x_S} {P : x_P} {I : x_I} {n s : Nat} (h : c_w fa Z S P I n s) : S (fa s) = .inl 1 := h.2.1
theorem c_w.sw {fa : Nat → Nat} {Z : x_I} {S : x_S} {P : x_P} {I : x_I} {n s : Nat} (h : c_w fa Z S P I n s) : S (fa s + 1) = .inl (c_kc (Z 40 s)) := h.2.2.1
theorem c_w.sc {fa : Nat → Nat} {Z : x_I} {S : x_S} {P : x_P} {I : x_I} {n s : Nat} (h : c_w fa Z S P I n s) : S (fa s + 2) = .inr (0, (m_ce Z s).toNat) := h.2.2.2.1
theorem c_w.p4 {fa : Nat → Nat} {Z : x_I} {S : x_S} {P : x_P} {I : x_I} {n s : Nat} (h : c_w fa Z S P I n s) : P 4 s = some (fa s + 1) := h.2.2.2.2.1
theorem c_w.pf {fa : Nat → Nat} {Z : x_I} {S : x_S} {P : x_P} {I : x_I} {n s : Nat} (h : c_w fa Z S P I n s) : P (fa s + 1) 1 = some (fa s) := h.2.2.2.2.2.1
theorem c_w.pc {fa : Nat → Nat} {Z : x_I} {S : x_S} {P : x_P} {I : x_I} {n s : Nat} (h : c_w fa Z S P I n s) : P (fa s + 1) 2 = some (fa s + 2) := h.2.2.2.2.2.2.1
theorem c_w.nu {fa : Nat → Nat} {Z : x_I} {S : x_S} {P : x_P} {I : x_I} {n s : Nat} (h : c_w fa Z S P I n s) : I (fa s + 1) 0 = nI s := h.2.2.2.2.2.2.2.1
theorem c_w.fl {fa : Nat → Nat} {Z : x_I} {S : x_S} {P : x_P} {I : x_I} {n s : Nat} (h : c_w fa Z S P I n s) : c_fl I (fa s) Z s := h.2.2.2.2.2.2.2.2.1
theorem c_w.co {fa : Nat → Nat} {Z : x_I} {S : x_S} {P : x_P} {I : x_I} {n s : Nat} (h : c_w fa Z S P I n s) : ∀ k, k < (m_ce Z s).toNat → I (fa s + 2) k = Z 42 (64 * s + k) := h.2.2.2.2.2.2.2.2.2
theorem c_fl.ax {I : x_I} {a : Nat} {Z : x_I} {s : Nat} (h : c_fl I a Z s) : I a 0 = Z 41 (6 * s) := h.1
theorem c_fl.c {I : x_I} {a : Nat} {Z : x_I} {s : Nat} (h : c_fl I a Z s) : I a 1 = Z 41 (6 * s + 1) := h.2.1
theorem c_fl.u {I : x_I} {a : Nat} {Z : x_I} {s : Nat} (h : c_fl I a Z s) : I a 2 = Z 41 (6 * s + 2) := h.2.2.1
theorem c_fl.v {I : x_I} {a : Nat} {Z : x_I} {s : Nat} (h : c_fl I a Z s) : I a 3 = Z 41 (6 * s + 3) := h.2.2.2.1
theorem c_fl.w {I : x_I} {a : Nat} {Z : x_I} {s : Nat} (h : c_fl I a Z s) : I a 4 = Z 41 (6 * s + 4) := h.2.2.2.2.1
theorem c_fl.h {I : x_I} {a : Nat} {Z : x_I} {s : Nat} (h : c_fl I a Z s) : I a 5 = Z 41 (6 * s + 5) := h.2.2.2.2.2.1
theorem c_fl.o1 {I : x_I} {a : Nat} {Z : x_I} {s : Nat} (h : c_fl I a Z s) : I a 6 = nI (r_o1 (r_a Z s)) := h.2.2.2.2.2.2.1
theorem c_fl.o2 {I : x_I} {a : Nat} {Z : x_I} {s : Nat} (h : c_fl I a Z s) : I a 7 = nI (r_o2 (r_a Z s)) := h.2.2.2.2.2.2.2.1
theorem c_fl.ce {I : x_I} {a : Nat} {Z : x_I} {s : Nat} (h : c_fl I a Z s) : I a 8 = Z 41 (6 * s + 4) * Z 41 (6 * s + 5) := h.2.2.2.2.2.2.2.2
theorem c_R.hS {fa : Nat → Nat} {bd : Nat} {Z : x_I} {S : x_S} {P : x_P} {I : x_I} {J : x_J} {n : Nat} (h : c_R fa bd Z S P I J n) : x_hS S := h.1.1
theorem c_R.hP {fa : Nat → Nat} {bd : Nat} {Z : x_I} {S : x_S} {P : x_P} {I : x_I} {J : x_J} {n : Nat} (h : c_R fa bd Z S P I J n) : x_hP P := h.1.2.1
theorem c_R.n62 {fa : Nat → Nat} {bd : Nat} {Z : x_I} {S : x_S} {P : x_P} {I : x_I} {J : x_J} {n : Nat} (h : c_R fa bd Z S P I J n) : 62 ≤ n := h.1.2.2
theorem c_R.Wl {fa : Nat → Nat} {bd : Nat} {Z : x_I} {S : x_S} {P : x_P} {I : x_I} {J : x_J} {n : Nat} (h : c_R fa bd Z S P I J n) : c_Wl fa Z S P I n := h.2.1
theorem c_R.ns {fa : Nat → Nat} {bd : Nat} {Z : x_I} {S : x_S} {P : x_P} {I : x_I} {J : x_J} {n : Nat} (h : c_R fa bd Z S P I J n) : I 3 1 = Z 39 2 := h.2.1.2.2
theorem c_R.Bd {fa : Nat → Nat} {bd : Nat} {Z : x_I} {S : x_S} {P : x_P} {I : x_I} {J : x_J} {n : Nat} (h : c_R fa bd Z S P I J n) : c_Bd bd Z S P I n := h.2.2.1
theorem c_R.Ey {fa : Nat → Nat} {bd : Nat} {Z : x_I} {S : x_S} {P : x_P} {I : x_I} {J : x_J} {n : Nat} (h : c_R fa bd Z S P I J n) : c_Ey Z I := h.2.2.2.1
theorem c_R.Pi {fa : Nat → Nat} {bd : Nat} {Z : x_I} {S : x_S} {P : x_P} {I : x_I} {J : x_J} {n : Nat} (h : c_R fa bd Z S P I J n) : c_Pi Z I := h.2.2.2.2.1
theorem c_R.Li {fa : Nat → Nat} {bd : Nat} {Z : x_I} {S : x_S} {P : x_P} {I : x_I} {J : x_J} {n : Nat} (h : c_R fa bd Z S P I J n) : c_Li Z I := h.2.2.2.2.2.1
theorem c_R.Wa {fa : Nat → Nat} {bd : Nat} {Z : x_I} {S : x_S} {P : x_P} {I : x_I} {J : x_J} {n : Nat} (h : c_R fa bd Z S P I J n) : c_Wa Z J := h.2.2.2.2.2.2.1
theorem c_R.Sh {fa : Nat → Nat} {bd : Nat} {Z : x_I} {S : x_S} {P : x_P} {I : x_I} {J : x_J} {n : Nat} (h : c_R fa bd Z S P I J n) : c_Sh Z I := h.2.2.2.2.2.2.2.1
theorem c_R.fau {fa : Nat → Nat} {bd : Nat} {Z : x_I} {S : x_S} {P : x_P} {I : x_I} {J : x_J} {n : Nat} (h : c_R fa bd Z S P I J n) : I 31 3 = Z 39 0 := h.2.2.2.2.2.2.2.2.1
theorem c_R.tra {fa : Nat → Nat} {bd : Nat} {Z : x_I} {S : x_S} {P : x_P} {I : x_I} {J : x_J} {n : Nat} (h : c_R fa bd Z S P I J n) : I 2 0 = Z 39 1 := h.2.2.2.2.2.2.2.2.2
theorem c_R.pb {fa : Nat → Nat} {bd : Nat} {Z : x_I} {S : x_S} {P : x_P} {I : x_I} {J : x_J} {n : Nat} (h : c_R fa bd Z S P I J n) : P 8 8 = some bd := h.2.2.1.2.2.1
theorem c_R.sb {fa : Nat → Nat} {bd : Nat} {Z : x_I} {S : x_S} {P : x_P} {I : x_I} {J : x_J} {n : Nat} (h : c_R fa bd Z S P I J n) : S bd = .inl 1 := h.2.2.1.2.2.2.1
theorem c_R.fb {fa : Nat → Nat} {bd : Nat} {Z : x_I} {S : x_S} {P : x_P} {I : x_I} {J : x_J} {n : Nat} (h : c_R fa bd Z S P I J n) : c_fl I bd (m_nb Z) 10 := h.2.2.1.2.2.2.2
theorem c_R.w {fa : Nat → Nat} {bd : Nat} {Z : x_I} {S : x_S} {P : x_P} {I : x_I} {J : x_J} {n : Nat} (h : c_R fa bd Z S P I J n) {s : Nat} (hs : s < m_ns Z) : c_w fa Z S P I n s := h.2.1.1 s hs
theorem m_I.hn {Z : x_I} (h : m_I Z) : 0 ≤ (Z 39 2).toInt ∧ (Z 39 2).toInt ≤ 10 := h.1
theorem m_I.fo {Z : x_I} (h : m_I Z) : ∀ s, s < m_ns Z → m_fo Z s := h.2.1
theorem m_I.kd {Z : x_I} (h : m_I Z) : g_kd Z := h.2.2.1
theorem m_I.bo {Z : x_I} (h : m_I Z) : m_fo (m_nb Z) 10 := h.2.2.2.1
theorem m_I.co {Z : x_I} (h : m_I Z) : g_co Z := h.2.2.2.2.1
theorem m_I.es {Z : x_I} (h : m_I Z) : g_es Z := h.2.2.2.2.2.1
theorem m_I.pc {Z : x_I} (h : m_I Z) : g_pc Z := h.2.2.2.2.2.2.1
theorem m_I.pz {Z : x_I} (h : m_I Z) : g_pz Z := h.2.2.2.2.2.2.2.1
theorem m_I.hh {Z : x_I} (h : m_I Z) : 0 ≤ (Z 39 24).toInt ∧ (Z 39 24).toInt ≤ 6 := h.2.2.2.2.2.2.2.2.1
theorem m_I.ws {Z : x_I} (h : m_I Z) : g_ws Z := h.2.2.2.2.2.2.2.2.2.1
theorem m_I.pt {Z : x_I} (h : m_I Z) : g_pt Z := h.2.2.2.2.2.2.2.2.2.2.1
theorem m_I.wa {Z : x_I} (h : m_I Z) : g_wa Z := h.2.2.2.2.2.2.2.2.2.2.2.1
theorem m_I.la {Z : x_I} (h : m_I Z) : g_la Z := h.2.2.2.2.2.2.2.2.2.2.2.2
theorem lfw_X2_131 {ci : Nat} (h : c_ok ci) : x_fl RX2 131 ci 1 := by
  rcases h with rfl | rfl | rfl
  · exact lf_X2_131_10
  · exact lf_X2_131_5
  · exact lf_X2_131_0
theorem lfw_X2_134 {ci : Nat} (h : c_ok ci) : x_fl RX2 134 ci 2 := by
  rcases h with rfl | rfl | rfl
  · exact lf_X2_134_10
  · exact lf_X2_134_5
  · exact lf_X2_134_0
theorem lfw_X4_76 {ci : Nat} (h : c_ok ci) : x_fl RX4 76 ci 1 := by
  rcases h with rfl | rfl | rfl
  · exact lf_X4_76_10
  · exact lf_X4_76_5
  · exact lf_X4_76_0
theorem lfw_X6_58 {ci : Nat} (h : c_ok ci) : x_fl RX6 58 ci 0 := by
  rcases h with rfl | rfl | rfl
  · exact lf_X6_58_10
  · exact lf_X6_58_5
  · exact lf_X6_58_0
theorem lfw_X6_61 {ci : Nat} (h : c_ok ci) : x_fl RX6 61 ci 1 := by
  rcases h with rfl | rfl | rfl
  · exact lf_X6_61_10
  · exact lf_X6_61_5
  · exact lf_X6_61_0
theorem lfw_X8_34 {ci : Nat} (h : c_ok ci) : x_fl RX8 34 ci 1 := by
  rcases h with rfl | rfl | rfl
  · exact lf_X8_34_10
  · exact lf_X8_34_5
  · exact lf_X8_34_0
theorem lfw_X8_44 {ci : Nat} (h : c_ok ci) : x_fl RX8 44 ci 2 := by
  rcases h with rfl | rfl | rfl
  · exact lf_X8_44_10
  · exact lf_X8_44_5
  · exact lf_X8_44_0
theorem lfw_X10_9 {ci : Nat} (h : c_ok ci) : x_fl RX10 9 ci 0 := by
  rcases h with rfl | rfl | rfl
  · exact lf_X10_9_10
  · exact lf_X10_9_5
  · exact lf_X10_9_0
theorem lfw_X10_15 {ci : Nat} (h : c_ok ci) : x_fl RX10 15 ci 1 := by
  rcases h with rfl | rfl | rfl
  · exact lf_X10_15_10
  · exact lf_X10_15_5
  · exact lf_X10_15_0
theorem lfw_X10_30 {ci : Nat} (h : c_ok ci) : x_fl RX10 30 ci 2 := by
  rcases h with rfl | rfl | rfl
  · exact lf_X10_30_10
  · exact lf_X10_30_5
  · exact lf_X10_30_0
theorem lfw_X11_82 {ci : Nat} (h : c_ok ci) : x_fl RX11 82 ci 1 := by
  rcases h with rfl | rfl | rfl
  · exact lf_X11_82_10
  · exact lf_X11_82_5
  · exact lf_X11_82_0
theorem lfw_X11_171 {ci : Nat} (h : c_ok ci) : x_fl RX11 171 ci 2 := by
  rcases h with rfl | rfl | rfl
  · exact lf_X11_171_10
  · exact lf_X11_171_5
  · exact lf_X11_171_0
theorem x_ftw0 {ci : Nat} (h : c_ok ci) : x_ft ci 0 = 0 := by rcases h with rfl | rfl | rfl <;> rfl
theorem x_ftw1 {ci : Nat} (h : c_ok ci) : x_ft ci 1 = 2 := by rcases h with rfl | rfl | rfl <;> rfl
theorem x_ftw2 {ci : Nat} (h : c_ok ci) : x_ft ci 2 = 2 := by rcases h with rfl | rfl | rfl <;> rfl
set_option maxRecDepth 100000 in
set_option maxHeartbeats 4000000 in
theorem t_X11_within {K : x_K} {S : x_S} {P : x_P} {I : x_I} {J : x_J} {n : Nat} {v lo hi : Int32} {a b : Int} (ha : lo.toInt = a) (hb : hi.toInt = b) (ht : a ≤ v.toInt ∧ v.toInt ≤ b → K (some (.int (nI 1))) S P I J n) (hf : ¬ (a ≤ v.toInt ∧ v.toInt ≤ b) → K (some (.int (nI 0))) S P I J n) : x_Call f_X11_within [.int v, .int lo, .int hi] K S P I J n := by
  refine x_intro (by decide) 0 (ls := [_, _, _]) rfl (Nat.le_of_ble_eq_true rfl) ?_
  refine v_iload_n d_X11_within_0 rfl ?_
  refine v_iload_n d_X11_within_1 rfl ?_
  refine w_icmp_lt d_X11_within_2 (fun h2 => ?_) (fun h2 => ?_)
  · try simp (disch := omega) only [x_ti, x_tm1] at h2
    refine v_iconst (v := nI 0) d_X11_within_14 x_ic_0 ?_
    refine v_ret (v := some (.int _)) d_X11_within_15 rfl ⟨rfl, _, rfl, rfl⟩ (by decide) (by decide) ?_
    exact hf (by omega)
  · try simp (disch := omega) only [x_ti, x_tm1] at h2
    refine v_iload_n d_X11_within_5 rfl ?_
    refine v_iload_n d_X11_within_6 rfl ?_
    refine w_icmp_gt d_X11_within_7 (fun h7 => ?_) (fun h7 => ?_)
    · try simp (disch := omega) only [x_ti, x_tm1] at h7
      refine v_iconst (v := nI 0) d_X11_within_14 x_ic_0 ?_
      refine v_ret (v := some (.int _)) d_X11_within_15 rfl ⟨rfl, _, rfl, rfl⟩ (by decide) (by decide) ?_
      exact hf (by omega)
    · try simp (disch := omega) only [x_ti, x_tm1] at h7
      refine v_iconst (v := nI 1) d_X11_within_10 x_ic_1 ?_
      refine v_goto d_X11_within_11 ?_
      refine v_ret (v := some (.int _)) d_X11_within_15 rfl ⟨rfl, _, rfl, rfl⟩ (by decide) (by decide) ?_
      exact ht (by omega)

set_option maxRecDepth 100000 in
set_option maxHeartbeats 4000000 in
theorem t_X1_sideFits {K : x_K} {S : x_S} {P : x_P} {I : x_I} {J : x_J} {n : Nat} {f l : Int32} (ht : (1 ≤ l.toInt ∧ l.toInt ≤ 8) ∧ (0 ≤ f.toInt ∧ f.toInt ≤ 40 - l.toInt) → K (some (.int (nI 1))) S P I J n) (hf : ¬ ((1 ≤ l.toInt ∧ l.toInt ≤ 8) ∧ (0 ≤ f.toInt ∧ f.toInt ≤ 40 - l.toInt)) → K (some (.int (nI 0))) S P I J n) : x_Call f_X1_sideFits [.int f, .int l] K S P I J n := by
  refine x_intro (by decide) 0 (ls := [_, _]) rfl (Nat.le_of_ble_eq_true rfl) ?_
  refine v_iload_n d_X1_sideFits_0 rfl ?_
  refine v_iconst (v := nI 1) d_X1_sideFits_1 x_ic_1 ?_
  refine v_bipush (v := nI 8) d_X1_sideFits_2 x_bp_8 ?_
  refine v_cs (as := [_, _, _]) (rest := []) d_X1_sideFits_4 ls_X1_39 rfl ⟨by decide, by decide⟩ rfl (Nat.le_of_ble_eq_true rfl) (by decide) (by decide) ?_
  refine t_X11_within (x_ti (k := 1) (by decide)) (x_ti (k := 8) (by decide)) (fun q1 => ?_) (fun q1 => ?_)
  · refine w_if_eq d_X1_sideFits_7 (fun h7 => absurd h7 (by decide)) (fun _ => ?_)
    refine v_iload_n d_X1_sideFits_10 rfl ?_
    refine v_iconst (v := nI 0) d_X1_sideFits_11 x_ic_0 ?_
    refine v_bipush (v := nI 40) d_X1_sideFits_12 x_bp_40 ?_
    refine v_iload_n d_X1_sideFits_14 rfl ?_
    refine v_isub d_X1_sideFits_15 ?_
    refine v_cs (as := [_, _, _]) (rest := []) d_X1_sideFits_16 ls_X1_39 rfl ⟨by decide, by decide⟩ rfl (Nat.le_of_ble_eq_true rfl) (by decide) (by decide) ?_
    refine t_X11_within (x_ti (k := 0) (by decide)) (x_s40 q1) (fun q2 => ?_) (fun q2 => ?_)
    · refine w_if_eq d_X1_sideFits_19 (fun h19 => absurd h19 (by decide)) (fun _ => ?_)
      refine v_iconst (v := nI 1) d_X1_sideFits_22 x_ic_1 ?_
      refine v_goto d_X1_sideFits_23 ?_
      refine v_ret (v := some (.int _)) d_X1_sideFits_27 rfl ⟨rfl, _, rfl, rfl⟩ (by decide) (by decide) ?_
      exact ht (by omega)
    · refine w_if_eq d_X1_sideFits_19 (fun _ => ?_) (fun h19 => absurd h19 (by decide))
      refine v_iconst (v := nI 0) d_X1_sideFits_26 x_ic_0 ?_
      refine v_ret (v := some (.int _)) d_X1_sideFits_27 rfl ⟨rfl, _, rfl, rfl⟩ (by decide) (by decide) ?_
      exact hf (by omega)
  · refine w_if_eq d_X1_sideFits_7 (fun _ => ?_) (fun h7 => absurd h7 (by decide))
    refine v_iconst (v := nI 0) d_X1_sideFits_26 x_ic_0 ?_
    refine v_ret (v := some (.int _)) d_X1_sideFits_27 rfl ⟨rfl, _, rfl, rfl⟩ (by decide) (by decide) ?_
    exact hf (by omega)

set_option maxRecDepth 100000 in
set_option maxHeartbeats 4000000 in
theorem t_X1_fits {K : x_K} {S : x_S} {P : x_P} {I : x_I} {J : x_J} {n : Nat} {a c u v w h : Int32} (ht : m_isf a.toInt c.toInt u.toInt v.toInt w.toInt h.toInt → K (some (.int (nI 1))) S P I J n) (hf : ¬ (m_isf a.toInt c.toInt u.toInt v.toInt w.toInt h.toInt) → K (some (.int (nI 0))) S P I J n) : x_Call f_X1_fits [.int a, .int c, .int u, .int v, .int w, .int h] K S P I J n := by
  refine x_intro (by decide) 0 (ls := [_, _, _, _, _, _]) rfl (Nat.le_of_ble_eq_true rfl) ?_
  refine v_iload_n d_X1_fits_0 rfl ?_
  refine v_iconst (v := nI 0) d_X1_fits_1 x_ic_0 ?_
  refine v_iconst (v := nI 2) d_X1_fits_2 x_ic_2 ?_
  refine v_cs (as := [_, _, _]) (rest := []) d_X1_fits_3 ls_X1_39 rfl ⟨by decide, by decide⟩ rfl (Nat.le_of_ble_eq_true rfl) (by decide) (by decide) ?_
  refine t_X11_within (x_ti (k := 0) (by decide)) (x_ti (k := 2) (by decide)) (fun q1 => ?_) (fun q1 => ?_)
  · refine w_if_eq d_X1_fits_6 (fun h6 => absurd h6 (by decide)) (fun _ => ?_)
    refine v_iload_n d_X1_fits_9 rfl ?_
    refine v_iconst (v := nI 0) d_X1_fits_10 x_ic_0 ?_
    refine v_bipush (v := nI 40) d_X1_fits_11 x_bp_40 ?_
    refine v_cs (as := [_, _, _]) (rest := []) d_X1_fits_13 ls_X1_39 rfl ⟨by decide, by decide⟩ rfl (Nat.le_of_ble_eq_true rfl) (by decide) (by decide) ?_
    refine t_X11_within (x_ti (k := 0) (by decide)) (x_ti (k := 40) (by decide)) (fun q2 => ?_) (fun q2 => ?_)
    · refine w_if_eq d_X1_fits_16 (fun h16 => absurd h16 (by decide)) (fun _ => ?_)
      refine v_iload_n d_X1_fits_19 rfl ?_
      refine v_iload d_X1_fits_20 rfl ?_
      refine v_cs (as := [_, _]) (rest := []) d_X1_fits_22 ls_X1_43 rfl ⟨by decide, by decide⟩ rfl (Nat.le_of_ble_eq_true rfl) (by decide) (by decide) ?_
      refine t_X1_sideFits (fun q3 => ?_) (fun q3 => ?_)
      · refine w_if_eq d_X1_fits_25 (fun h25 => absurd h25 (by decide)) (fun _ => ?_)
        refine v_iload_n d_X1_fits_28 rfl ?_
        refine v_iload d_X1_fits_29 rfl ?_
        refine v_cs (as := [_, _]) (rest := []) d_X1_fits_31 ls_X1_43 rfl ⟨by decide, by decide⟩ rfl (Nat.le_of_ble_eq_true rfl) (by decide) (by decide) ?_
        refine t_X1_sideFits (fun q4 => ?_) (fun q4 => ?_)
        · refine w_if_eq d_X1_fits_34 (fun h34 => absurd h34 (by decide)) (fun _ => ?_)
          refine v_iconst (v := nI 1) d_X1_fits_37 x_ic_1 ?_
          refine v_goto d_X1_fits_38 ?_
          refine v_ret (v := some (.int _)) d_X1_fits_42 rfl ⟨rfl, _, rfl, rfl⟩ (by decide) (by decide) ?_
          exact ht (by unfold m_isf; omega)
        · refine w_if_eq d_X1_fits_34 (fun _ => ?_) (fun h34 => absurd h34 (by decide))
          refine v_iconst (v := nI 0) d_X1_fits_41 x_ic_0 ?_
          refine v_ret (v := some (.int _)) d_X1_fits_42 rfl ⟨rfl, _, rfl, rfl⟩ (by decide) (by decide) ?_
          exact hf (by unfold m_isf; omega)
      · refine w_if_eq d_X1_fits_25 (fun _ => ?_) (fun h25 => absurd h25 (by decide))
        refine v_iconst (v := nI 0) d_X1_fits_41 x_ic_0 ?_
        refine v_ret (v := some (.int _)) d_X1_fits_42 rfl ⟨rfl, _, rfl, rfl⟩ (by decide) (by decide) ?_
        exact hf (by unfold m_isf; omega)
    · refine w_if_eq d_X1_fits_16 (fun _ => ?_) (fun h16 => absurd h16 (by decide))
      refine v_iconst (v := nI 0) d_X1_fits_41 x_ic_0 ?_
      refine v_ret (v := some (.int _)) d_X1_fits_42 rfl ⟨rfl, _, rfl, rfl⟩ (by decide) (by decide) ?_
      exact hf (by unfold m_isf; omega)
  · refine w_if_eq d_X1_fits_6 (fun _ => ?_) (fun h6 => absurd h6 (by decide))
    refine v_iconst (v := nI 0) d_X1_fits_41 x_ic_0 ?_
    refine v_ret (v := some (.int _)) d_X1_fits_42 rfl ⟨rfl, _, rfl, rfl⟩ (by decide) (by decide) ?_
    exact hf (by unfold m_isf; omega)

set_option maxRecDepth 100000 in
set_option maxHeartbeats 4000000 in
theorem t_X1_has {K : x_K} {S : x_S} {P : x_P} {I : x_I} {J : x_J} {n : Nat} {c : Int32} {a : Nat} {Z : x_I} {s : Nat} (hs : S a = .inl 1) (hf : c_fl I a Z s) (ht : 0 ≤ c.toInt ∧ c.toInt < m_ce Z s → K (some (.int (nI 1))) S P I J n) (hf2 : ¬ (0 ≤ c.toInt ∧ c.toInt < m_ce Z s) → K (some (.int (nI 0))) S P I J n) : x_Call f_X1_has [.ref a, .int c] K S P I J n := by
  refine x_intro (by decide) 0 (ls := [_, _]) rfl (Nat.le_of_ble_eq_true rfl) ?_
  refine v_iload_n d_X1_has_0 rfl ?_
  refine w_if_lt d_X1_has_1 (fun h1 => ?_) (fun h1 => ?_)
  · try simp (disch := omega) only [x_ti, x_tm1] at h1
    refine v_iconst (v := nI 0) d_X1_has_16 x_ic_0 ?_
    refine v_ret (v := some (.int _)) d_X1_has_17 rfl ⟨rfl, _, rfl, rfl⟩ (by decide) (by decide) ?_
    exact hf2 (by unfold m_ce; omega)
  · try simp (disch := omega) only [x_ti, x_tm1] at h1
    refine v_iload_n d_X1_has_4 rfl ?_
    refine v_aload_n d_X1_has_5 rfl ?_
    refine v_gie d_X1_has_6 lf_X1_36_1 rfl (hs) (hf.ce) ?_
    refine w_icmp_ge d_X1_has_9 (fun h9 => ?_) (fun h9 => ?_)
    · try simp (disch := omega) only [x_ti, x_tm1] at h9
      refine v_iconst (v := nI 0) d_X1_has_16 x_ic_0 ?_
      refine v_ret (v := some (.int _)) d_X1_has_17 rfl ⟨rfl, _, rfl, rfl⟩ (by decide) (by decide) ?_
      exact hf2 (by unfold m_ce; omega)
    · try simp (disch := omega) only [x_ti, x_tm1] at h9
      refine v_iconst (v := nI 1) d_X1_has_12 x_ic_1 ?_
      refine v_goto d_X1_has_13 ?_
      refine v_ret (v := some (.int _)) d_X1_has_17 rfl ⟨rfl, _, rfl, rfl⟩ (by decide) (by decide) ?_
      exact ht (by unfold m_ce; omega)

set_option maxRecDepth 100000 in
set_option maxHeartbeats 4000000 in
theorem t_X11_isPlace {K : x_K} {S : x_S} {P : x_P} {I : x_I} {J : x_J} {n : Nat} {x y z : Int32} (ht : g_pl x y z → K (some (.int (nI 1))) S P I J n) (hf : ¬ (g_pl x y z) → K (some (.int (nI 0))) S P I J n) : x_Call f_X11_isPlace [.int x, .int y, .int z] K S P I J n := by
  refine x_intro (by decide) 0 (ls := [_, _, _]) rfl (Nat.le_of_ble_eq_true rfl) ?_
  refine v_iload_n d_X11_isPlace_0 rfl ?_
  refine v_iconst (v := nI 0) d_X11_isPlace_1 x_ic_0 ?_
  refine v_bipush (v := nI 40) d_X11_isPlace_2 x_bp_40 ?_
  refine v_cs (as := [_, _, _]) (rest := []) d_X11_isPlace_4 ls_X11_57 rfl ⟨by decide, by decide⟩ rfl (Nat.le_of_ble_eq_true rfl) (by decide) (by decide) ?_
  refine t_X11_within (x_ti (k := 0) (by decide)) (x_ti (k := 40) (by decide)) (fun q0 => ?_) (fun q0 => ?_)
  · refine w_if_eq d_X11_isPlace_7 (fun h7 => absurd h7 (by decide)) (fun _ => ?_)
    refine v_iload_n d_X11_isPlace_10 rfl ?_
    refine v_iconst (v := nI 0) d_X11_isPlace_11 x_ic_0 ?_
    refine v_bipush (v := nI 40) d_X11_isPlace_12 x_bp_40 ?_
    refine v_cs (as := [_, _, _]) (rest := []) d_X11_isPlace_14 ls_X11_57 rfl ⟨by decide, by decide⟩ rfl (Nat.le_of_ble_eq_true rfl) (by decide) (by decide) ?_
    refine t_X11_within (x_ti (k := 0) (by decide)) (x_ti (k := 40) (by decide)) (fun q1 => ?_) (fun q1 => ?_)
    · refine w_if_eq d_X11_isPlace_17 (fun h17 => absurd h17 (by decide)) (fun _ => ?_)
      refine v_iload_n d_X11_isPlace_20 rfl ?_
      refine v_iconst (v := nI 0) d_X11_isPlace_21 x_ic_0 ?_
      refine v_bipush (v := nI 40) d_X11_isPlace_22 x_bp_40 ?_
      refine v_cs (as := [_, _, _]) (rest := []) d_X11_isPlace_24 ls_X11_57 rfl ⟨by decide, by decide⟩ rfl (Nat.le_of_ble_eq_true rfl) (by decide) (by decide) ?_
      refine t_X11_within (x_ti (k := 0) (by decide)) (x_ti (k := 40) (by decide)) (fun q2 => ?_) (fun q2 => ?_)
      · refine w_if_eq d_X11_isPlace_27 (fun h27 => absurd h27 (by decide)) (fun _ => ?_)
        refine v_iconst (v := nI 1) d_X11_isPlace_30 x_ic_1 ?_
        refine v_goto d_X11_isPlace_31 ?_
        refine v_ret (v := some (.int _)) d_X11_isPlace_35 rfl ⟨rfl, _, rfl, rfl⟩ (by decide) (by decide) ?_
        exact ht (by unfold g_pl; omega)
      · refine w_if_eq d_X11_isPlace_27 (fun _ => ?_) (fun h27 => absurd h27 (by decide))
        refine v_iconst (v := nI 0) d_X11_isPlace_34 x_ic_0 ?_
        refine v_ret (v := some (.int _)) d_X11_isPlace_35 rfl ⟨rfl, _, rfl, rfl⟩ (by decide) (by decide) ?_
        exact hf (by unfold g_pl; omega)
    · refine w_if_eq d_X11_isPlace_17 (fun _ => ?_) (fun h17 => absurd h17 (by decide))
      refine v_iconst (v := nI 0) d_X11_isPlace_34 x_ic_0 ?_
      refine v_ret (v := some (.int _)) d_X11_isPlace_35 rfl ⟨rfl, _, rfl, rfl⟩ (by decide) (by decide) ?_
      exact hf (by unfold g_pl; omega)
  · refine w_if_eq d_X11_isPlace_7 (fun _ => ?_) (fun h7 => absurd h7 (by decide))
    refine v_iconst (v := nI 0) d_X11_isPlace_34 x_ic_0 ?_
    refine v_ret (v := some (.int _)) d_X11_isPlace_35 rfl ⟨rfl, _, rfl, rfl⟩ (by decide) (by decide) ?_
    exact hf (by unfold g_pl; omega)

set_option maxRecDepth 100000 in
set_option maxHeartbeats 4000000 in
theorem t_X11_isColour {K : x_K} {S : x_S} {P : x_P} {I : x_I} {J : x_J} {n : Nat} {v : Int32} (ht : 0 ≤ v.toInt ∧ v.toInt ≤ 9 → K (some (.int (nI 1))) S P I J n) (hf : ¬ (0 ≤ v.toInt ∧ v.toInt ≤ 9) → K (some (.int (nI 0))) S P I J n) : x_Call f_X11_isColour [.int v] K S P I J n := by
  refine x_intro (by decide) 0 (ls := [_]) rfl (Nat.le_of_ble_eq_true rfl) ?_
  refine v_iload_n d_X11_isColour_0 rfl ?_
  refine v_iconst (v := nI 0) d_X11_isColour_1 x_ic_0 ?_
  refine v_bipush (v := nI 9) d_X11_isColour_2 x_bp_9 ?_
  refine v_cs (as := [_, _, _]) (rest := []) d_X11_isColour_4 ls_X11_57 rfl ⟨by decide, by decide⟩ rfl (Nat.le_of_ble_eq_true rfl) (by decide) (by decide) ?_
  refine t_X11_within (x_ti (k := 0) (by decide)) (x_ti (k := 9) (by decide)) (fun q => ?_) (fun q => ?_)
  · refine v_ret (v := some (.int _)) d_X11_isColour_7 rfl ⟨rfl, _, rfl, rfl⟩ (by decide) (by decide) ?_
    exact ht (by omega)
  · refine v_ret (v := some (.int _)) d_X11_isColour_7 rfl ⟨rfl, _, rfl, rfl⟩ (by decide) (by decide) ?_
    exact hf (by omega)

set_option maxRecDepth 100000 in
set_option maxHeartbeats 4000000 in
theorem t_X11_isSetOfEyes {K : x_K} {S : x_S} {P : x_P} {I : x_I} {J : x_J} {n : Nat} {v : Int32} (ht : 0 ≤ v.toInt ∧ v.toInt ≤ 15 → K (some (.int (nI 1))) S P I J n) (hf : ¬ (0 ≤ v.toInt ∧ v.toInt ≤ 15) → K (some (.int (nI 0))) S P I J n) : x_Call f_X11_isSetOfEyes [.int v] K S P I J n := by
  refine x_intro (by decide) 0 (ls := [_]) rfl (Nat.le_of_ble_eq_true rfl) ?_
  refine v_iload_n d_X11_isSetOfEyes_0 rfl ?_
  refine v_iconst (v := nI 0) d_X11_isSetOfEyes_1 x_ic_0 ?_
  refine v_bipush (v := nI 15) d_X11_isSetOfEyes_2 x_bp_15 ?_
  refine v_cs (as := [_, _, _]) (rest := []) d_X11_isSetOfEyes_4 ls_X11_57 rfl ⟨by decide, by decide⟩ rfl (Nat.le_of_ble_eq_true rfl) (by decide) (by decide) ?_
  refine t_X11_within (x_ti (k := 0) (by decide)) (x_ti (k := 15) (by decide)) (fun q => ?_) (fun q => ?_)
  · refine v_ret (v := some (.int _)) d_X11_isSetOfEyes_7 rfl ⟨rfl, _, rfl, rfl⟩ (by decide) (by decide) ?_
    exact ht (by omega)
  · refine v_ret (v := some (.int _)) d_X11_isSetOfEyes_7 rfl ⟨rfl, _, rfl, rfl⟩ (by decide) (by decide) ?_
    exact hf (by omega)

set_option maxRecDepth 100000 in
set_option maxHeartbeats 4000000 in
theorem t_X2_hasEye {K : x_K} {S : x_S} {P : x_P} {I : x_I} {J : x_J} {n : Nat} {v : Int32} (ht : g_ey v → K (some (.int (nI 1))) S P I J n) (hf : ¬ (g_ey v) → K (some (.int (nI 0))) S P I J n) : x_Call f_X2_hasEye [.int v] K S P I J n := by
  refine x_intro (by decide) 0 (ls := [_]) rfl (Nat.le_of_ble_eq_true rfl) ?_
  refine v_iload_n d_X2_hasEye_0 rfl ?_
  refine w_if_lt d_X2_hasEye_1 (fun h1 => ?_) (fun h1 => ?_)
  · try simp (disch := omega) only [x_ti, x_tm1] at h1
    refine v_iconst (v := nI 0) d_X2_hasEye_13 x_ic_0 ?_
    refine v_ret (v := some (.int _)) d_X2_hasEye_14 rfl ⟨rfl, _, rfl, rfl⟩ (by decide) (by decide) ?_
    exact hf (by unfold g_ey; omega)
  · try simp (disch := omega) only [x_ti, x_tm1] at h1
    refine v_iload_n d_X2_hasEye_4 rfl ?_
    refine v_iconst (v := nI 4) d_X2_hasEye_5 x_ic_4 ?_
    refine w_icmp_ge d_X2_hasEye_6 (fun h6 => ?_) (fun h6 => ?_)
    · try simp (disch := omega) only [x_ti, x_tm1] at h6
      refine v_iconst (v := nI 0) d_X2_hasEye_13 x_ic_0 ?_
      refine v_ret (v := some (.int _)) d_X2_hasEye_14 rfl ⟨rfl, _, rfl, rfl⟩ (by decide) (by decide) ?_
      exact hf (by unfold g_ey; omega)
    · try simp (disch := omega) only [x_ti, x_tm1] at h6
      refine v_iconst (v := nI 1) d_X2_hasEye_9 x_ic_1 ?_
      refine v_goto d_X2_hasEye_10 ?_
      refine v_ret (v := some (.int _)) d_X2_hasEye_14 rfl ⟨rfl, _, rfl, rfl⟩ (by decide) (by decide) ?_
      exact ht (by unfold g_ey; omega)

set_option maxRecDepth 100000 in
set_option maxHeartbeats 4000000 in
theorem t_X7_has {K : x_K} {S : x_S} {P : x_P} {I : x_I} {J : x_J} {n : Nat} {v : Int32} (ht : g_ey v → K (some (.int (nI 1))) S P I J n) (hf : ¬ (g_ey v) → K (some (.int (nI 0))) S P I J n) : x_Call f_X7_has [.int v] K S P I J n := by
  refine x_intro (by decide) 0 (ls := [_]) rfl (Nat.le_of_ble_eq_true rfl) ?_
  refine v_iload_n d_X7_has_0 rfl ?_
  refine w_if_lt d_X7_has_1 (fun h1 => ?_) (fun h1 => ?_)
  · try simp (disch := omega) only [x_ti, x_tm1] at h1
    refine v_iconst (v := nI 0) d_X7_has_13 x_ic_0 ?_
    refine v_ret (v := some (.int _)) d_X7_has_14 rfl ⟨rfl, _, rfl, rfl⟩ (by decide) (by decide) ?_
    exact hf (by unfold g_ey; omega)
  · try simp (disch := omega) only [x_ti, x_tm1] at h1
    refine v_iload_n d_X7_has_4 rfl ?_
    refine v_iconst (v := nI 4) d_X7_has_5 x_ic_4 ?_
    refine w_icmp_ge d_X7_has_6 (fun h6 => ?_) (fun h6 => ?_)
    · try simp (disch := omega) only [x_ti, x_tm1] at h6
      refine v_iconst (v := nI 0) d_X7_has_13 x_ic_0 ?_
      refine v_ret (v := some (.int _)) d_X7_has_14 rfl ⟨rfl, _, rfl, rfl⟩ (by decide) (by decide) ?_
      exact hf (by unfold g_ey; omega)
    · try simp (disch := omega) only [x_ti, x_tm1] at h6
      refine v_iconst (v := nI 1) d_X7_has_9 x_ic_1 ?_
      refine v_goto d_X7_has_10 ?_
      refine v_ret (v := some (.int _)) d_X7_has_14 rfl ⟨rfl, _, rfl, rfl⟩ (by decide) (by decide) ?_
      exact ht (by unfold g_ey; omega)

set_option maxRecDepth 100000 in
set_option maxHeartbeats 4000000 in
theorem t_X7_isLane {K : x_K} {S : x_S} {P : x_P} {I : x_I} {J : x_J} {n : Nat} {v : Int32} (ht : 0 ≤ v.toInt ∧ v.toInt ≤ 2 → K (some (.int (nI 1))) S P I J n) (hf : ¬ (0 ≤ v.toInt ∧ v.toInt ≤ 2) → K (some (.int (nI 0))) S P I J n) : x_Call f_X7_isLane [.int v] K S P I J n := by
  refine x_intro (by decide) 0 (ls := [_]) rfl (Nat.le_of_ble_eq_true rfl) ?_
  refine v_iload_n d_X7_isLane_0 rfl ?_
  refine v_iconst (v := nI 0) d_X7_isLane_1 x_ic_0 ?_
  refine v_iconst (v := nI 2) d_X7_isLane_2 x_ic_2 ?_
  refine v_cs (as := [_, _, _]) (rest := []) d_X7_isLane_3 ls_X7_23 rfl ⟨by decide, by decide⟩ rfl (Nat.le_of_ble_eq_true rfl) (by decide) (by decide) ?_
  refine t_X11_within (x_ti (k := 0) (by decide)) (x_ti (k := 2) (by decide)) (fun q => ?_) (fun q => ?_)
  · refine v_ret (v := some (.int _)) d_X7_isLane_6 rfl ⟨rfl, _, rfl, rfl⟩ (by decide) (by decide) ?_
    exact ht (by omega)
  · refine v_ret (v := some (.int _)) d_X7_isLane_6 rfl ⟨rfl, _, rfl, rfl⟩ (by decide) (by decide) ?_
    exact hf (by omega)

set_option maxRecDepth 100000 in
set_option maxHeartbeats 4000000 in
theorem t_X9_leave {K : x_K} {S : x_S} {P : x_P} {I : x_I} {J : x_J} {n : Nat} {x : Int32} (hS : x_hS S) (hP : x_hP P) (hK : K none S P (x_u2 I 2 0 (x_tw (I 2 0) x)) J n) : x_Call f_X9_leave [.ref 2, .int x] K S P I J n := by
  refine x_intro (by decide) 0 (ls := [_, _]) rfl (Nat.le_of_ble_eq_true rfl) ?_
  refine v_aload_n d_X9_leave_0 rfl ?_
  refine v_bipush (v := nI 31) d_X9_leave_1 x_bp_31 ?_
  refine v_aload_n d_X9_leave_3 rfl ?_
  refine v_gi d_X9_leave_4 lf_X9_7_9 rfl (hS _ _ rfl) ?_
  refine v_imul d_X9_leave_7 ?_
  refine v_iload_n d_X9_leave_8 rfl ?_
  refine v_iadd d_X9_leave_9 ?_
  refine v_pi d_X9_leave_10 (lp_X9_7_9 _) rfl (hS _ _ rfl) (rfl) rfl ?_
  refine v_ret (v := none) d_X9_leave_13 rfl ⟨rfl, rfl⟩ (by decide) (by decide) ?_
  exact hK

set_option maxRecDepth 100000 in
set_option maxHeartbeats 4000000 in
theorem t_X10_kind {K : x_K} {S : x_S} {P : x_P} {I : x_I} {J : x_J} {n : Nat} {a : Nat} (hK : K (some (.int (nI 0))) S P I J n) : x_Call f_X10_kind [.ref a] K S P I J n := by
  refine x_intro (by decide) 0 (ls := [_]) rfl (Nat.le_of_ble_eq_true rfl) ?_
  refine v_iconst (v := nI 0) d_X10_kind_0 x_ic_0 ?_
  refine v_ret (v := some (.int _)) d_X10_kind_1 rfl ⟨rfl, _, rfl, rfl⟩ (by decide) (by decide) ?_
  exact hK

set_option maxRecDepth 100000 in
set_option maxHeartbeats 4000000 in
theorem t_X10_takesColours {K : x_K} {S : x_S} {P : x_P} {I : x_I} {J : x_J} {n : Nat} {a : Nat} (hK : K (some (.int (nI 1))) S P I J n) : x_Call f_X10_takesColours [.ref a] K S P I J n := by
  refine x_intro (by decide) 0 (ls := [_]) rfl (Nat.le_of_ble_eq_true rfl) ?_
  refine v_iconst (v := nI 1) d_X10_takesColours_0 x_ic_1 ?_
  refine v_ret (v := some (.int _)) d_X10_takesColours_1 rfl ⟨rfl, _, rfl, rfl⟩ (by decide) (by decide) ?_
  exact hK

set_option maxRecDepth 100000 in
set_option maxHeartbeats 4000000 in
theorem t_X5_kind {K : x_K} {S : x_S} {P : x_P} {I : x_I} {J : x_J} {n : Nat} {a : Nat} (hK : K (some (.int (nI 1))) S P I J n) : x_Call f_X5_kind [.ref a] K S P I J n := by
  refine x_intro (by decide) 0 (ls := [_]) rfl (Nat.le_of_ble_eq_true rfl) ?_
  refine v_iconst (v := nI 1) d_X5_kind_0 x_ic_1 ?_
  refine v_ret (v := some (.int _)) d_X5_kind_1 rfl ⟨rfl, _, rfl, rfl⟩ (by decide) (by decide) ?_
  exact hK

set_option maxRecDepth 100000 in
set_option maxHeartbeats 4000000 in
theorem t_X5_takesColours {K : x_K} {S : x_S} {P : x_P} {I : x_I} {J : x_J} {n : Nat} {a : Nat} (hK : K (some (.int (nI 0))) S P I J n) : x_Call f_X5_takesColours [.ref a] K S P I J n := by
  refine x_intro (by decide) 0 (ls := [_]) rfl (Nat.le_of_ble_eq_true rfl) ?_
  refine v_iconst (v := nI 0) d_X5_takesColours_0 x_ic_0 ?_
  refine v_ret (v := some (.int _)) d_X5_takesColours_1 rfl ⟨rfl, _, rfl, rfl⟩ (by decide) (by decide) ?_
  exact hK

set_option maxRecDepth 100000 in
set_option maxHeartbeats 4000000 in
theorem t_X0_kind {K : x_K} {S : x_S} {P : x_P} {I : x_I} {J : x_J} {n : Nat} {a : Nat} (hK : K (some (.int (nI 2))) S P I J n) : x_Call f_X0_kind [.ref a] K S P I J n := by
  refine x_intro (by decide) 0 (ls := [_]) rfl (Nat.le_of_ble_eq_true rfl) ?_
  refine v_iconst (v := nI 2) d_X0_kind_0 x_ic_2 ?_
  refine v_ret (v := some (.int _)) d_X0_kind_1 rfl ⟨rfl, _, rfl, rfl⟩ (by decide) (by decide) ?_
  exact hK

set_option maxRecDepth 100000 in
set_option maxHeartbeats 4000000 in
theorem t_X0_takesColours {K : x_K} {S : x_S} {P : x_P} {I : x_I} {J : x_J} {n : Nat} {a : Nat} (hK : K (some (.int (nI 1))) S P I J n) : x_Call f_X0_takesColours [.ref a] K S P I J n := by
  refine x_intro (by decide) 0 (ls := [_]) rfl (Nat.le_of_ble_eq_true rfl) ?_
  refine v_iconst (v := nI 1) d_X0_takesColours_0 x_ic_1 ?_
  refine v_ret (v := some (.int _)) d_X0_takesColours_1 rfl ⟨rfl, _, rfl, rfl⟩ (by decide) (by decide) ?_
  exact hK

set_option maxRecDepth 100000 in
set_option maxHeartbeats 4000000 in
theorem t_X10_throwsBack {K : x_K} {S : x_S} {P : x_P} {I : x_I} {J : x_J} {n : Nat} {a : Nat} {c : Int32} (hK : K (some (.int (nI 0))) S P I J n) : x_Call f_X10_throwsBack [.ref a, .int c] K S P I J n := by
  refine x_intro (by decide) 0 (ls := [_, _]) rfl (Nat.le_of_ble_eq_true rfl) ?_
  refine v_iconst (v := nI 0) d_X10_throwsBack_0 x_ic_0 ?_
  refine v_ret (v := some (.int _)) d_X10_throwsBack_1 rfl ⟨rfl, _, rfl, rfl⟩ (by decide) (by decide) ?_
  exact hK

set_option maxRecDepth 100000 in
set_option maxHeartbeats 4000000 in
theorem t_X5_throwsBack {K : x_K} {S : x_S} {P : x_P} {I : x_I} {J : x_J} {n : Nat} {a : Nat} {c : Int32} (hK : K (some (.int (nI 1))) S P I J n) : x_Call f_X5_throwsBack [.ref a, .int c] K S P I J n := by
  refine x_intro (by decide) 0 (ls := [_, _]) rfl (Nat.le_of_ble_eq_true rfl) ?_
  refine v_iconst (v := nI 1) d_X5_throwsBack_0 x_ic_1 ?_
  refine v_ret (v := some (.int _)) d_X5_throwsBack_1 rfl ⟨rfl, _, rfl, rfl⟩ (by decide) (by decide) ?_
  exact hK

set_option maxRecDepth 100000 in
set_option maxHeartbeats 4000000 in
theorem t_X0_throwsBack {K : x_K} {S : x_S} {P : x_P} {I : x_I} {J : x_J} {n : Nat} {fa : Nat → Nat} {Z : x_I} {k : Nat} (hw : c_w fa Z S P I n k) {x : Int32} (j : Nat) (hx : x = nI j) (hj : (j : Int) < m_ce Z k) (hj6 : j < 64) (hs : S (fa k + 1) = .inl 0) (ht : (Z 42 (64 * k + j)).toInt = 0 → K (some (.int (nI 1))) S P I J n) (hf : ¬ ((Z 42 (64 * k + j)).toInt = 0) → K (some (.int (nI 0))) S P I J n) : x_Call f_X0_throwsBack [.ref (fa k + 1), .int x] K S P I J n := by
  subst hx
  refine x_intro (by decide) 0 (ls := [_, _]) rfl (Nat.le_of_ble_eq_true rfl) ?_
  refine v_aload_n d_X0_throwsBack_0 rfl ?_
  refine v_gr d_X0_throwsBack_1 lf_X0_9_0 rfl (hs) (hw.pf) ?_
  refine v_iload_n d_X0_throwsBack_4 rfl ?_
  refine v_cv (as := [_]) (rest := []) d_X0_throwsBack_5 lv_X0_15_1 (hw.sf) rfl ⟨by decide, by decide⟩ rfl (Nat.le_of_ble_eq_true rfl) (by decide) (by decide) ?_
  refine t_X1_has hw.sf hw.fl (fun q => ?_) (fun q => ?_)
  · refine w_if_eq d_X0_throwsBack_8 (fun h8 => absurd h8 (by decide)) (fun _ => ?_)
    refine v_aload_n d_X0_throwsBack_11 rfl ?_
    refine v_gr d_X0_throwsBack_12 lf_X0_21_0 rfl (hs) (hw.pc) ?_
    refine v_iload_n d_X0_throwsBack_15 rfl ?_
    refine v_iald _ d_X0_throwsBack_16 (rfl) (hw.sc) (⟨by omega, by omega⟩) (hw.co j (by omega)) ?_
    refine w_if_ne d_X0_throwsBack_17 (fun h17 => ?_) (fun h17 => ?_)
    · try simp (disch := omega) only [x_ti, x_tm1] at h17
      refine v_iconst (v := nI 0) d_X0_throwsBack_24 x_ic_0 ?_
      refine v_ret (v := some (.int _)) d_X0_throwsBack_25 rfl ⟨rfl, _, rfl, rfl⟩ (by decide) (by decide) ?_
      first | exact hf (by omega) | (exfalso; rw [x_ti (by omega)] at q; omega)
    · try simp (disch := omega) only [x_ti, x_tm1] at h17
      refine v_iconst (v := nI 1) d_X0_throwsBack_20 x_ic_1 ?_
      refine v_goto d_X0_throwsBack_21 ?_
      refine v_ret (v := some (.int _)) d_X0_throwsBack_25 rfl ⟨rfl, _, rfl, rfl⟩ (by decide) (by decide) ?_
      exact ht (by omega)
  · refine w_if_eq d_X0_throwsBack_8 (fun _ => ?_) (fun h8 => absurd h8 (by decide))
    refine v_iconst (v := nI 0) d_X0_throwsBack_24 x_ic_0 ?_
    refine v_ret (v := some (.int _)) d_X0_throwsBack_25 rfl ⟨rfl, _, rfl, rfl⟩ (by decide) (by decide) ?_
    first | exact hf (by omega) | (exfalso; rw [x_ti (by omega)] at q; omega)

set_option maxRecDepth 100000 in
set_option maxHeartbeats 4000000 in
theorem t_X10_toldAsWall {K : x_K} {S : x_S} {P : x_P} {I : x_I} {J : x_J} {n : Nat} {fa : Nat → Nat} {Z : x_I} {k : Nat} (hw : c_w fa Z S P I n k) (hS : x_hS S) (hP : x_hP P) (hK : K (some (.int (Z 41 (6 * k + 4) * Z 41 (6 * k + 5)))) S P (x_u2 I 2 0 (x_tw (I 2 0) (nI 1))) J n) : x_Call f_X10_toldAsWall [.ref (fa k + 1), .ref 2] K S P I J n := by
  refine x_intro (by decide) 0 (ls := [_, _]) rfl (Nat.le_of_ble_eq_true rfl) ?_
  refine v_aload_n d_X10_toldAsWall_0 rfl ?_
  refine v_iconst (v := nI 1) d_X10_toldAsWall_1 x_ic_1 ?_
  refine v_cv (as := [_]) (rest := []) d_X10_toldAsWall_2 lv_X10_38_9 (hS _ _ rfl) rfl ⟨by decide, by decide⟩ rfl (Nat.le_of_ble_eq_true rfl) (by decide) (by decide) ?_
  refine t_X9_leave hS hP ?_
  have ha := hw.ad
  refine v_aload_n d_X10_toldAsWall_5 rfl ?_
  refine v_gr d_X10_toldAsWall_6 (lfw_X10_15 (c_kc_ok _)) (x_ftw1 (c_kc_ok _)) (hw.sw) (hw.pf) ?_
  refine v_gie d_X10_toldAsWall_9 lf_X10_19_1 rfl (hw.sf) ((x_u2_na I 0 (x_tw (I 2 0) (nI 1)) 8 (show fa k ≠ 2 by omega)).trans hw.fl.ce) ?_
  refine v_ret (v := some (.int _)) d_X10_toldAsWall_12 rfl ⟨rfl, _, rfl, rfl⟩ (by decide) (by decide) ?_
  exact hK

set_option maxRecDepth 100000 in
set_option maxHeartbeats 4000000 in
theorem t_X10_named {K : x_K} {S : x_S} {P : x_P} {I : x_I} {J : x_J} {n : Nat} {fa : Nat → Nat} {Z : x_I} {k : Nat} (hw : c_w fa Z S P I n k) (hS : x_hS S) (hP : x_hP P) (hK : K (some (.int (nI k))) S P (x_u2 I 2 0 (x_tw (I 2 0) (nI 4))) J n) : x_Call f_X10_named [.ref (fa k + 1), .ref 2] K S P I J n := by
  refine x_intro (by decide) 0 (ls := [_, _]) rfl (Nat.le_of_ble_eq_true rfl) ?_
  refine v_aload_n d_X10_named_0 rfl ?_
  refine v_iconst (v := nI 4) d_X10_named_1 x_ic_4 ?_
  refine v_cv (as := [_]) (rest := []) d_X10_named_2 lv_X10_38_9 (hS _ _ rfl) rfl ⟨by decide, by decide⟩ rfl (Nat.le_of_ble_eq_true rfl) (by decide) (by decide) ?_
  refine t_X9_leave hS hP ?_
  have ha := hw.ad
  refine v_aload_n d_X10_named_5 rfl ?_
  refine v_gie d_X10_named_6 (lfw_X10_9 (c_kc_ok _)) (x_ftw0 (c_kc_ok _)) (hw.sw) ((x_u2_na I 0 (x_tw (I 2 0) (nI 4)) 0 (show fa k + 1 ≠ 2 by omega)).trans hw.nu) ?_
  refine v_ret (v := some (.int _)) d_X10_named_9 rfl ⟨rfl, _, rfl, rfl⟩ (by decide) (by decide) ?_
  exact hK

set_option maxRecDepth 100000 in
set_option maxHeartbeats 4000000 in
theorem t_X0_named {K : x_K} {S : x_S} {P : x_P} {I : x_I} {J : x_J} {n : Nat} {a : Nat} (hS : x_hS S) (hP : x_hP P) (hK : K (some (.int (nI 60))) S P (x_u2 I 2 0 (x_tw (I 2 0) (nI 5))) J n) : x_Call f_X0_named [.ref a, .ref 2] K S P I J n := by
  refine x_intro (by decide) 0 (ls := [_, _]) rfl (Nat.le_of_ble_eq_true rfl) ?_
  refine v_aload_n d_X0_named_0 rfl ?_
  refine v_iconst (v := nI 5) d_X0_named_1 x_ic_5 ?_
  refine v_cv (as := [_]) (rest := []) d_X0_named_2 lv_X0_25_9 (hS _ _ rfl) rfl ⟨by decide, by decide⟩ rfl (Nat.le_of_ble_eq_true rfl) (by decide) (by decide) ?_
  refine t_X9_leave hS hP ?_
  refine v_bipush (v := nI 60) d_X0_named_5 x_bp_60 ?_
  refine v_ret (v := some (.int _)) d_X0_named_7 rfl ⟨rfl, _, rfl, rfl⟩ (by decide) (by decide) ?_
  exact hK

theorem c_w.u2 {fa : Nat → Nat} {Z : x_I} {S : x_S} {P : x_P} {I : x_I} {n k : Nat} {v : Int32} (h : c_w fa Z S P I n k) : c_w fa Z S P (x_u2 I 2 0 v) n k := h.cg (fun a k ha => x_u2_na I 0 v k (show a ≠ 2 by omega)) p_ex.rf
set_option maxRecDepth 100000 in
set_option maxHeartbeats 4000000 in
theorem t_X10_told {K : x_K} {S : x_S} {P : x_P} {I : x_I} {J : x_J} {n : Nat} {fa : Nat → Nat} {Z : x_I} {k : Nat} (hw : c_w fa Z S P I n k) (hS : x_hS S) (hP : x_hP P) {ci : Nat} (hs : S (fa k + 1) = .inl ci) (hok : c_ok ci) (hK : K (some (.int (Z 41 (6 * k + 4) * Z 41 (6 * k + 5)))) S P (x_u2 I 2 0 (x_tw (I 2 0) (nI 1))) J n) : x_Call f_X10_told [.ref (fa k + 1), .ref 2] K S P I J n := by
  refine x_intro (by decide) 0 (ls := [_, _]) rfl (Nat.le_of_ble_eq_true rfl) ?_
  refine v_aload_n d_X10_told_0 rfl ?_
  refine v_aload_n d_X10_told_1 rfl ?_
  have fin : x_Call f_X10_toldAsWall [.ref (fa k + 1), .ref 2] (fun v S P I J n => x_V f_X10_told K 5 [some (.ref (fa k + 1)), some (.ref 2)] (v.toList ++ []) S P I J n (0 + f_X10_toldAsWall.2.2.2.2.cells) (0 + f_X10_toldAsWall.2.2.2.2.slots)) S P I J n := by
    refine t_X10_toldAsWall hw hS hP ?_
    refine v_ret (v := some (.int _)) d_X10_told_5 rfl ⟨rfl, _, rfl, rfl⟩ (by decide) (by decide) ?_
    exact hK
  rcases hok with rfl | rfl | rfl
  · exact v_cv (as := [_]) (rest := []) d_X10_told_2 lv_X10_34_10 hs rfl ⟨by decide, by decide⟩ rfl (Nat.le_of_ble_eq_true rfl) (by decide) (by decide) fin
  · exact v_cu (as := [_]) (rest := []) d_X10_told_2 lu_X10_34_5 hs rfl ⟨by decide, by decide⟩ rfl (Nat.le_of_ble_eq_true rfl) (by decide) (by decide) fin
  · exact v_cu (as := [_]) (rest := []) d_X10_told_2 lu_X10_34_0 hs rfl ⟨by decide, by decide⟩ rfl (Nat.le_of_ble_eq_true rfl) (by decide) (by decide) fin

set_option maxRecDepth 100000 in
set_option maxHeartbeats 4000000 in
theorem t_X5_told_5 {K : x_K} {S : x_S} {P : x_P} {I : x_I} {J : x_J} {n : Nat} {fa : Nat → Nat} {Z : x_I} {k : Nat} (hw : c_w fa Z S P I n k) (hS : x_hS S) (hP : x_hP P) (hs : S (fa k + 1) = .inl 5) (hK : K (some (.int (Z 41 (6 * k + 4) * Z 41 (6 * k + 5) + Z 41 (6 * k)))) S P (x_u2 (x_u2 I 2 0 (x_tw (I 2 0) (nI 2))) 2 0 (x_tw (x_tw (I 2 0) (nI 2)) (nI 1))) J n) : x_Call f_X5_told [.ref (fa k + 1), .ref 2] K S P I J n := by
  refine x_intro (by decide) 0 (ls := [_, _]) rfl (Nat.le_of_ble_eq_true rfl) ?_
  refine v_aload_n d_X5_told_0 rfl ?_
  refine v_iconst (v := nI 2) d_X5_told_1 x_ic_2 ?_
  refine v_cv (as := [_]) (rest := []) d_X5_told_2 lv_X5_9_9 (hS _ _ rfl) rfl ⟨by decide, by decide⟩ rfl (Nat.le_of_ble_eq_true rfl) (by decide) (by decide) ?_
  refine t_X9_leave hS hP ?_
  have ha := hw.ad
  refine v_aload_n d_X5_told_5 rfl ?_
  refine v_aload_n d_X5_told_6 rfl ?_
  refine v_csu (as := [_]) (rest := []) d_X5_told_7 lsu_X5_15 (hs) rfl rfl ⟨by decide, by decide⟩ rfl (Nat.le_of_ble_eq_true rfl) (by decide) (by decide) ?_
  refine t_X10_told hw.u2 hS hP hs (Or.inr (Or.inl rfl)) ?_
  refine v_aload_n d_X5_told_10 rfl ?_
  refine v_gr d_X5_told_11 lf_X5_19_5 rfl (hs) (hw.pf) ?_
  refine v_gie d_X5_told_14 lf_X5_25_1 rfl (hw.sf) (hw.u2.u2.fl.ax) ?_
  refine v_iadd d_X5_told_17 ?_
  refine v_ret (v := some (.int _)) d_X5_told_18 rfl ⟨rfl, _, rfl, rfl⟩ (by decide) (by decide) ?_
  exact hK

set_option maxRecDepth 100000 in
set_option maxHeartbeats 4000000 in
theorem t_X5_told_0 {K : x_K} {S : x_S} {P : x_P} {I : x_I} {J : x_J} {n : Nat} {fa : Nat → Nat} {Z : x_I} {k : Nat} (hw : c_w fa Z S P I n k) (hS : x_hS S) (hP : x_hP P) (hs : S (fa k + 1) = .inl 0) (hK : K (some (.int (Z 41 (6 * k + 4) * Z 41 (6 * k + 5) + Z 41 (6 * k)))) S P (x_u2 (x_u2 I 2 0 (x_tw (I 2 0) (nI 2))) 2 0 (x_tw (x_tw (I 2 0) (nI 2)) (nI 1))) J n) : x_Call f_X5_told [.ref (fa k + 1), .ref 2] K S P I J n := by
  refine x_intro (by decide) 0 (ls := [_, _]) rfl (Nat.le_of_ble_eq_true rfl) ?_
  refine v_aload_n d_X5_told_0 rfl ?_
  refine v_iconst (v := nI 2) d_X5_told_1 x_ic_2 ?_
  refine v_cv (as := [_]) (rest := []) d_X5_told_2 lv_X5_9_9 (hS _ _ rfl) rfl ⟨by decide, by decide⟩ rfl (Nat.le_of_ble_eq_true rfl) (by decide) (by decide) ?_
  refine t_X9_leave hS hP ?_
  have ha := hw.ad
  refine v_aload_n d_X5_told_5 rfl ?_
  refine v_aload_n d_X5_told_6 rfl ?_
  refine v_csu (as := [_]) (rest := []) d_X5_told_7 lsu_X5_15 (hs) rfl rfl ⟨by decide, by decide⟩ rfl (Nat.le_of_ble_eq_true rfl) (by decide) (by decide) ?_
  refine t_X10_told hw.u2 hS hP hs (Or.inr (Or.inr rfl)) ?_
  refine v_aload_n d_X5_told_10 rfl ?_
  refine v_gr d_X5_told_11 lf_X5_19_0 rfl (hs) (hw.pf) ?_
  refine v_gie d_X5_told_14 lf_X5_25_1 rfl (hw.sf) (hw.u2.u2.fl.ax) ?_
  refine v_iadd d_X5_told_17 ?_
  refine v_ret (v := some (.int _)) d_X5_told_18 rfl ⟨rfl, _, rfl, rfl⟩ (by decide) (by decide) ?_
  exact hK

set_option maxRecDepth 100000 in
set_option maxHeartbeats 4000000 in
theorem t_X0_told {K : x_K} {S : x_S} {P : x_P} {I : x_I} {J : x_J} {n : Nat} {fa : Nat → Nat} {Z : x_I} {k : Nat} (hw : c_w fa Z S P I n k) (hS : x_hS S) (hP : x_hP P) (hs : S (fa k + 1) = .inl 0) (hK : ∀ I2 : x_I, (∀ a j, ¬ (a = 2 ∧ j = 0) → I2 a j = I a j) → I2 2 0 = x_tw (x_tw (x_tw (x_tw (I 2 0) (nI 3)) (nI 2)) (nI 1)) (nI 1) → K (some (.int (Z 41 (6 * k + 4) * Z 41 (6 * k + 5) + Z 41 (6 * k) + Z 41 (6 * k + 4) * Z 41 (6 * k + 5)))) S P I2 J n) : x_Call f_X0_told [.ref (fa k + 1), .ref 2] K S P I J n := by
  refine x_intro (by decide) 0 (ls := [_, _]) rfl (Nat.le_of_ble_eq_true rfl) ?_
  refine v_aload_n d_X0_told_0 rfl ?_
  refine v_iconst (v := nI 3) d_X0_told_1 x_ic_3 ?_
  refine v_cv (as := [_]) (rest := []) d_X0_told_2 lv_X0_25_9 (hS _ _ rfl) rfl ⟨by decide, by decide⟩ rfl (Nat.le_of_ble_eq_true rfl) (by decide) (by decide) ?_
  refine t_X9_leave hS hP ?_
  refine v_aload_n d_X0_told_5 rfl ?_
  refine v_aload_n d_X0_told_6 rfl ?_
  refine v_csu (as := [_]) (rest := []) d_X0_told_7 lsu_X0_31 (hs) rfl rfl ⟨by decide, by decide⟩ rfl (Nat.le_of_ble_eq_true rfl) (by decide) (by decide) ?_
  refine t_X5_told_0 hw.u2 hS hP hs ?_
  refine v_aload_n d_X0_told_10 rfl ?_
  refine v_aload_n d_X0_told_11 rfl ?_
  refine v_cu (as := [_]) (rest := [_]) d_X0_told_12 lu_X0_35_0 (hs) rfl ⟨by decide, by decide⟩ rfl (Nat.le_of_ble_eq_true rfl) (by decide) (by decide) ?_
  refine t_X10_toldAsWall hw.u2.u2.u2 hS hP ?_
  refine v_iadd d_X0_told_15 ?_
  refine v_ret (v := some (.int _)) d_X0_told_16 rfl ⟨rfl, _, rfl, rfl⟩ (by decide) (by decide) ?_
  refine hK _ (fun a j h => ?_) (by simp only [x_u2_s])
  simp only [x_u2_at, if_neg h]

theorem v_max {F : x_F} {K : x_K} {pc pc' : Nat} {ls : List (Option Value)} {st : List Value} {S : x_S} {P : x_P} {I : x_I} {J : x_J} {n cs sl idx : Nat} {x y : Int32} (hd : x_d F.1 3 pc (.invokestatic idx) pc') (hlk : Cond.methodLink F.2.2.1.cls idx Lib.Math.max.name ∈ lw_tbl) (hst : Cond.static Lib.Math.max.name ∈ lw_tbl) (hini : Cond.initialized "java/lang/Math" ∈ lw_tbl) (hcd : Cond.code Lib.Math.max.name Lib.Math.max.code 2 (some .int) ∈ lw_tbl) (hf : 1 ≤ F.2.2.2.2.frames) (hlo : (st.map fun v => v.category).sum + 13 ≤ F.2.2.2.2.locals) (hc : cs ≤ F.2.2.2.2.cells) (hsl : sl ≤ F.2.2.2.2.slots) (kk : x_V F K pc' ls (.int (if x < y then y else x) :: st) S P I J n cs sl) : x_V F K pc ls (.int y :: .int x :: st) S P I J n cs sl := by
  intro D b base L xs p l e s m args below meth c H locs Q lr C hH hS h0 hI hL hR
  obtain ⟨hd1, rfl⟩ := hd
  have hts : ∀ w ∈ lw_tbl, w.before args s = true := fun w hw => C.2.2.2.2.2.2.2.1.1 w hw args
  refine va_mmax C.1 C.2.1 (by rw [C.2.2.1]; exact hL.1.symm) C.2.2.2.1 (hts _ hlk) (hts _ hst) (hts _ hini) (hts _ hcd) hf (by rw [x_cat]; exact hlo) hc hsl hd1 (kk D b base L xs p l e s m args below meth c H locs Q lr C hH hS h0 hI hL hR)
theorem lm_st : Cond.static Lib.Math.max.name ∈ lw_tbl := List.mem_of_getElem? (i := 393) (by decide +kernel)
theorem lm_in : Cond.initialized "java/lang/Math" ∈ lw_tbl := List.mem_of_getElem? (i := 57) (by decide +kernel)
theorem lm_cd : Cond.code Lib.Math.max.name Lib.Math.max.code 2 (some .int) ∈ lw_tbl := List.mem_of_getElem? (i := 394) (by decide +kernel)
theorem lm_X10_24 : Cond.methodLink RX10 24 Lib.Math.max.name ∈ lw_tbl := List.mem_of_getElem? (i := 392) (by decide +kernel)
theorem lm_X3_51 : Cond.methodLink RX3 51 Lib.Math.max.name ∈ lw_tbl := List.mem_of_getElem? (i := 832) (by decide +kernel)

set_option maxRecDepth 100000 in
set_option maxHeartbeats 4000000 in
theorem l_fill {K : x_K} {S : x_S} {P : x_P} {I : x_I} {J : x_J} {n : Nat} {v : Int32} (a N : Nat) (hs : S a = .inr (0, N)) (hN : N < 2147483648) (hK : K none S P (x_fi I a 0 N v) J n) : ∀ d k : Nat, k + d = N → x_V f_J7_fill_53178 K 5 [some (.ref a), some (.int v), some (.int (nI k)), some (.int (nI N))] [] S P (x_fi I a 0 k v) J n 0 0 := by
  intro d
  induction d with
  | zero =>
    intro k hd
    have e : k = N := by omega
    subst e
    refine v_iload_n d_J7_fill_53178_5 rfl ?_
    refine v_iload_n d_J7_fill_53178_6 rfl ?_
    refine w_icmp_ge d_J7_fill_53178_7 (fun h7 => ?_) (fun h7 => False.elim (by (try simp (disch := omega) only [x_ti, x_tm1] at h7); omega))
    refine v_ret (v := none) d_J7_fill_53178_20 rfl ⟨rfl, rfl⟩ (by decide) (by decide) ?_
    exact hK
  | succ d ih =>
    intro k hd
    refine v_iload_n d_J7_fill_53178_5 rfl ?_
    refine v_iload_n d_J7_fill_53178_6 rfl ?_
    refine w_icmp_ge d_J7_fill_53178_7 (fun h7 => False.elim (by (try simp (disch := omega) only [x_ti, x_tm1] at h7); omega)) (fun h7 => ?_)
    refine v_aload_n d_J7_fill_53178_10 rfl ?_
    refine v_iload_n d_J7_fill_53178_11 rfl ?_
    refine v_iload_n d_J7_fill_53178_12 rfl ?_
    refine v_iast _ d_J7_fill_53178_13 (rfl) (hs) (⟨by omega, by omega⟩) ?_
    first | refine v_iinc (ls' := [_, _, _, _]) d_J7_fill_53178_14 rfl (x_inc_1 _) (by decide) rfl ?_ | refine v_iinc (ls' := [_, _, _, _]) d_J7_fill_53178_14 rfl rfl (by decide) rfl ?_
    refine v_goto d_J7_fill_53178_17 ?_
    rw [x_fi_s0]
    exact ih (k + 1) (by omega)

set_option maxRecDepth 100000 in
set_option maxHeartbeats 4000000 in
theorem t_fill {K : x_K} {S : x_S} {P : x_P} {I : x_I} {J : x_J} {n : Nat} {v : Int32} {a : Nat} (N : Nat) (hs : S a = .inr (0, N)) (hN : N < 2147483648) (hK : K none S P (x_fi I a 0 N v) J n) : x_Call f_J7_fill_53178 [.ref a, .int v] K S P I J n := by
  refine x_intro (by decide) 2 (ls := [_, _, _, _]) rfl (Nat.le_of_ble_eq_true rfl) ?_
  refine v_iconst (v := nI 0) d_J7_fill_53178_0 x_ic_0 ?_
  refine v_istore_n (ls' := [_, _, _, _]) d_J7_fill_53178_1 (by decide) rfl ?_
  refine v_aload_n d_J7_fill_53178_2 rfl ?_
  refine v_alen d_J7_fill_53178_3 (hs) (by decide) ?_
  refine v_istore_n (ls' := [_, _, _, _]) d_J7_fill_53178_4 (by decide) rfl ?_
  have hl := l_fill (I := I) a N hs hN hK N 0 (by omega)
  rw [x_fi_0] at hl
  exact hl

set_option maxRecDepth 100000 in
set_option maxHeartbeats 4000000 in
theorem l_fillL {K : x_K} {S : x_S} {P : x_P} {I : x_I} {J : x_J} {n : Nat} {v : Int64} (a N : Nat) (hs : S a = .inr (1, N)) (hN : N < 2147483648) (hK : K none S P I (x_fi J a 0 N v) n) : ∀ d k : Nat, k + d = N → x_V f_J7_fill_d0a16 K 6 [some (.ref a), some (.long v), none, some (.int (nI k)), some (.int (nI N))] [] S P I (x_fi J a 0 k v) n 0 0 := by
  intro d
  induction d with
  | zero =>
    intro k hd
    have e : k = N := by omega
    subst e
    refine v_iload_n d_J7_fill_d0a16_6 rfl ?_
    refine v_iload d_J7_fill_d0a16_7 rfl ?_
    refine w_icmp_ge d_J7_fill_d0a16_9 (fun h9 => ?_) (fun h9 => False.elim (by (try simp (disch := omega) only [x_ti, x_tm1] at h9); omega))
    refine v_ret (v := none) d_J7_fill_d0a16_22 rfl ⟨rfl, rfl⟩ (by decide) (by decide) ?_
    exact hK
  | succ d ih =>
    intro k hd
    refine v_iload_n d_J7_fill_d0a16_6 rfl ?_
    refine v_iload d_J7_fill_d0a16_7 rfl ?_
    refine w_icmp_ge d_J7_fill_d0a16_9 (fun h9 => False.elim (by (try simp (disch := omega) only [x_ti, x_tm1] at h9); omega)) (fun h9 => ?_)
    refine v_aload_n d_J7_fill_d0a16_12 rfl ?_
    refine v_iload_n d_J7_fill_d0a16_13 rfl ?_
    refine v_lload_n d_J7_fill_d0a16_14 rfl ?_
    refine v_last _ d_J7_fill_d0a16_15 (rfl) (hs) (⟨by omega, by omega⟩) ?_
    first | refine v_iinc (ls' := [_, _, _, _, _]) d_J7_fill_d0a16_16 rfl (x_inc_1 _) (by decide) rfl ?_ | refine v_iinc (ls' := [_, _, _, _, _]) d_J7_fill_d0a16_16 rfl rfl (by decide) rfl ?_
    refine v_goto d_J7_fill_d0a16_19 ?_
    rw [x_fi_s0]
    exact ih (k + 1) (by omega)

set_option maxRecDepth 100000 in
set_option maxHeartbeats 4000000 in
theorem t_fillL {K : x_K} {S : x_S} {P : x_P} {I : x_I} {J : x_J} {n : Nat} {v : Int64} {a : Nat} (N : Nat) (hs : S a = .inr (1, N)) (hN : N < 2147483648) (hK : K none S P I (x_fi J a 0 N v) n) : x_Call f_J7_fill_d0a16 [.ref a, .long v] K S P I J n := by
  refine x_intro (by decide) 2 (ls := [_, _, _, _, _]) rfl (Nat.le_of_ble_eq_true rfl) ?_
  refine v_iconst (v := nI 0) d_J7_fill_d0a16_0 x_ic_0 ?_
  refine v_istore_n (ls' := [_, _, _, _, _]) d_J7_fill_d0a16_1 (by decide) rfl ?_
  refine v_aload_n d_J7_fill_d0a16_2 rfl ?_
  refine v_alen d_J7_fill_d0a16_3 (hs) (by decide) ?_
  refine v_istore (ls' := [_, _, _, _, _]) d_J7_fill_d0a16_4 (by decide) rfl ?_
  have hl := l_fillL (J := J) a N hs hN hK N 0 (by omega)
  rw [x_fi_0] at hl
  exact hl

set_option maxRecDepth 100000 in
set_option maxHeartbeats 4000000 in
theorem t_rangeCheck {K : x_K} {S : x_S} {P : x_P} {I : x_I} {J : x_J} {n : Nat} {m x y : Int32} (h1 : x.toInt ≤ y.toInt) (h2 : 0 ≤ x.toInt) (h3 : y.toInt ≤ m.toInt) (hK : K none S P I J n) : x_Call f_J7_rangeCheck_23922 [.int m, .int x, .int y] K S P I J n := by
  refine x_intro (by decide) 0 (ls := [_, _, _]) rfl (Nat.le_of_ble_eq_true rfl) ?_
  refine v_iload_n d_J7_rangeCheck_23922_0 rfl ?_
  refine v_iload_n d_J7_rangeCheck_23922_1 rfl ?_
  refine w_icmp_le d_J7_rangeCheck_23922_2 (fun h2 => ?_) (fun h2 => False.elim (by (try simp (disch := omega) only [x_ti, x_tm1] at h2); omega))
  refine v_iload_n d_J7_rangeCheck_23922_46 rfl ?_
  refine w_if_ge d_J7_rangeCheck_23922_47 (fun h47 => ?_) (fun h47 => False.elim (by (try simp (disch := omega) only [x_ti, x_tm1] at h47); omega))
  refine v_iload_n d_J7_rangeCheck_23922_59 rfl ?_
  refine v_iload_n d_J7_rangeCheck_23922_60 rfl ?_
  refine w_icmp_le d_J7_rangeCheck_23922_61 (fun h61 => ?_) (fun h61 => False.elim (by (try simp (disch := omega) only [x_ti, x_tm1] at h61); omega))
  refine v_ret (v := none) d_J7_rangeCheck_23922_73 rfl ⟨rfl, rfl⟩ (by decide) (by decide) ?_
  exact hK

set_option maxRecDepth 100000 in
set_option maxHeartbeats 4000000 in
theorem l_fillR {K : x_K} {S : x_S} {P : x_P} {I : x_I} {J : x_J} {n : Nat} {v : Int64} (a N lo hi : Nat) (hs : S a = .inr (1, N)) (hlo : lo ≤ hi) (hhi : hi ≤ N) (hN : N < 2147483648) (hK : K none S P I (x_fi J a lo (hi - lo) v) n) : ∀ d k : Nat, k + d = hi - lo → x_V f_J7_fill_bad5a K 10 [some (.ref a), some (.int (nI lo)), some (.int (nI hi)), some (.long v), none, some (.int (nI (lo + k)))] [] S P I (x_fi J a lo k v) n 0 0 := by
  intro d
  induction d with
  | zero =>
    intro k hd
    have e : k = hi - lo := by omega
    subst e
    refine v_iload d_J7_fill_bad5a_10 rfl ?_
    refine v_iload_n d_J7_fill_bad5a_12 rfl ?_
    refine w_icmp_ge d_J7_fill_bad5a_13 (fun h13 => ?_) (fun h13 => False.elim (by (try simp (disch := omega) only [x_ti, x_tm1] at h13); omega))
    refine v_ret (v := none) d_J7_fill_bad5a_27 rfl ⟨rfl, rfl⟩ (by decide) (by decide) ?_
    exact hK
  | succ d ih =>
    intro k hd
    refine v_iload d_J7_fill_bad5a_10 rfl ?_
    refine v_iload_n d_J7_fill_bad5a_12 rfl ?_
    refine w_icmp_ge d_J7_fill_bad5a_13 (fun h13 => False.elim (by (try simp (disch := omega) only [x_ti, x_tm1] at h13); omega)) (fun h13 => ?_)
    refine v_aload_n d_J7_fill_bad5a_16 rfl ?_
    refine v_iload d_J7_fill_bad5a_17 rfl ?_
    refine v_lload_n d_J7_fill_bad5a_19 rfl ?_
    refine v_last _ d_J7_fill_bad5a_20 (rfl) (hs) (⟨by omega, by omega⟩) ?_
    first | refine v_iinc (ls' := [_, _, _, _, _, _]) d_J7_fill_bad5a_21 rfl (x_inc_1 _) (by decide) rfl ?_ | refine v_iinc (ls' := [_, _, _, _, _, _]) d_J7_fill_bad5a_21 rfl rfl (by decide) rfl ?_
    refine v_goto d_J7_fill_bad5a_24 ?_
    rw [x_fi_s]
    exact ih (k + 1) (by omega)

set_option maxRecDepth 100000 in
set_option maxHeartbeats 4000000 in
theorem t_fillR {K : x_K} {S : x_S} {P : x_P} {I : x_I} {J : x_J} {n : Nat} {x y : Int32} {v : Int64} {a : Nat} (N lo hi : Nat) (hx : x = nI lo) (hy : y = nI hi) (hs : S a = .inr (1, N)) (hlo : lo ≤ hi) (hhi : hi ≤ N) (hN : N < 2147483648) (hK : K none S P I (x_fi J a lo (hi - lo) v) n) : x_Call f_J7_fill_bad5a [.ref a, .int x, .int y, .long v] K S P I J n := by
  subst hx hy
  refine x_intro (by decide) 1 (ls := [_, _, _, _, _, _]) rfl (Nat.le_of_ble_eq_true rfl) ?_
  refine v_aload_n d_J7_fill_bad5a_0 rfl ?_
  refine v_alen d_J7_fill_bad5a_1 (hs) (by decide) ?_
  refine v_iload_n d_J7_fill_bad5a_2 rfl ?_
  refine v_iload_n d_J7_fill_bad5a_3 rfl ?_
  refine v_cs (as := [_, _, _]) (rest := []) d_J7_fill_bad5a_4 ls_J7_13 rfl ⟨by decide, by decide⟩ rfl (Nat.le_of_ble_eq_true rfl) (by decide) (by decide) ?_
  refine t_rangeCheck (by rw [x_ti (by omega), x_ti (by omega)]; omega) (by rw [x_ti (by omega)]; omega) (by rw [x_ti (by omega), x_ti (by omega)]; omega) ?_
  refine v_iload_n d_J7_fill_bad5a_7 rfl ?_
  refine v_istore (ls' := [_, _, _, _, _, _]) d_J7_fill_bad5a_8 (by decide) rfl ?_
  have hl := l_fillR (J := J) a N lo hi hs hlo hhi hN hK (hi - lo) 0 (by omega)
  rw [x_fi_0, Nat.add_zero] at hl
  exact hl

