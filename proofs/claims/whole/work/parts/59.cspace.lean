theorem m_nb_nb (Z : x_I) : m_nb (m_nb Z) = m_nb Z := by
  by_cases h : Z 39 8 = 0
  · have e : m_nb Z = m_lay (x_u2 Z 39 8 (nI 1)) 10 (nI 2) (nI 20) (nI 0) (nI 0) (nI 1) (nI 1) := if_pos h
    have e2 : (m_nb Z) 39 8 = nI 1 := by rw [e]; rfl
    unfold m_nb at e2 ⊢
    rw [if_neg (by rw [e2]; decide)]
  · have e : m_nb Z = Z := if_neg h
    rw [e, e]
theorem m_fo_sm {Z Z' : x_I} {s : Nat} (h : m_fo Z s) (e : ∀ k, k < 6 → Z' 41 (6 * s + k) = Z 41 (6 * s + k)) : m_fo Z' s := by
  have e0 := e 0 (by omega)
  rw [Nat.add_zero] at e0
  unfold m_fo at h ⊢
  rw [e0, e 1 (by omega), e 2 (by omega), e 3 (by omega), e 4 (by omega), e 5 (by omega)]
  exact h
theorem m_ce_sm {Z Z' : x_I} {s : Nat} (e : ∀ k, k < 6 → Z' 41 (6 * s + k) = Z 41 (6 * s + k)) : m_ce Z' s = m_ce Z s := by
  unfold m_ce
  rw [e 4 (by omega), e 5 (by omega)]
/-- another picture of the same rows -/
theorem c_R.cz {fa : Nat → Nat} {bd : Nat} {Z Z' : x_I} {S : x_S} {P : x_P} {I : x_I} {J : x_J} {n : Nat} (h : c_R fa bd Z S P I J n) (hn : (Z 39 2).toInt ≤ 10) (hx : ∀ a k, a ≠ 41 → ¬ (a = 39 ∧ k = 8) → mG a k = false → Z' a k = Z a k) (h41 : ∀ s k, s < 10 → k < 6 → Z' 41 (6 * s + k) = Z 41 (6 * s + k)) (hb : ∀ k, k < 6 → m_nb Z' 41 (6 * 10 + k) = m_nb Z 41 (6 * 10 + k)) : c_R fa bd Z' S P I J n := by
  obtain ⟨a1, h1, h2, h3, h4, h5, h6, h7, h8, h9⟩ := h
  have e2 : Z' 39 2 = Z 39 2 := hx 39 2 (by decide) (by decide) rfl
  have ens : m_ns Z' = m_ns Z := by unfold m_ns; rw [e2]
  have e40 : ∀ k, Z' 40 k = Z 40 k := fun k => hx 40 k (by decide) (by omega) rfl
  have e42 : ∀ k, Z' 42 k = Z 42 k := fun k => hx 42 k (by decide) (by omega) rfl
  have e43 : ∀ k, Z' 43 k = Z 43 k := fun k => hx 43 k (by decide) (by omega) rfl
  have e44 : ∀ k, Z' 44 k = Z 44 k := fun k => hx 44 k (by decide) (by omega) rfl
  have e45 : ∀ k, Z' 45 k = Z 45 k := fun k => hx 45 k (by decide) (by omega) rfl
  have e46 : ∀ k, Z' 46 k = Z 46 k := fun k => hx 46 k (by decide) (by omega) rfl
  have e47 : ∀ k, Z' 47 k = Z 47 k := fun k => hx 47 k (by decide) (by omega) rfl
  have e53 : ∀ k, Z' 53 k = Z 53 k := fun k => hx 53 k (by decide) (by omega) rfl
  have e54 : ∀ k, Z' 54 k = Z 54 k := fun k => hx 54 k (by decide) (by omega) rfl
  refine ⟨a1, ⟨fun s hs => ?_, fun s t hst ht => h1.2.1 s t hst (by rw [← ens]; exact ht), h1.2.2.trans e2.symm⟩, ⟨h2.1, h2.2.1, h2.2.2.1, h2.2.2.2.1, h2.2.2.2.2.cz hb⟩, ?_, ?_, ?_, ?_, ?_, ?_, ?_⟩
  · rw [ens] at hs
    have h10 : s < 10 := by unfold m_ns at hs; omega
    have ef := fun k hk => h41 s k h10 hk
    obtain ⟨b1, b2, b3, b4, b5, b6, b7, b8, b9, b10⟩ := h1.1 s hs
    refine ⟨b1, b2, by rw [e40]; exact b3, by rw [m_ce_sm ef]; exact b4, b5, b6, b7, b8, b9.cz ef, fun k hk => ?_⟩
    rw [m_ce_sm ef] at hk
    rw [e42]; exact b10 k hk
  · intro k hk; rw [e43]; exact h3 k hk
  · intro e k he hk; rw [e44]; exact h4 e k he hk
  · refine ⟨?_, ?_, fun k hk => by rw [e53]; exact h5.2.2 k hk⟩
    · rw [hx 39 24 (by decide) (by decide) rfl]; exact h5.1
    · rw [hx 39 26 (by decide) (by decide) rfl]; exact h5.2.1
  · intro t s c ht hs hc; rw [e54]; exact h6 t s c ht hs hc
  · intro k hk; rw [e45, e46]
    obtain ⟨c1, c2, c3⟩ := h7 k hk
    exact ⟨c1, c2, fun i hi => by rw [e47]; exact c3 i hi⟩
  · rw [hx 39 0 (by decide) (by decide) rfl]; exact h8
  · rw [hx 39 1 (by decide) (by decide) rfl]; exact h9
theorem c_R.nb {fa : Nat → Nat} {bd : Nat} {Z : x_I} {S : x_S} {P : x_P} {I : x_I} {J : x_J} {n : Nat} (h : c_R fa bd Z S P I J n) (hn : (Z 39 2).toInt ≤ 10) : c_R fa bd (m_nb Z) S P I J n :=
  h.cz hn (fun a k h1 h2 _ => m_nb_at Z h1 h2) (fun s k hs hk => m_nb_fl Z hs hk) (fun k _ => by rw [m_nb_nb])
theorem m_I.nb {Z : x_I} (h : m_I Z) : m_I (m_nb Z) := by
  obtain ⟨h1, h2, h3, h4, h5, h6, h7, h8, h9, h10, h11, h12, h13⟩ := h
  have e2 : m_nb Z 39 2 = Z 39 2 := m_nb_at Z (by decide) (by decide)
  have e24 : m_nb Z 39 24 = Z 39 24 := m_nb_at Z (by decide) (by decide)
  have e26 : m_nb Z 39 26 = Z 39 26 := m_nb_at Z (by decide) (by decide)
  have ens : m_ns (m_nb Z) = m_ns Z := by unfold m_ns; rw [e2]
  have enh : m_nh (m_nb Z) = m_nh Z := by unfold m_nh; rw [e24]
  have ef : ∀ s, s < 10 → ∀ k, k < 6 → m_nb Z 41 (6 * s + k) = Z 41 (6 * s + k) := fun s hs k hk => m_nb_fl Z hs hk
  refine ⟨by rw [e2]; exact h1, fun s hs => ?_, fun s hs => ?_, by rw [m_nb_nb]; exact h4, fun k hk => ?_, fun k hk => ?_, fun k hk => ?_, ?_, by rw [e24]; exact h9, fun k hk => ?_, ?_, ?_, fun k hk => ?_⟩
  · rw [ens] at hs
    exact m_fo_sm (h2 s hs) (ef s (by unfold m_ns at hs; omega))
  · rw [ens] at hs; rw [m_nb_at Z (by decide) (by omega)]; exact h3 s hs
  · rw [m_nb_at Z (by decide) (by omega)]; exact h5 k hk
  · rw [m_nb_at Z (by decide) (by omega)]; exact h6 k hk
  · rw [m_nb_at Z (by decide) (by omega)]; exact h7 k hk
  · intro e k he hk hc
    rw [m_nb_nb] at hc
    rw [m_nb_at Z (by decide) (by omega)]; exact h8 e k he hk hc
  · rw [m_nb_at Z (by decide) (by omega)]; exact h10 k hk
  · unfold g_pt g_sf at h11 ⊢; rw [e26, e2]; exact h11
  · intro t s c ht hs hc
    rw [m_nb_at Z (by decide) (by omega), enh, ens, m_ce_sm (ef s hs)]
    exact h12 t s c ht hs hc
  · rw [m_nb_at Z (by decide) (by omega), m_nb_at Z (by decide) (by omega)]; exact h13 k hk

theorem t_X8_wallN {K : x_K} {S : x_S} {P : x_P} {I : x_I} {J : x_J} {n : Nat} {s : Int32} {fa : Nat → Nat} {bd : Nat} {Z : x_I} (hR : c_R fa bd Z S P I J n) (mi : m_I Z) (hs : s.toInt < 0) (hK : K (some .null) S P I J n) : x_Call f_X8_wall [.ref 3, .int s] K S P I J n := by
  refine t_X8_wall hR mi (fun _ => hK) (fun k e hk hk10 => ?_)
  rw [e, x_ti (by omega)] at hs
  omega
theorem t_X8_wallS {K : x_K} {S : x_S} {P : x_P} {I : x_I} {J : x_J} {n : Nat} {s : Int32} {fa : Nat → Nat} {bd : Nat} {Z : x_I} (hR : c_R fa bd Z S P I J n) (mi : m_I Z) (k : Nat) (hs : s = nI k) (hk : k < m_ns Z) (hK : K (some (.ref (fa k + 1))) S P I J n) : x_Call f_X8_wall [.ref 3, .int s] K S P I J n := by
  have hn := mi.hn
  have h9 : m_ns Z = (Z 39 2).toInt.toNat := rfl
  refine t_X8_wall hR mi (fun q => ?_) (fun j e hj hk10 => ?_)
  · refine absurd ?_ q
    unfold g_sf
    rw [hs, x_ti (by omega)]; omega
  · have e2 : nI k = nI j := hs.symm.trans e
    have := congrArg Int32.toInt e2
    rw [x_ti (by omega), x_ti (by omega)] at this
    have e3 : k = j := by omega
    subst e3
    exact hK

set_option maxRecDepth 100000 in
set_option maxHeartbeats 4000000 in
theorem t_X8_hasCell {K : x_K} {S : x_S} {P : x_P} {I : x_I} {J : x_J} {n : Nat} {s c : Int32} {fa : Nat → Nat} {bd : Nat} {Z : x_I} (hR : c_R fa bd Z S P I J n) (mi : m_I Z) (ht : g_ce Z s c → K (some (.int (nI 1))) S P I J n) (hf : ¬ (g_ce Z s c) → K (some (.int (nI 0))) S P I J n) : x_Call f_X8_hasCell [.ref 3, .int s, .int c] K S P I J n := by
  have hS := hR.hS
  have hP := hR.hP
  have hn := mi.hn
  have hfo := mi.fo
  have h9 : m_ns Z = (Z 39 2).toInt.toNat := rfl
  refine x_intro (by decide) 1 (ls := [_, _, _, _]) rfl (Nat.le_of_ble_eq_true rfl) ?_
  refine v_aload_n d_X8_hasCell_0 rfl ?_
  refine v_iload_n d_X8_hasCell_1 rfl ?_
  refine v_cv (as := [_]) (rest := []) d_X8_hasCell_2 lv_X8_30_8 (hS _ _ rfl) rfl ⟨by decide, by decide⟩ rfl (Nat.le_of_ble_eq_true rfl) (by decide) (by decide) ?_
  refine t_X8_wall hR mi (fun q => ?_) (fun k e hk hk10 => ?_)
  · refine v_astore_nN (ls' := [_, _, _, _]) d_X8_hasCell_5 (by decide) rfl ?_
    refine v_aload_nN d_X8_hasCell_6 rfl ?_
    refine v_ifnullN d_X8_hasCell_7 ?_
    refine v_iconst (v := nI 0) d_X8_hasCell_25 x_ic_0 ?_
    refine v_ret (v := some (.int _)) d_X8_hasCell_26 rfl ⟨rfl, _, rfl, rfl⟩ (by decide) (by decide) ?_
    first | exact hf (fun z => q z.1) | exact hf (fun z => q2 (by unfold g_ce at z; rw [x_kn (by omega)] at z; exact z.2))
  · subst e
    have hw := hR.w hk
    refine v_astore_n (ls' := [_, _, _, _]) d_X8_hasCell_5 (by decide) rfl ?_
    refine v_aload_n d_X8_hasCell_6 rfl ?_
    refine v_ifnull d_X8_hasCell_7 ?_
    refine v_aload_n d_X8_hasCell_10 rfl ?_
    refine v_gr d_X8_hasCell_11 (lfw_X8_34 (c_kc_ok _)) (x_ftw1 (c_kc_ok _)) (hw.sw) (hw.pf) ?_
    refine v_iload_n d_X8_hasCell_14 rfl ?_
    refine v_cv (as := [_]) (rest := []) d_X8_hasCell_15 lv_X8_38_1 (hw.sf) rfl ⟨by decide, by decide⟩ rfl (Nat.le_of_ble_eq_true rfl) (by decide) (by decide) ?_
    refine t_X1_has hw.sf hw.fl (fun q2 => ?_) (fun q2 => ?_)
    · refine w_if_eq d_X8_hasCell_18 (fun h18 => absurd h18 (by decide)) (fun _ => ?_)
      refine v_iconst (v := nI 1) d_X8_hasCell_21 x_ic_1 ?_
      refine v_goto d_X8_hasCell_22 ?_
      refine v_ret (v := some (.int _)) d_X8_hasCell_26 rfl ⟨rfl, _, rfl, rfl⟩ (by decide) (by decide) ?_
      exact ht (by unfold g_ce; rw [x_ti (by omega), x_kn (by omega)]; omega)
    · refine w_if_eq d_X8_hasCell_18 (fun _ => ?_) (fun h18 => absurd h18 (by decide))
      refine v_iconst (v := nI 0) d_X8_hasCell_25 x_ic_0 ?_
      refine v_ret (v := some (.int _)) d_X8_hasCell_26 rfl ⟨rfl, _, rfl, rfl⟩ (by decide) (by decide) ?_
      first | exact hf (fun z => q z.1) | exact hf (fun z => q2 (by unfold g_ce at z; rw [x_kn (by omega)] at z; exact z.2))

def w_col (Z : x_I) (o : Option (Nat × Nat)) : Int32 := match o with
  | none => nI 0
  | some (s, c) => Z 42 (64 * s + c)
def o_in (Z : x_I) (o : Option (Nat × Nat)) : Prop := ∀ s c, o = some (s, c) → s < m_ns Z ∧ (c : Int) < m_ce Z s ∧ c < 64

set_option maxRecDepth 100000 in
set_option maxHeartbeats 4000000 in
theorem t_X8_colourOf {K : x_K} {S : x_S} {P : x_P} {I : x_I} {J : x_J} {n : Nat} {x : Int32} {fa : Nat → Nat} {bd : Nat} {Z : x_I} (hR : c_R fa bd Z S P I J n) (mi : m_I Z) (o : Option (Nat × Nat)) (hx : x = r_ans o) (hi : o_in Z o) (hK : K (some (.int (w_col Z o))) S P I J n) : x_Call f_X8_colourOf [.ref 3, .int x] K S P I J n := by
  refine x_intro (by decide) 2 (ls := [_, _, _, _]) rfl (Nat.le_of_ble_eq_true rfl) ?_
  have hS := hR.hS
  have hP := hR.hP
  have hn := mi.hn
  have h9 : m_ns Z = (Z 39 2).toInt.toNat := rfl
  subst hx
  cases o with
  | none =>
    show x_V f_X8_colourOf K 0 [some (.ref 3), some (.int (-9)), none, none] [] S P I J n 0 0
    refine v_aload_n d_X8_colourOf_0 rfl ?_
    refine v_iload_n d_X8_colourOf_1 rfl ?_
    refine w_if_ge d_X8_colourOf_2 (fun h2 => False.elim (by exact absurd h2 (by decide))) (fun h2 => ?_)
    refine v_iconst (v := (-1)) d_X8_colourOf_5 x_ic_m1 ?_
    refine v_goto d_X8_colourOf_6 ?_
    refine v_cv (as := [_]) (rest := []) d_X8_colourOf_13 lv_X8_30_8 (hS _ _ rfl) rfl ⟨by decide, by decide⟩ rfl (Nat.le_of_ble_eq_true rfl) (by decide) (by decide) ?_
    refine t_X8_wallN hR mi (by decide) ?_
    refine v_astore_nN (ls' := [_, _, _, _]) d_X8_colourOf_16 (by decide) rfl ?_
    refine v_iload_n d_X8_colourOf_17 rfl ?_
    refine v_bipush (v := nI 100) d_X8_colourOf_18 x_bp_100 ?_
    refine v_irem d_X8_colourOf_20 (by decide) ?_
    refine v_istore_n (ls' := [_, _, _, _]) d_X8_colourOf_21 (by decide) rfl ?_
    refine v_aload_nN d_X8_colourOf_22 rfl ?_
    refine v_ifnullN d_X8_colourOf_23 ?_
    refine v_iconst (v := nI 0) d_X8_colourOf_46 x_ic_0 ?_
    refine v_ret (v := some (.int _)) d_X8_colourOf_47 rfl ⟨rfl, _, rfl, rfl⟩ (by decide) (by decide) ?_
    exact hK
  | some v =>
    obtain ⟨s, c⟩ := v
    have hin := hi s c rfl
    have hw := hR.w hin.1
    have d1 : (100 * s + c) / 100 = s := by omega
    have d2 : (100 * s + c) % 100 = c := by omega
    show x_V f_X8_colourOf K 0 [some (.ref 3), some (.int (nI (100 * s + c))), none, none] [] S P I J n 0 0
    refine v_aload_n d_X8_colourOf_0 rfl ?_
    refine v_iload_n d_X8_colourOf_1 rfl ?_
    refine w_if_ge d_X8_colourOf_2 (fun h2 => ?_) (fun h2 => False.elim (by rw [x_ti (by omega)] at h2; omega))
    refine v_iload_n d_X8_colourOf_9 rfl ?_
    refine v_bipush (v := nI 100) d_X8_colourOf_10 x_bp_100 ?_
    refine v_idiv d_X8_colourOf_12 (by decide) ?_
    rw [x_divN (by omega) (by decide) (by decide), d1]
    refine v_cv (as := [_]) (rest := []) d_X8_colourOf_13 lv_X8_30_8 (hS _ _ rfl) rfl ⟨by decide, by decide⟩ rfl (Nat.le_of_ble_eq_true rfl) (by decide) (by decide) ?_
    refine t_X8_wallS hR mi s rfl hin.1 ?_
    refine v_astore_n (ls' := [_, _, _, _]) d_X8_colourOf_16 (by decide) rfl ?_
    refine v_iload_n d_X8_colourOf_17 rfl ?_
    refine v_bipush (v := nI 100) d_X8_colourOf_18 x_bp_100 ?_
    refine v_irem d_X8_colourOf_20 (by decide) ?_
    rw [x_remN (by omega) (by decide) (by decide), d2]
    refine v_istore_n (ls' := [_, _, _, _]) d_X8_colourOf_21 (by decide) rfl ?_
    refine v_aload_n d_X8_colourOf_22 rfl ?_
    refine v_ifnull d_X8_colourOf_23 ?_
    refine v_aload_n d_X8_colourOf_26 rfl ?_
    refine v_gr d_X8_colourOf_27 (lfw_X8_34 (c_kc_ok _)) (x_ftw1 (c_kc_ok _)) (hw.sw) (hw.pf) ?_
    refine v_iload_n d_X8_colourOf_30 rfl ?_
    refine v_cv (as := [_]) (rest := []) d_X8_colourOf_31 lv_X8_38_1 (hw.sf) rfl ⟨by decide, by decide⟩ rfl (Nat.le_of_ble_eq_true rfl) (by decide) (by decide) ?_
    refine t_X1_has hw.sf hw.fl (fun q => ?_) (fun q => ?_)
    · refine w_if_eq d_X8_colourOf_34 (fun h34 => absurd h34 (by decide)) (fun _ => ?_)
      refine v_aload_n d_X8_colourOf_37 rfl ?_
      refine v_gr d_X8_colourOf_38 (lfw_X8_44 (c_kc_ok _)) (x_ftw2 (c_kc_ok _)) (hw.sw) (hw.pc) ?_
      refine v_iload_n d_X8_colourOf_41 rfl ?_
      refine v_iald _ d_X8_colourOf_42 (rfl) (hw.sc) (⟨by omega, by omega⟩) (hw.co c (by omega)) ?_
      refine v_goto d_X8_colourOf_43 ?_
      refine v_ret (v := some (.int _)) d_X8_colourOf_47 rfl ⟨rfl, _, rfl, rfl⟩ (by decide) (by decide) ?_
      exact hK
    · exact absurd (by rw [x_ti (by omega)]; omega) q

set_option maxRecDepth 100000 in
set_option maxHeartbeats 4000000 in
theorem l_X8_countCells {K : x_K} {S : x_S} {P : x_P} {I : x_I} {J : x_J} {n : Nat} {fa : Nat → Nat} {bd : Nat} {Z : x_I} (hR : c_R fa bd Z S P I J n) (mi : m_I Z) (hK : K (some (.int (nI (x_sm (fun s => (m_ce Z s).toNat) (m_ns Z))))) S P I J n) : ∀ d k : Nat, k + d = m_ns Z → x_V f_X8_countCells K 4 [some (.ref 3), some (.int (nI (x_sm (fun s => (m_ce Z s).toNat) k))), some (.int (nI k)), none] [] S P I J n 0 0 := by
  intro d
  induction d with
  | zero =>
    intro k hd
    have hS := hR.hS
    have hP := hR.hP
    have hn := mi.hn
    have hfo := mi.fo
    have h9 : m_ns Z = (Z 39 2).toInt.toNat := rfl
    have e : k = m_ns Z := by omega
    subst e
    refine v_iload_n d_X8_countCells_4 rfl ?_
    refine v_aload_n d_X8_countCells_5 rfl ?_
    refine v_gie d_X8_countCells_6 lf_X8_17_8 rfl (hS _ _ rfl) (hR.ns) ?_
    refine w_icmp_ge d_X8_countCells_9 (fun h9 => ?_) (fun h9 => False.elim (by (try simp (disch := omega) only [x_ti, x_tm1] at h9); omega))
    refine v_iload_n d_X8_countCells_42 rfl ?_
    refine v_ret (v := some (.int _)) d_X8_countCells_43 rfl ⟨rfl, _, rfl, rfl⟩ (by decide) (by decide) ?_
    exact hK
  | succ d ih =>
    intro k hd
    have hS := hR.hS
    have hP := hR.hP
    have hn := mi.hn
    have hfo := mi.fo
    have h9 : m_ns Z = (Z 39 2).toInt.toNat := rfl
    have hk : k < m_ns Z := by omega
    have hw := hR.w hk
    refine v_iload_n d_X8_countCells_4 rfl ?_
    refine v_aload_n d_X8_countCells_5 rfl ?_
    refine v_gie d_X8_countCells_6 lf_X8_17_8 rfl (hS _ _ rfl) (hR.ns) ?_
    refine w_icmp_ge d_X8_countCells_9 (fun h9 => False.elim (by (try simp (disch := omega) only [x_ti, x_tm1] at h9); omega)) (fun h9 => ?_)
    refine v_aload_n d_X8_countCells_12 rfl ?_
    refine v_iload_n d_X8_countCells_13 rfl ?_
    refine v_cv (as := [_]) (rest := []) d_X8_countCells_14 lv_X8_30_8 (hS _ _ rfl) rfl ⟨by decide, by decide⟩ rfl (Nat.le_of_ble_eq_true rfl) (by decide) (by decide) ?_
    refine t_X8_wallS hR mi k rfl hk ?_
    refine v_astore_n (ls' := [_, _, _, _]) d_X8_countCells_17 (by decide) rfl ?_
    refine v_iload_n d_X8_countCells_18 rfl ?_
    refine v_aload_n d_X8_countCells_19 rfl ?_
    refine v_ifnonnull d_X8_countCells_20 ?_
    refine v_aload_n d_X8_countCells_27 rfl ?_
    refine v_gr d_X8_countCells_28 (lfw_X8_34 (c_kc_ok _)) (x_ftw1 (c_kc_ok _)) (hw.sw) (hw.pf) ?_
    refine v_gie d_X8_countCells_31 lf_X8_48_1 rfl (hw.sf) (hw.fl.ce.trans (x_of (show 0 ≤ (Z 41 (6 * k + 4) * Z 41 (6 * k + 5)).toInt by have := m_ce_in (hfo k hk); unfold m_ce at this; omega))) ?_
    refine v_iaddN d_X8_countCells_34 ?_
    refine v_istore_n (ls' := [_, _, _, _]) d_X8_countCells_35 (by decide) rfl ?_
    first | refine v_iinc (ls' := [_, _, _, _]) d_X8_countCells_36 rfl (x_inc_1 _) (by decide) rfl ?_ | refine v_iinc (ls' := [_, _, _, _]) d_X8_countCells_36 rfl rfl (by decide) rfl ?_
    refine v_goto d_X8_countCells_39 ?_
    refine x_V.fg1 3 (ls' := [_, _, _, _]) rfl ?_
    exact ih (k + 1) (by omega)

set_option maxRecDepth 100000 in
set_option maxHeartbeats 4000000 in
theorem t_X8_countCells {K : x_K} {S : x_S} {P : x_P} {I : x_I} {J : x_J} {n : Nat} {fa : Nat → Nat} {bd : Nat} {Z : x_I} (hR : c_R fa bd Z S P I J n) (mi : m_I Z) (hK : K (some (.int (nI (x_sm (fun s => (m_ce Z s).toNat) (m_ns Z))))) S P I J n) : x_Call f_X8_countCells [.ref 3] K S P I J n := by
  have hS := hR.hS
  have hP := hR.hP
  have hn := mi.hn
  have hfo := mi.fo
  have h9 : m_ns Z = (Z 39 2).toInt.toNat := rfl
  refine x_intro (by decide) 3 (ls := [_, _, _, _]) rfl (Nat.le_of_ble_eq_true rfl) ?_
  refine v_iconst (v := nI 0) d_X8_countCells_0 x_ic_0 ?_
  refine v_istore_n (ls' := [_, _, _, _]) d_X8_countCells_1 (by decide) rfl ?_
  refine v_iconst (v := nI 0) d_X8_countCells_2 x_ic_0 ?_
  refine v_istore_n (ls' := [_, _, _, _]) d_X8_countCells_3 (by decide) rfl ?_
  exact l_X8_countCells hR mi hK (m_ns Z) 0 (by omega)

set_option maxRecDepth 100000 in
set_option maxHeartbeats 4000000 in
theorem l_X10_notBare {K : x_K} {S : x_S} {P : x_P} {I : x_I} {J : x_J} {n : Nat} {fa : Nat → Nat} {Z : x_I} {s : Nat} (N : Nat) (hN : N = (m_ce Z s).toNat) (hN6 : N ≤ 64) (hs10 : s < 10) (hw : c_w fa Z S P I n s) (hco : g_co Z) (hK : K (some (.int (nI (x_ct (fun k => decide (0 < (Z 42 (64 * s + k)).toInt)) N)))) S P I J n) : ∀ d k : Nat, k + d = N → x_V f_X10_notBare K 4 [some (.ref (fa s + 1)), some (.int (nI (x_ct (fun k => decide (0 < (Z 42 (64 * s + k)).toInt)) k))), some (.int (nI k))] [] S P I J n 0 0 := by
  intro d
  induction d with
  | zero =>
    intro k hd
    have e : k = N := by omega
    subst e
    refine v_iload_n d_X10_notBare_4 rfl ?_
    refine v_aload_n d_X10_notBare_5 rfl ?_
    refine v_gr d_X10_notBare_6 (lfw_X10_30 (c_kc_ok _)) (x_ftw2 (c_kc_ok _)) (hw.sw) (hw.pc) ?_
    refine v_alen d_X10_notBare_9 (hw.sc) (by decide) ?_
    refine w_icmp_ge d_X10_notBare_10 (fun h10 => ?_) (fun h10 => False.elim (by (try simp (disch := omega) only [x_ti, x_tm1] at h10); omega))
    refine v_iload_n d_X10_notBare_31 rfl ?_
    refine v_ret (v := some (.int _)) d_X10_notBare_32 rfl ⟨rfl, _, rfl, rfl⟩ (by decide) (by decide) ?_
    exact hK
  | succ d ih =>
    intro k hd
    have hc := hco (64 * s + k) (by omega)
    refine v_iload_n d_X10_notBare_4 rfl ?_
    refine v_aload_n d_X10_notBare_5 rfl ?_
    refine v_gr d_X10_notBare_6 (lfw_X10_30 (c_kc_ok _)) (x_ftw2 (c_kc_ok _)) (hw.sw) (hw.pc) ?_
    refine v_alen d_X10_notBare_9 (hw.sc) (by decide) ?_
    refine w_icmp_ge d_X10_notBare_10 (fun h10 => False.elim (by (try simp (disch := omega) only [x_ti, x_tm1] at h10); omega)) (fun h10 => ?_)
    refine v_aload_n d_X10_notBare_13 rfl ?_
    refine v_gr d_X10_notBare_14 (lfw_X10_30 (c_kc_ok _)) (x_ftw2 (c_kc_ok _)) (hw.sw) (hw.pc) ?_
    refine v_iload_n d_X10_notBare_17 rfl ?_
    refine v_iald _ d_X10_notBare_18 (rfl) (hw.sc) (⟨by omega, by omega⟩) (hw.co k (by omega)) ?_
    refine w_if_eq d_X10_notBare_19 (fun h19 => ?_) (fun h19 => ?_)
    · first | refine v_iinc (ls' := [_, _, _]) d_X10_notBare_25 rfl (x_inc_1 _) (by decide) rfl ?_ | refine v_iinc (ls' := [_, _, _]) d_X10_notBare_25 rfl rfl (by decide) rfl ?_
      refine v_goto d_X10_notBare_28 ?_
      first | (rw [x_ct_y (p := (fun k => decide (0 < (Z 42 (64 * s + k)).toInt))) (k := k) (by simp; omega)]; exact ih (k + 1) (by omega)) | (rw [← Nat.add_zero (x_ct (fun k => decide (0 < (Z 42 (64 * s + k)).toInt)) k), x_ct_n (p := (fun k => decide (0 < (Z 42 (64 * s + k)).toInt))) (k := k) (by simp; omega)]; exact ih (k + 1) (by omega))
    · first | refine v_iinc (ls' := [_, _, _]) d_X10_notBare_22 rfl (x_inc_1 _) (by decide) rfl ?_ | refine v_iinc (ls' := [_, _, _]) d_X10_notBare_22 rfl rfl (by decide) rfl ?_
      first | refine v_iinc (ls' := [_, _, _]) d_X10_notBare_25 rfl (x_inc_1 _) (by decide) rfl ?_ | refine v_iinc (ls' := [_, _, _]) d_X10_notBare_25 rfl rfl (by decide) rfl ?_
      refine v_goto d_X10_notBare_28 ?_
      first | (rw [x_ct_y (p := (fun k => decide (0 < (Z 42 (64 * s + k)).toInt))) (k := k) (by simp; omega)]; exact ih (k + 1) (by omega)) | (rw [← Nat.add_zero (x_ct (fun k => decide (0 < (Z 42 (64 * s + k)).toInt)) k), x_ct_n (p := (fun k => decide (0 < (Z 42 (64 * s + k)).toInt))) (k := k) (by simp; omega)]; exact ih (k + 1) (by omega))

set_option maxRecDepth 100000 in
set_option maxHeartbeats 4000000 in
theorem t_X10_notBare {K : x_K} {S : x_S} {P : x_P} {I : x_I} {J : x_J} {n : Nat} {fa : Nat → Nat} {Z : x_I} {s : Nat} (hs10 : s < 10) (hw : c_w fa Z S P I n s) (hfo : m_fo Z s) (hco : g_co Z) (hK : K (some (.int (nI (m_pa Z s)))) S P I J n) : x_Call f_X10_notBare [.ref (fa s + 1)] K S P I J n := by
  refine x_intro (by decide) 2 (ls := [_, _, _]) rfl (Nat.le_of_ble_eq_true rfl) ?_
  have hm := m_ce_in hfo
  refine v_iconst (v := nI 0) d_X10_notBare_0 x_ic_0 ?_
  refine v_istore_n (ls' := [_, _, _]) d_X10_notBare_1 (by decide) rfl ?_
  refine v_iconst (v := nI 0) d_X10_notBare_2 x_ic_0 ?_
  refine v_istore_n (ls' := [_, _, _]) d_X10_notBare_3 (by decide) rfl ?_
  exact l_X10_notBare (m_ce Z s).toNat rfl (by omega) hs10 hw hco hK (m_ce Z s).toNat 0 (by omega)

set_option maxRecDepth 100000 in
set_option maxHeartbeats 4000000 in
theorem sv_X8_notBare_28 {K : x_K} {S : x_S} {P : x_P} {I : x_I} {J : x_J} {n : Nat} {fa : Nat → Nat} {Z : x_I} {s : Nat} {ls : List (Option Value)} {y : Int32} (hs10 : s < 10) (hfs : m_fo Z s) (hco : g_co Z) (hw : c_w fa Z S P I n s) (hk : 0 ≤ (Z 40 s).toInt ∧ (Z 40 s).toInt ≤ 2) (hc : x_V f_X8_notBare K 31 ls [.int (nI (m_pa Z s)), .int y] S P I J n 0 0) : x_V f_X8_notBare K 28 ls [.ref (fa s + 1), .int y] S P I J n 0 0 := by
  have hs := hw.sw
  unfold c_kc at hs
  split at hs
  · refine v_cv (as := []) (rest := [_]) d_X8_notBare_28 lv_X8_55_10 hs rfl ⟨by decide, by decide⟩ rfl (Nat.le_of_ble_eq_true rfl) (by decide) (by decide) ?_
    refine t_X10_notBare hs10 hw hfs hco ?_
    exact hc
  · split at hs
    · refine v_cu (as := []) (rest := [_]) d_X8_notBare_28 lu_X8_55_5 hs rfl ⟨by decide, by decide⟩ rfl (Nat.le_of_ble_eq_true rfl) (by decide) (by decide) ?_
      refine t_X10_notBare hs10 hw hfs hco ?_
      exact hc
    · refine v_cu (as := []) (rest := [_]) d_X8_notBare_28 lu_X8_55_0 hs rfl ⟨by decide, by decide⟩ rfl (Nat.le_of_ble_eq_true rfl) (by decide) (by decide) ?_
      refine t_X10_notBare hs10 hw hfs hco ?_
      exact hc

set_option maxRecDepth 100000 in
set_option maxHeartbeats 4000000 in
theorem sv_X11_about_110 {K : x_K} {S : x_S} {P : x_P} {I : x_I} {J : x_J} {n : Nat} {fa : Nat → Nat} {Z : x_I} {s : Nat} {ls : List (Option Value)} (hs10 : s < 10) (hfs : m_fo Z s) (hco : g_co Z) (hw : c_w fa Z S P I n s) (hk : 0 ≤ (Z 40 s).toInt ∧ (Z 40 s).toInt ≤ 2) (hc : x_V f_X11_about K 113 ls [.int (nI (m_pa Z s))] S P I J n 0 0) : x_V f_X11_about K 110 ls [.ref (fa s + 1)] S P I J n 0 0 := by
  have hs := hw.sw
  unfold c_kc at hs
  split at hs
  · refine v_cv (as := []) (rest := []) d_X11_about_110 lv_X11_111_10 hs rfl ⟨by decide, by decide⟩ rfl (Nat.le_of_ble_eq_true rfl) (by decide) (by decide) ?_
    refine t_X10_notBare hs10 hw hfs hco ?_
    exact hc
  · split at hs
    · refine v_cu (as := []) (rest := []) d_X11_about_110 lu_X11_111_5 hs rfl ⟨by decide, by decide⟩ rfl (Nat.le_of_ble_eq_true rfl) (by decide) (by decide) ?_
      refine t_X10_notBare hs10 hw hfs hco ?_
      exact hc
    · refine v_cu (as := []) (rest := []) d_X11_about_110 lu_X11_111_0 hs rfl ⟨by decide, by decide⟩ rfl (Nat.le_of_ble_eq_true rfl) (by decide) (by decide) ?_
      refine t_X10_notBare hs10 hw hfs hco ?_
      exact hc

set_option maxRecDepth 100000 in
set_option maxHeartbeats 4000000 in
theorem sv_X8_countTakers_24 {K : x_K} {S : x_S} {P : x_P} {I : x_I} {J : x_J} {n : Nat} {fa : Nat → Nat} {Z : x_I} {s : Nat} {ls : List (Option Value)} {y : Int32} (hw : c_w fa Z S P I n s) (hk : 0 ≤ (Z 40 s).toInt ∧ (Z 40 s).toInt ≤ 2) (ht : ¬ (Z 40 s).toInt = 1 → x_V f_X8_countTakers K 27 ls [.int (nI 1), .int y] S P I J n 0 0) (hf : (Z 40 s).toInt = 1 → x_V f_X8_countTakers K 27 ls [.int (nI 0), .int y] S P I J n 0 0) : x_V f_X8_countTakers K 24 ls [.ref (fa s + 1), .int y] S P I J n 0 0 := by
  have hs := hw.sw
  unfold c_kc at hs
  split at hs
  · refine v_cv (as := []) (rest := [_]) d_X8_countTakers_24 lv_X8_51_10 hs rfl ⟨by decide, by decide⟩ rfl (Nat.le_of_ble_eq_true rfl) (by decide) (by decide) ?_
    refine t_X10_takesColours ?_
    exact ht (by omega)
  · split at hs
    · refine v_cu (as := []) (rest := [_]) d_X8_countTakers_24 lu_X8_51_5 hs rfl ⟨by decide, by decide⟩ rfl (Nat.le_of_ble_eq_true rfl) (by decide) (by decide) ?_
      refine t_X5_takesColours ?_
      exact hf (by omega)
    · refine v_cu (as := []) (rest := [_]) d_X8_countTakers_24 lu_X8_51_0 hs rfl ⟨by decide, by decide⟩ rfl (Nat.le_of_ble_eq_true rfl) (by decide) (by decide) ?_
      refine t_X0_takesColours ?_
      exact ht (by omega)

set_option maxRecDepth 100000 in
set_option maxHeartbeats 4000000 in
theorem sv_X2_paintWall_14 {K : x_K} {S : x_S} {P : x_P} {I : x_I} {J : x_J} {n : Nat} {fa : Nat → Nat} {Z : x_I} {s : Nat} {ls : List (Option Value)}  (hw : c_w fa Z S P I n s) (hk : 0 ≤ (Z 40 s).toInt ∧ (Z 40 s).toInt ≤ 2) (ht : ¬ (Z 40 s).toInt = 1 → x_V f_X2_paintWall K 17 ls [.int (nI 1)] S P I J n 0 0) (hf : (Z 40 s).toInt = 1 → x_V f_X2_paintWall K 17 ls [.int (nI 0)] S P I J n 0 0) : x_V f_X2_paintWall K 14 ls [.ref (fa s + 1)] S P I J n 0 0 := by
  have hs := hw.sw
  unfold c_kc at hs
  split at hs
  · refine v_cv (as := []) (rest := []) d_X2_paintWall_14 lv_X2_125_10 hs rfl ⟨by decide, by decide⟩ rfl (Nat.le_of_ble_eq_true rfl) (by decide) (by decide) ?_
    refine t_X10_takesColours ?_
    exact ht (by omega)
  · split at hs
    · refine v_cu (as := []) (rest := []) d_X2_paintWall_14 lu_X2_125_5 hs rfl ⟨by decide, by decide⟩ rfl (Nat.le_of_ble_eq_true rfl) (by decide) (by decide) ?_
      refine t_X5_takesColours ?_
      exact hf (by omega)
    · refine v_cu (as := []) (rest := []) d_X2_paintWall_14 lu_X2_125_0 hs rfl ⟨by decide, by decide⟩ rfl (Nat.le_of_ble_eq_true rfl) (by decide) (by decide) ?_
      refine t_X0_takesColours ?_
      exact ht (by omega)

set_option maxRecDepth 100000 in
set_option maxHeartbeats 4000000 in
theorem sv_X11_paint_41 {K : x_K} {S : x_S} {P : x_P} {I : x_I} {J : x_J} {n : Nat} {fa : Nat → Nat} {Z : x_I} {s : Nat} {ls : List (Option Value)}  (hw : c_w fa Z S P I n s) (hk : 0 ≤ (Z 40 s).toInt ∧ (Z 40 s).toInt ≤ 2) (ht : ¬ (Z 40 s).toInt = 1 → x_V f_X11_paint K 44 ls [.int (nI 1)] S P I J n 0 0) (hf : (Z 40 s).toInt = 1 → x_V f_X11_paint K 44 ls [.int (nI 0)] S P I J n 0 0) : x_V f_X11_paint K 41 ls [.ref (fa s + 1)] S P I J n 0 0 := by
  have hs := hw.sw
  unfold c_kc at hs
  split at hs
  · refine v_cv (as := []) (rest := []) d_X11_paint_41 lv_X11_168_10 hs rfl ⟨by decide, by decide⟩ rfl (Nat.le_of_ble_eq_true rfl) (by decide) (by decide) ?_
    refine t_X10_takesColours ?_
    exact ht (by omega)
  · split at hs
    · refine v_cu (as := []) (rest := []) d_X11_paint_41 lu_X11_168_5 hs rfl ⟨by decide, by decide⟩ rfl (Nat.le_of_ble_eq_true rfl) (by decide) (by decide) ?_
      refine t_X5_takesColours ?_
      exact hf (by omega)
    · refine v_cu (as := []) (rest := []) d_X11_paint_41 lu_X11_168_0 hs rfl ⟨by decide, by decide⟩ rfl (Nat.le_of_ble_eq_true rfl) (by decide) (by decide) ?_
      refine t_X0_takesColours ?_
      exact ht (by omega)

set_option maxRecDepth 100000 in
set_option maxHeartbeats 4000000 in
theorem sv_X11_about_69 {K : x_K} {S : x_S} {P : x_P} {I : x_I} {J : x_J} {n : Nat} {fa : Nat → Nat} {Z : x_I} {s : Nat} {ls : List (Option Value)}  (hw : c_w fa Z S P I n s) (hk : 0 ≤ (Z 40 s).toInt ∧ (Z 40 s).toInt ≤ 2) (hc : ∀ v : Int32, v.toInt = (Z 40 s).toInt → x_V f_X11_about K 72 ls [.int v] S P I J n 0 0) : x_V f_X11_about K 69 ls [.ref (fa s + 1)] S P I J n 0 0 := by
  have hs := hw.sw
  unfold c_kc at hs
  split at hs
  · refine v_cv (as := []) (rest := []) d_X11_about_69 lv_X11_88_10 hs rfl ⟨by decide, by decide⟩ rfl (Nat.le_of_ble_eq_true rfl) (by decide) (by decide) ?_
    refine t_X10_kind ?_
    exact hc _ (by rw [x_ti (by decide)]; omega)
  · split at hs
    · refine v_cu (as := []) (rest := []) d_X11_about_69 lu_X11_88_5 hs rfl ⟨by decide, by decide⟩ rfl (Nat.le_of_ble_eq_true rfl) (by decide) (by decide) ?_
      refine t_X5_kind ?_
      exact hc _ (by rw [x_ti (by decide)]; omega)
    · refine v_cu (as := []) (rest := []) d_X11_about_69 lu_X11_88_0 hs rfl ⟨by decide, by decide⟩ rfl (Nat.le_of_ble_eq_true rfl) (by decide) (by decide) ?_
      refine t_X0_kind ?_
      exact hc _ (by rw [x_ti (by decide)]; omega)

set_option maxRecDepth 100000 in
set_option maxHeartbeats 4000000 in
theorem l_X8_notBare {K : x_K} {S : x_S} {P : x_P} {I : x_I} {J : x_J} {n : Nat} {fa : Nat → Nat} {bd : Nat} {Z : x_I} (hR : c_R fa bd Z S P I J n) (mi : m_I Z) (hK : K (some (.int (nI (x_sm (m_pa Z) (m_ns Z))))) S P I J n) : ∀ d k : Nat, k + d = m_ns Z → x_V f_X8_notBare K 4 [some (.ref 3), some (.int (nI (x_sm (m_pa Z) k))), some (.int (nI k)), none] [] S P I J n 0 0 := by
  intro d
  induction d with
  | zero =>
    intro k hd
    have hS := hR.hS
    have hP := hR.hP
    have hn := mi.hn
    have hfo := mi.fo
    have h9 : m_ns Z = (Z 39 2).toInt.toNat := rfl
    have e : k = m_ns Z := by omega
    subst e
    refine v_iload_n d_X8_notBare_4 rfl ?_
    refine v_aload_n d_X8_notBare_5 rfl ?_
    refine v_gie d_X8_notBare_6 lf_X8_17_8 rfl (hS _ _ rfl) (hR.ns) ?_
    refine w_icmp_ge d_X8_notBare_9 (fun h9 => ?_) (fun h9 => False.elim (by (try simp (disch := omega) only [x_ti, x_tm1] at h9); omega))
    refine v_iload_n d_X8_notBare_39 rfl ?_
    refine v_ret (v := some (.int _)) d_X8_notBare_40 rfl ⟨rfl, _, rfl, rfl⟩ (by decide) (by decide) ?_
    exact hK
  | succ d ih =>
    intro k hd
    have hS := hR.hS
    have hP := hR.hP
    have hn := mi.hn
    have hfo := mi.fo
    have h9 : m_ns Z = (Z 39 2).toInt.toNat := rfl
    have hk : k < m_ns Z := by omega
    have hw := hR.w hk
    refine v_iload_n d_X8_notBare_4 rfl ?_
    refine v_aload_n d_X8_notBare_5 rfl ?_
    refine v_gie d_X8_notBare_6 lf_X8_17_8 rfl (hS _ _ rfl) (hR.ns) ?_
    refine w_icmp_ge d_X8_notBare_9 (fun h9 => False.elim (by (try simp (disch := omega) only [x_ti, x_tm1] at h9); omega)) (fun h9 => ?_)
    refine v_aload_n d_X8_notBare_12 rfl ?_
    refine v_iload_n d_X8_notBare_13 rfl ?_
    refine v_cv (as := [_]) (rest := []) d_X8_notBare_14 lv_X8_30_8 (hS _ _ rfl) rfl ⟨by decide, by decide⟩ rfl (Nat.le_of_ble_eq_true rfl) (by decide) (by decide) ?_
    refine t_X8_wallS hR mi k rfl hk ?_
    refine v_astore_n (ls' := [_, _, _, _]) d_X8_notBare_17 (by decide) rfl ?_
    refine v_iload_n d_X8_notBare_18 rfl ?_
    refine v_aload_n d_X8_notBare_19 rfl ?_
    refine v_ifnonnull d_X8_notBare_20 ?_
    refine v_aload_n d_X8_notBare_27 rfl ?_
    refine sv_X8_notBare_28 (by omega) (hfo k hk) mi.co hw (mi.kd k hk) ?_
    refine v_iaddN d_X8_notBare_31 ?_
    refine v_istore_n (ls' := [_, _, _, _]) d_X8_notBare_32 (by decide) rfl ?_
    first | refine v_iinc (ls' := [_, _, _, _]) d_X8_notBare_33 rfl (x_inc_1 _) (by decide) rfl ?_ | refine v_iinc (ls' := [_, _, _, _]) d_X8_notBare_33 rfl rfl (by decide) rfl ?_
    refine v_goto d_X8_notBare_36 ?_
    refine x_V.fg1 3 (ls' := [_, _, _, _]) rfl ?_
    exact ih (k + 1) (by omega)

set_option maxRecDepth 100000 in
set_option maxHeartbeats 4000000 in
theorem t_X8_notBare {K : x_K} {S : x_S} {P : x_P} {I : x_I} {J : x_J} {n : Nat} {fa : Nat → Nat} {bd : Nat} {Z : x_I} (hR : c_R fa bd Z S P I J n) (mi : m_I Z) (hK : K (some (.int (nI (x_sm (m_pa Z) (m_ns Z))))) S P I J n) : x_Call f_X8_notBare [.ref 3] K S P I J n := by
  have hS := hR.hS
  have hP := hR.hP
  have hn := mi.hn
  have hfo := mi.fo
  have h9 : m_ns Z = (Z 39 2).toInt.toNat := rfl
  refine x_intro (by decide) 3 (ls := [_, _, _, _]) rfl (Nat.le_of_ble_eq_true rfl) ?_
  refine v_iconst (v := nI 0) d_X8_notBare_0 x_ic_0 ?_
  refine v_istore_n (ls' := [_, _, _, _]) d_X8_notBare_1 (by decide) rfl ?_
  refine v_iconst (v := nI 0) d_X8_notBare_2 x_ic_0 ?_
  refine v_istore_n (ls' := [_, _, _, _]) d_X8_notBare_3 (by decide) rfl ?_
  exact l_X8_notBare hR mi hK (m_ns Z) 0 (by omega)

set_option maxRecDepth 100000 in
set_option maxHeartbeats 4000000 in
theorem l_X8_countTakers {K : x_K} {S : x_S} {P : x_P} {I : x_I} {J : x_J} {n : Nat} {fa : Nat → Nat} {bd : Nat} {Z : x_I} (hR : c_R fa bd Z S P I J n) (mi : m_I Z) (hK : K (some (.int (nI (x_sm (fun s => if (Z 40 s).toInt = 1 then 0 else (m_ce Z s).toNat) (m_ns Z))))) S P I J n) : ∀ d k : Nat, k + d = m_ns Z → x_V f_X8_countTakers K 4 [some (.ref 3), some (.int (nI (x_sm (fun s => if (Z 40 s).toInt = 1 then 0 else (m_ce Z s).toNat) k))), some (.int (nI k)), none] [] S P I J n 0 0 := by
  have hS := hR.hS
  have hP := hR.hP
  have hn := mi.hn
  have hfo := mi.fo
  have h9 : m_ns Z = (Z 39 2).toInt.toNat := rfl
  intro d
  induction d with
  | zero =>
    intro k hd
    have e : k = m_ns Z := by omega
    subst e
    refine v_iload_n d_X8_countTakers_4 rfl ?_
    refine v_aload_n d_X8_countTakers_5 rfl ?_
    refine v_gie d_X8_countTakers_6 lf_X8_17_8 rfl (hS _ _ rfl) (hR.ns) ?_
    refine w_icmp_ge d_X8_countTakers_9 (fun h9 => ?_) (fun h9 => False.elim (by (try simp (disch := omega) only [x_ti, x_tm1] at h9); omega))
    refine v_iload_n d_X8_countTakers_49 rfl ?_
    refine v_ret (v := some (.int _)) d_X8_countTakers_50 rfl ⟨rfl, _, rfl, rfl⟩ (by decide) (by decide) ?_
    exact hK
  | succ d ih =>
    intro k hd
    have hk : k < m_ns Z := by omega
    have hw := hR.w hk
    refine v_iload_n d_X8_countTakers_4 rfl ?_
    refine v_aload_n d_X8_countTakers_5 rfl ?_
    refine v_gie d_X8_countTakers_6 lf_X8_17_8 rfl (hS _ _ rfl) (hR.ns) ?_
    refine w_icmp_ge d_X8_countTakers_9 (fun h9 => False.elim (by (try simp (disch := omega) only [x_ti, x_tm1] at h9); omega)) (fun h9 => ?_)
    refine v_aload_n d_X8_countTakers_12 rfl ?_
    refine v_iload_n d_X8_countTakers_13 rfl ?_
    refine v_cv (as := [_]) (rest := []) d_X8_countTakers_14 lv_X8_30_8 (hS _ _ rfl) rfl ⟨by decide, by decide⟩ rfl (Nat.le_of_ble_eq_true rfl) (by decide) (by decide) ?_
    refine t_X8_wallS hR mi k rfl hk ?_
    refine v_astore_n (ls' := [_, _, _, _]) d_X8_countTakers_17 (by decide) rfl ?_
    refine v_iload_n d_X8_countTakers_18 rfl ?_
    refine v_aload_n d_X8_countTakers_19 rfl ?_
    refine v_ifnull d_X8_countTakers_20 ?_
    refine v_aload_n d_X8_countTakers_23 rfl ?_
    refine sv_X8_countTakers_24 hw (mi.kd k hk) (fun qk => ?_) (fun qk => ?_)
    · refine w_if_eq d_X8_countTakers_27 (fun h27 => absurd h27 (by decide)) (fun _ => ?_)
      refine v_aload_n d_X8_countTakers_30 rfl ?_
      refine v_gr d_X8_countTakers_31 (lfw_X8_34 (c_kc_ok _)) (x_ftw1 (c_kc_ok _)) (hw.sw) (hw.pf) ?_
      refine v_gie d_X8_countTakers_34 lf_X8_48_1 rfl (hw.sf) (hw.fl.ce.trans (x_of (show 0 ≤ (Z 41 (6 * k + 4) * Z 41 (6 * k + 5)).toInt by have := m_ce_in (hfo k hk); unfold m_ce at this; omega))) ?_
      refine v_goto d_X8_countTakers_37 ?_
      refine v_iaddN d_X8_countTakers_41 ?_
      refine v_istore_n (ls' := [_, _, _, _]) d_X8_countTakers_42 (by decide) rfl ?_
      first | refine v_iinc (ls' := [_, _, _, _]) d_X8_countTakers_43 rfl (x_inc_1 _) (by decide) rfl ?_ | refine v_iinc (ls' := [_, _, _, _]) d_X8_countTakers_43 rfl rfl (by decide) rfl ?_
      refine v_goto d_X8_countTakers_46 ?_
      refine x_V.fg1 3 (ls' := [_, _, _, _]) rfl ?_
      have hi := ih (k + 1) (by omega)
      rw [x_sm_s] at hi
      simp only [if_neg qk] at hi
      exact hi
    · refine w_if_eq d_X8_countTakers_27 (fun _ => ?_) (fun h27 => absurd h27 (by decide))
      refine v_iconst (v := nI 0) d_X8_countTakers_40 x_ic_0 ?_
      refine v_iaddN d_X8_countTakers_41 ?_
      refine v_istore_n (ls' := [_, _, _, _]) d_X8_countTakers_42 (by decide) rfl ?_
      first | refine v_iinc (ls' := [_, _, _, _]) d_X8_countTakers_43 rfl (x_inc_1 _) (by decide) rfl ?_ | refine v_iinc (ls' := [_, _, _, _]) d_X8_countTakers_43 rfl rfl (by decide) rfl ?_
      refine v_goto d_X8_countTakers_46 ?_
      refine x_V.fg1 3 (ls' := [_, _, _, _]) rfl ?_
      have hi := ih (k + 1) (by omega)
      rw [x_sm_s] at hi
      simp only [if_pos qk] at hi
      exact hi

set_option maxRecDepth 100000 in
set_option maxHeartbeats 4000000 in
theorem t_X8_countTakers {K : x_K} {S : x_S} {P : x_P} {I : x_I} {J : x_J} {n : Nat} {fa : Nat → Nat} {bd : Nat} {Z : x_I} (hR : c_R fa bd Z S P I J n) (mi : m_I Z) (hK : K (some (.int (nI (x_sm (fun s => if (Z 40 s).toInt = 1 then 0 else (m_ce Z s).toNat) (m_ns Z))))) S P I J n) : x_Call f_X8_countTakers [.ref 3] K S P I J n := by
  have hS := hR.hS
  have hP := hR.hP
  have hn := mi.hn
  have hfo := mi.fo
  have h9 : m_ns Z = (Z 39 2).toInt.toNat := rfl
  refine x_intro (by decide) 3 (ls := [_, _, _, _]) rfl (Nat.le_of_ble_eq_true rfl) ?_
  refine v_iconst (v := nI 0) d_X8_countTakers_0 x_ic_0 ?_
  refine v_istore_n (ls' := [_, _, _, _]) d_X8_countTakers_1 (by decide) rfl ?_
  refine v_iconst (v := nI 0) d_X8_countTakers_2 x_ic_0 ?_
  refine v_istore_n (ls' := [_, _, _, _]) d_X8_countTakers_3 (by decide) rfl ?_
  exact l_X8_countTakers hR mi hK (m_ns Z) 0 (by omega)

set_option maxRecDepth 100000 in
set_option maxHeartbeats 4000000 in
theorem t_X8_isFull {K : x_K} {S : x_S} {P : x_P} {I : x_I} {J : x_J} {n : Nat} {fa : Nat → Nat} {bd : Nat} {Z : x_I} (hR : c_R fa bd Z S P I J n) (mi : m_I Z) (ht : (Z 39 2).toInt = 10 → K (some (.int (nI 1))) S P I J n) (hf : ¬ ((Z 39 2).toInt = 10) → K (some (.int (nI 0))) S P I J n) : x_Call f_X8_isFull [.ref 3] K S P I J n := by
  have hS := hR.hS
  have hP := hR.hP
  have hn := mi.hn
  have hfo := mi.fo
  have h9 : m_ns Z = (Z 39 2).toInt.toNat := rfl
  refine x_intro (by decide) 0 (ls := [_]) rfl (Nat.le_of_ble_eq_true rfl) ?_
  refine v_aload_n d_X8_isFull_0 rfl ?_
  refine v_gie d_X8_isFull_1 lf_X8_17_8 rfl (hS _ _ rfl) (hR.ns) ?_
  refine v_bipush (v := nI 10) d_X8_isFull_4 x_bp_10 ?_
  refine w_icmp_lt d_X8_isFull_6 (fun h6 => ?_) (fun h6 => ?_)
  · try simp (disch := omega) only [x_ti, x_tm1] at h6
    refine v_iconst (v := nI 0) d_X8_isFull_13 x_ic_0 ?_
    refine v_ret (v := some (.int _)) d_X8_isFull_14 rfl ⟨rfl, _, rfl, rfl⟩ (by decide) (by decide) ?_
    exact hf (by omega)
  · try simp (disch := omega) only [x_ti, x_tm1] at h6
    refine v_iconst (v := nI 1) d_X8_isFull_9 x_ic_1 ?_
    refine v_goto d_X8_isFull_10 ?_
    refine v_ret (v := some (.int _)) d_X8_isFull_14 rfl ⟨rfl, _, rfl, rfl⟩ (by decide) (by decide) ?_
    exact ht (by omega)

