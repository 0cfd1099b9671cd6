set_option maxRecDepth 100000 in
set_option maxHeartbeats 4000000 in
theorem l_X3_size {K : x_K} {S : x_S} {P : x_P} {I : x_I} {J : x_J} {n : Nat} {wv : Int32} (L : Nat → Nat → Option Nat) (m T M : Nat) (hD : p_D L m T M J) (hc : I 24 6 = nI m) (hb : I 24 7 = nI M) (hS : x_hS S) (hP : x_hP P) (hok : ∀ q Q, f_least L m T q Q → q ≤ m → K (some (.int (nI q))) S P (x_u2 I 24 8 (nI (h_mk Q q))) J n) :
    ∀ d q : Nat, q + d = m + 1 → (∀ q', q' < q → ∀ C, f_row m q' C → ¬ f_cov L m T q' C) → x_V f_X3_choose K 107 [some (.ref 24), some (.int wv), some (.int (nI q))] [] S P I J n 0 0 := by
  have hm16 := hD.1
  intro d
  induction d with
  | zero =>
    intro q hd hsm
    exact absurd (fun k t hk ht hl => ⟨k, hk, rfl⟩) (hsm m (by omega) (fun i => i) ⟨fun i hi => hi, fun i j h1 h2 => h1⟩)
  | succ d ih =>
    intro q hd hsm
    refine v_iload_n d_X3_choose_107 rfl ?_
    refine v_aload_n d_X3_choose_108 rfl ?_
    refine v_gie d_X3_choose_109 lf_X3_31_3 rfl (hS _ _ rfl) (hc) ?_
    refine w_icmp_gt d_X3_choose_112 (fun h112 => False.elim (by (try simp (disch := omega) only [x_ti, x_tm1] at h112); omega)) (fun h112 => ?_)
    refine v_aload_n d_X3_choose_115 rfl ?_
    refine v_iconst (v := nI 0) d_X3_choose_116 x_ic_0 ?_
    refine v_iload_n d_X3_choose_117 rfl ?_
    refine v_iconst (v := nI 0) d_X3_choose_118 x_ic_0 ?_
    refine v_lconst (v := 0) d_X3_choose_119 rfl ?_
    refine v_lconst (v := 0) d_X3_choose_120 rfl ?_
    refine v_cv (as := [_, _, _, _, _]) (rest := []) d_X3_choose_121 (lv_X3_56_3 _) (hS _ _ rfl) rfl ⟨by show q + 3 + 1 ≤ 21; omega, by show 8 + (10 + 11) + 40 * (q + 3) ≤ 40 * 21; omega⟩ rfl (Nat.le_of_ble_eq_true rfl) (Nat.le_of_ble_eq_true rfl) (Nat.le_of_ble_eq_true rfl) ?_
    refine t_X3_pick L m T M q _ S P I J n 0 0 (fun _ => 0) 0 0 hD hc hb ⟨fun i hi => absurd hi (Nat.not_lt_zero _), fun i j _ hj => absurd hj (Nat.not_lt_zero _)⟩ (fun i hi => absurd hi (Nat.not_lt_zero _)) (Nat.zero_le _) (by omega) (fun b hb1 => ⟨(fun z => by unfold x_on at z; rw [x_lb_0, x_lb_0] at z; split at z <;> cases z), fun ⟨i, hi, _⟩ => absurd hi (Nat.not_lt_zero _)⟩) hS hP (fun Q zq1 zq2 zq3 => ?_) (fun zq0 => ?_)
    · refine w_if_eq d_X3_choose_124 (fun h124 => absurd h124 (by decide)) (fun _ => ?_)
      refine v_iload_n d_X3_choose_127 rfl ?_
      refine v_ret (v := some (.int _)) d_X3_choose_128 rfl ⟨rfl, _, rfl, rfl⟩ (Nat.le_of_ble_eq_true rfl) (Nat.le_of_ble_eq_true rfl) ?_
      rw [Nat.zero_add] at zq2 zq3 ⊢
      have zr : f_row m q Q := by have z8 := zq1.1; rw [Nat.zero_add] at z8; exact z8
      exact hok q Q ⟨zr, zq2, hsm, fun C hC hcv => zq3 C ⟨by rw [Nat.zero_add]; exact hC, fun i hi => absurd hi (Nat.not_lt_zero _), fun _ => Nat.zero_le _⟩ hcv⟩ (by omega)
    · refine w_if_eq d_X3_choose_124 (fun _ => ?_) (fun h124 => absurd h124 (by decide))
      first | refine v_iinc (ls' := [_, _, _]) d_X3_choose_129 rfl (x_inc_1 _) (Nat.le_of_ble_eq_true rfl) rfl ?_ | refine v_iinc (ls' := [_, _, _]) d_X3_choose_129 rfl rfl (Nat.le_of_ble_eq_true rfl) rfl ?_
      refine v_goto d_X3_choose_132 ?_
      refine ih (q + 1) (by omega) (fun q' hq' C hC => ?_)
      by_cases w : q' = q
      · subst w
        have z9 := zq0 C ⟨by rw [Nat.zero_add]; exact hC, fun i hi => absurd hi (Nat.not_lt_zero _), fun _ => Nat.zero_le _⟩
        rw [Nat.zero_add] at z9
        exact z9
      · exact hsm q' (by omega) C hC

set_option maxRecDepth 100000 in
set_option maxHeartbeats 4000000 in
theorem t_X3_choose {K : x_K} {S : x_S} {P : x_P} {I : x_I} {J : x_J} {n : Nat} {x : Int32} (L : Nat → Nat → Option Nat) (m T M wm : Nat) (hm : m ≤ 16) (hT : T ≤ 6) (hc : I 24 6 = nI m) (hb : I 24 7 = nI M) (hM8 : M ≤ 128) (hbits : ∀ k b, k < m → b < 128 → (p_on J k b = true ↔ p_b L k T b)) (hbr : ∀ k, k < m → x_ct (p_on J k) 128 ≤ M) (hwm : wm ≤ 3840) (hx : x = nI wm) (hS : x_hS S) (hP : x_hP P) (hless : f_nl L m T < wm → ∀ J' : x_J, (∀ a j, ¬ a = 29 → ¬ a = 30 → J' a j = J a j) → K (some (.int (-9))) S P I J' n) (hok : wm ≤ f_nl L m T → ∀ (q : Nat) (Q : Nat → Nat) (J' : x_J), (∀ a j, ¬ a = 29 → ¬ a = 30 → J' a j = J a j) → f_least L m T q Q → q ≤ m → K (some (.int (nI q))) S P (x_u2 I 24 8 (nI (h_mk Q q))) J' n) : x_Call f_X3_choose [.ref 24, .int x] K S P I J n := by
  subst hx
  refine x_intro (by decide) 1 (ls := [_, _, _]) rfl (Nat.le_of_ble_eq_true rfl) ?_
  refine v_aload_n d_X3_choose_0 rfl ?_
  refine v_gr d_X3_choose_1 lf_X3_25_3 rfl (hS _ _ rfl) (hP _ _ _ rfl) ?_
  refine v_aload_n d_X3_choose_4 rfl ?_
  refine v_gie d_X3_choose_5 lf_X3_31_3 rfl (hS _ _ rfl) (hc) ?_
  refine v_lconst (v := 0) d_X3_choose_8 rfl ?_
  refine v_last _ d_X3_choose_9 (rfl) (hS _ _ rfl) (⟨by omega, by omega⟩) ?_
  refine v_aload_n d_X3_choose_10 rfl ?_
  refine v_gr d_X3_choose_11 lf_X3_28_3 rfl (hS _ _ rfl) (hP _ _ _ rfl) ?_
  refine v_aload_n d_X3_choose_14 rfl ?_
  refine v_gie d_X3_choose_15 lf_X3_31_3 rfl (hS _ _ rfl) (hc) ?_
  refine v_lconst (v := 0) d_X3_choose_18 rfl ?_
  refine v_last _ d_X3_choose_19 (rfl) (hS _ _ rfl) (⟨by omega, by omega⟩) ?_
  refine v_aload_n d_X3_choose_20 rfl ?_
  refine v_gie d_X3_choose_21 lf_X3_31_3 rfl (hS _ _ rfl) (hc) ?_
  refine v_iconst (v := nI 1) d_X3_choose_24 x_ic_1 ?_
  refine v_isub d_X3_choose_25 ?_
  refine v_istore_n (ls' := [_, _, _]) d_X3_choose_26 (by decide) rfl ?_
  have zrs0 : ∀ j b, m ≤ j → j ≤ m → b < 128 → (x_on (x_u2 (x_u2 J 29 m 0) 30 m 0 29 j) (x_u2 (x_u2 J 29 m 0) 30 m 0 30 j) b = true ↔ ∃ i, j ≤ i ∧ i < m ∧ p_on (x_u2 (x_u2 J 29 m 0) 30 m 0) i b = true) := fun j b h1 h2 hb1 => by
    have ej : j = m := by omega
    subst ej
    have e3 : x_u2 (x_u2 J 29 j 0) 30 j 0 29 j = 0 := by rw [x_u2_na _ _ _ _ (by decide), x_u2_s]
    rw [e3, x_u2_s]
    exact ⟨(fun z => by unfold x_on at z; rw [x_lb_0, x_lb_0] at z; split at z <;> cases z), fun ⟨i, i1, i2, _⟩ => by omega⟩
  have zcont : ∀ J2 : x_J, (∀ j b, 0 ≤ j → j ≤ m → b < 128 → (x_on (J2 29 j) (J2 30 j) b = true ↔ ∃ i, j ≤ i ∧ i < m ∧ p_on (x_u2 (x_u2 J 29 m 0) 30 m 0) i b = true)) → (∀ a j, ¬ a = 29 → ¬ a = 30 → J2 a j = x_u2 (x_u2 J 29 m 0) 30 m 0 a j) → x_V f_X3_choose K 79 [some (.ref 24), some (.int (nI wm)), none] [] S P I J2 n 0 0 := by
    intro J2 zrs zfr0
    have zfr : ∀ a j, ¬ a = 29 → ¬ a = 30 → J2 a j = J a j := fun a j h1 h2 => (zfr0 a j h1 h2).trans (by rw [x_u2_na _ _ _ _ h2, x_u2_na _ _ _ _ h1])
    have zpo : ∀ k b, p_on J2 k b = p_on J k b := fun k b => by unfold p_on; rw [zfr 27 _ (by decide) (by decide), zfr 28 _ (by decide) (by decide)]
    have zpo0 : ∀ k b, p_on (x_u2 (x_u2 J 29 m 0) 30 m 0) k b = p_on J k b := fun k b => by
      unfold p_on
      rw [x_u2_na _ _ _ _ (by decide), x_u2_na _ _ _ _ (by decide), x_u2_na _ _ _ _ (by decide), x_u2_na _ _ _ _ (by decide)]
    simp only [zpo0] at zrs
    have hD : p_D L m T M J2 := by
      refine ⟨hm, hM8, p_cov hm hT (fun k b hk hb1 => by rw [zpo]; exact hbits k b hk hb1), fun k b hk hb1 => ?_, fun k hk => ?_⟩
      · simp only [zpo]; exact zrs k b (Nat.zero_le _) hk hb1
      · rw [x_ct_cg 128 (fun b _ => zpo k b)]; exact hbr k hk
    have znl : x_ct (x_on (J2 29 0) (J2 30 0)) 128 = f_nl L m T := p_nl hm hT (fun b hb1 => by
      rw [zrs 0 b (Nat.le_refl _) (Nat.zero_le _) hb1]
      constructor
      · intro ⟨i, _, i2, i3⟩; exact ⟨i, i2, (hbits i b i2 hb1).mp i3⟩
      · intro ⟨i, i2, i3⟩; exact ⟨i, Nat.zero_le _, i2, (hbits i b i2 hb1).mpr i3⟩)
    refine v_aload_n d_X3_choose_79 rfl ?_
    refine v_gr d_X3_choose_80 lf_X3_25_3 rfl (hS _ _ rfl) (hP _ _ _ rfl) ?_
    refine v_iconst (v := nI 0) d_X3_choose_83 x_ic_0 ?_
    refine v_lald _ d_X3_choose_84 (rfl) (hS _ _ rfl) (⟨by omega, by omega⟩) (rfl) ?_
    refine v_cs (as := [_]) (rest := []) d_X3_choose_85 ls_X3_45 rfl ⟨by decide, by decide⟩ rfl (Nat.le_of_ble_eq_true rfl) (by decide) (by decide) ?_
    refine t_bitL ?_
    refine v_aload_n d_X3_choose_88 rfl ?_
    refine v_gr d_X3_choose_89 lf_X3_28_3 rfl (hS _ _ rfl) (hP _ _ _ rfl) ?_
    refine v_iconst (v := nI 0) d_X3_choose_92 x_ic_0 ?_
    refine v_lald _ d_X3_choose_93 (rfl) (hS _ _ rfl) (⟨by omega, by omega⟩) (rfl) ?_
    refine v_cs (as := [_]) (rest := [_]) d_X3_choose_94 ls_X3_45 rfl ⟨by decide, by decide⟩ rfl (Nat.le_of_ble_eq_true rfl) (by decide) (by decide) ?_
    refine t_bitL ?_
    refine v_iaddN d_X3_choose_97 ?_
    rw [x_on_pc]
    refine v_iload_n d_X3_choose_98 rfl ?_
    rw [znl]
    have zle : f_nl L m T ≤ 128 := by rw [← znl]; exact x_ct_le _ _
    refine w_icmp_ge d_X3_choose_99 (fun a99 => ?_) (fun a99 => ?_)
    · try simp (disch := omega) only [x_ti, x_tm1] at a99
      refine v_iconst (v := nI 0) d_X3_choose_105 x_ic_0 ?_
      refine v_istore_n (ls' := [_, _, _]) d_X3_choose_106 (by decide) rfl ?_
      exact l_X3_size L m T M hD hc hb hS hP (fun q Q h1 h2 => hok (by omega) q Q J2 zfr h1 h2) (m + 1) 0 (by omega) (fun q' hq' => absurd hq' (Nat.not_lt_zero _))
    · try simp (disch := omega) only [x_ti, x_tm1] at a99
      refine v_bipush (v := (-9)) d_X3_choose_102 x_bp_m9 ?_
      refine v_ret (v := some (.int _)) d_X3_choose_104 rfl ⟨rfl, _, rfl, rfl⟩ (by decide) (by decide) ?_
      exact hless (by omega) J2 zfr
  by_cases zm0 : m = 0
  · rw [show nI m - nI 1 = -1 by rw [zm0]; decide]
    refine v_iload_n d_X3_choose_27 rfl ?_
    refine w_if_lt d_X3_choose_28 (fun a28 => ?_) (fun a28 => False.elim (by exact absurd a28 (by decide)))
    refine x_V.fg1 2 (ls' := [_, _, _]) rfl ?_
    exact zcont _ (fun j b h1 h2 hb1 => zrs0 j b (by omega) h2 hb1) (fun _ _ _ _ => rfl)
  · rw [x_subN (show 1 ≤ m by omega)]
    exact l_X3_rest (x_u2 (x_u2 J 29 m 0) 30 m 0) m hm hc hS hP zcont (m - 1) (m - 1) rfl (by omega) _ (fun j b h1 h2 hb1 => zrs0 j b (by omega) h2 hb1) (fun _ _ _ _ => rfl)

set_option maxRecDepth 100000 in
set_option maxHeartbeats 4000000 in
theorem l_X3_isc {K : x_K} {S : x_S} {P : x_P} {I : x_I} {J : x_J} {n : Nat} (m q c : Nat) (R ho : Nat → Nat) (hm : m ≤ 16) (hc64 : c < 64) (hr : f_row m q R) (ho6 : ∀ k, k < m → ho k < 64) (hinj : ∀ j k, j < m → k < m → ho j = ho k → j = k) (hc : I 24 6 = nI m) (h25 : ∀ k, k < m → I 25 k = nI (ho k)) (h8 : I 24 8 = nI (h_mk R q)) (hS : x_hS S) (hP : x_hP P) (hyes : (∃ i, i < q ∧ ho (R i) = c) → K (some (.int (nI 1))) S P I J n) (hnot : ¬ (∃ i, i < q ∧ ho (R i) = c) → K (some (.int (nI 0))) S P I J n) : ∀ d k : Nat, k + d = m → (∀ j, j < k → ¬ ho j = c) → x_V f_X3_isChosen K 2 [some (.ref 24), some (.int (nI c)), some (.int (nI k))] [] S P I J n 0 0 := by
  intro d
  induction d with
  | zero =>
    intro k hd hj
    refine v_iload_n d_X3_isChosen_2 rfl ?_
    refine v_aload_n d_X3_isChosen_3 rfl ?_
    refine v_gie d_X3_isChosen_4 lf_X3_31_3 rfl (hS _ _ rfl) (hc) ?_
    refine w_icmp_ge d_X3_isChosen_7 (fun h7 => ?_) (fun h7 => False.elim (by (try simp (disch := omega) only [x_ti, x_tm1] at h7); omega))
    refine v_iconst (v := nI 0) d_X3_isChosen_44 x_ic_0 ?_
    refine v_ret (v := some (.int _)) d_X3_isChosen_45 rfl ⟨rfl, _, rfl, rfl⟩ (by decide) (by decide) ?_
    exact hnot (fun ⟨i, i1, i2⟩ => hj (R i) (by have := hr.1 i i1; omega) i2)
  | succ d ih =>
    intro k hd hj
    have hok6 := ho6 k (by omega)
    refine v_iload_n d_X3_isChosen_2 rfl ?_
    refine v_aload_n d_X3_isChosen_3 rfl ?_
    refine v_gie d_X3_isChosen_4 lf_X3_31_3 rfl (hS _ _ rfl) (hc) ?_
    refine w_icmp_ge d_X3_isChosen_7 (fun h7 => False.elim (by (try simp (disch := omega) only [x_ti, x_tm1] at h7); omega)) (fun h7 => ?_)
    refine v_aload_n d_X3_isChosen_10 rfl ?_
    refine v_gr d_X3_isChosen_11 lf_X3_9_3 rfl (hS _ _ rfl) (hP _ _ _ rfl) ?_
    refine v_iload_n d_X3_isChosen_14 rfl ?_
    refine v_iald _ d_X3_isChosen_15 (rfl) (hS _ _ rfl) (⟨by omega, by omega⟩) (h25 k (by omega)) ?_
    refine v_iload_n d_X3_isChosen_16 rfl ?_
    refine w_icmp_ne d_X3_isChosen_17 (fun a17 => ?_) (fun a17 => ?_)
    · first | refine v_iinc (ls' := [_, _, _]) d_X3_isChosen_38 rfl (x_inc_1 _) (by decide) rfl ?_ | refine v_iinc (ls' := [_, _, _]) d_X3_isChosen_38 rfl rfl (by decide) rfl ?_
      refine v_goto d_X3_isChosen_41 ?_
      refine ih (k + 1) (by omega) (fun j h1 => ?_)
      by_cases w : j = k
      · subst w; exact fun z => a17 (by rw [z])
      · exact hj j (by omega)
    · refine v_aload_n d_X3_isChosen_20 rfl ?_
      rw [x_ti (by omega), x_ti (by omega)] at a17
      have zmk : h_mk R q < 2 ^ 16 := h_mk_lt q hr.2 (fun i hi => by have := hr.1 i hi; omega)
      have zbi := h_mk_bi (c := k) q hr.2
      refine v_gie d_X3_isChosen_21 lf_X3_35_3 rfl (hS _ _ rfl) (h8) ?_
      refine v_iload_n d_X3_isChosen_24 rfl ?_
      refine v_ishr d_X3_isChosen_25 ?_
      refine v_iconst (v := nI 1) d_X3_isChosen_26 x_ic_1 ?_
      refine v_iand d_X3_isChosen_27 ?_
      rw [x_sh (by omega) (by omega)]
      refine v_iconst (v := nI 1) d_X3_isChosen_28 x_ic_1 ?_
      refine w_icmp_ne d_X3_isChosen_29 (fun a29 => ?_) (fun a29 => ?_)
      · refine v_iconst (v := nI 0) d_X3_isChosen_36 x_ic_0 ?_
        refine v_ret (v := some (.int _)) d_X3_isChosen_37 rfl ⟨rfl, _, rfl, rfl⟩ (by decide) (by decide) ?_
        exact hnot (fun ⟨i, i1, i2⟩ => a29 (by
          have z2 := hinj (R i) k (hr.1 i i1) (by omega) (by omega)
          have z1 := zbi.mpr ⟨i, i1, z2⟩
          unfold f_bi at z1
          rw [z1]))
      · refine v_iconst (v := nI 1) d_X3_isChosen_32 x_ic_1 ?_
        refine v_goto d_X3_isChosen_33 ?_
        refine v_ret (v := some (.int _)) d_X3_isChosen_37 rfl ⟨rfl, _, rfl, rfl⟩ (by decide) (by decide) ?_
        have z1 : f_bi (h_mk R q) k = 1 := by unfold f_bi; rw [x_ti (by omega), x_ti (by decide)] at a29; omega
        obtain ⟨i, i1, i2⟩ := zbi.mp z1
        exact hyes ⟨i, i1, by rw [i2]; omega⟩

set_option maxRecDepth 100000 in
set_option maxHeartbeats 4000000 in
theorem t_X3_isChosen {K : x_K} {S : x_S} {P : x_P} {I : x_I} {J : x_J} {n : Nat} {x : Int32} (m q c : Nat) (R ho : Nat → Nat) (hm : m ≤ 16) (hc64 : c < 64) (hr : f_row m q R) (ho6 : ∀ k, k < m → ho k < 64) (hinj : ∀ j k, j < m → k < m → ho j = ho k → j = k) (hc : I 24 6 = nI m) (h25 : ∀ k, k < m → I 25 k = nI (ho k)) (h8 : I 24 8 = nI (h_mk R q)) (hx : x = nI c) (hS : x_hS S) (hP : x_hP P) (hyes : (∃ i, i < q ∧ ho (R i) = c) → K (some (.int (nI 1))) S P I J n) (hnot : ¬ (∃ i, i < q ∧ ho (R i) = c) → K (some (.int (nI 0))) S P I J n) : x_Call f_X3_isChosen [.ref 24, .int x] K S P I J n := by
  subst hx
  refine x_intro (by decide) 1 (ls := [_, _, _]) rfl (Nat.le_of_ble_eq_true rfl) ?_
  refine v_iconst (v := nI 0) d_X3_isChosen_0 x_ic_0 ?_
  refine v_istore_n (ls' := [_, _, _]) d_X3_isChosen_1 (by decide) rfl ?_
  exact l_X3_isc m q c R ho hm hc64 hr ho6 hinj hc h25 h8 hS hP hyes hnot m 0 (by omega) (fun j hj => absurd hj (Nat.not_lt_zero _))

