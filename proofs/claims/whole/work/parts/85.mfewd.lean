theorem x_ct_find {p : Nat → Bool} : ∀ {n k : Nat}, k < x_ct p n → ∃ c, c < n ∧ p c = true ∧ x_ct p c = k
  | 0, k, h => absurd h (Nat.not_lt_zero _)
  | n + 1, k, h => by
    by_cases hp : p n = true
    · by_cases e : k = x_ct p n
      · exact ⟨n, Nat.lt_succ_self _, hp, e.symm⟩
      · have h2 := x_ct_y hp
        obtain ⟨c, c1, c2, c3⟩ := x_ct_find (p := p) (n := n) (k := k) (by omega)
        exact ⟨c, by omega, c2, c3⟩
    · have h2 := x_ct_n (p := p) (k := n) (Bool.eq_false_iff.mpr hp)
      obtain ⟨c, c1, c2, c3⟩ := x_ct_find (p := p) (n := n) (k := k) (by omega)
      exact ⟨c, by omega, c2, c3⟩
theorem h_ho_in {Z : x_I} {p k : Nat} (hm : m_fo Z p) (hk : k < h_m Z p) : r_may Z p (h_ho Z p k) ∧ ((h_ho Z p k : Nat) : Int) < m_ce Z p ∧ h_ho Z p k < 64 ∧ x_ct (h_mb Z p) (h_ho Z p k) = k := by
  have hc := m_ce_in hm
  obtain ⟨c, c1, c2, c3⟩ := x_ct_find hk
  have e : h_ho Z p k = c := by unfold h_ho; rw [← c3]; exact h_fd_eq c2 64 (by omega)
  rw [e]
  refine ⟨Classical.byContradiction fun w => ?_, by omega, by omega, c3⟩
  rw [h_mb_f w] at c2
  cases c2
theorem h_ho_inj {Z : x_I} {p j k : Nat} (hm : m_fo Z p) (hj : j < h_m Z p) (hk : k < h_m Z p) (h : h_ho Z p j = h_ho Z p k) : j = k := by
  have h1 := (h_ho_in hm hj).2.2.2
  have h2 := (h_ho_in hm hk).2.2.2
  rw [← h1, ← h2, h]
theorem h_L_ok {Z : x_I} {p : Nat} (hp : p < m_ns Z) (hh : 0 ≤ (Z 39 24).toInt ∧ (Z 39 24).toInt ≤ 6) (hws : g_ws Z) (hn : 0 ≤ (Z 39 2).toInt ∧ (Z 39 2).toInt ≤ 10) (hfo : ∀ s, s < m_ns Z → m_fo Z s) : h_lok (h_L Z p) (h_m Z p) (m_nh Z) ∧ ∀ k t a, k < h_m Z p → t < m_nh Z → h_L Z p k t = some a → ¬ (Z 54 a).toInt = 0 := by
  have h7 : m_nh Z = (Z 39 24).toInt.toNat := rfl
  constructor
  · intro k t a hk ht ha
    have hin := h_ho_in (hfo p hp) hk
    unfold h_L h_pl at ha
    cases ho : (r_lit Z p t (h_ho Z p k)).1 with
    | none => rw [ho] at ha; cases ha
    | some w =>
      obtain ⟨s, d⟩ := w
      rw [ho] at ha
      cases ha
      have hl := r_lit_in (show t < 6 by omega) hws (hfo p hp) hin.2.1 hfo ho
      have : m_ns Z = (Z 39 2).toInt.toNat := rfl
      have h1 := hl.1
      have h2 := hl.2.2.1
      exact ⟨by omega, by omega⟩
  · intro k t a hk ht ha
    have hin := h_ho_in (hfo p hp) hk
    have hmay := hin.1 t ht
    unfold h_L h_pl at ha
    unfold r_may1 at hmay
    cases ho : (r_lit Z p t (h_ho Z p k)).1 with
    | none => rw [ho] at ha; cases ha
    | some w =>
      obtain ⟨s, d⟩ := w
      rw [ho] at ha hmay
      cases ha
      exact hmay
theorem m_wm_cg {Z Z' : x_I} (h : ∀ k, Z' 54 k = Z 54 k) : m_wm Z' = m_wm Z := by
  unfold m_wm
  exact x_ct_cg 3840 (fun k _ => by rw [h])
theorem x_ex.CF {I I' : x_I} {J J' : x_J} (h : x_ex mC I I' J J') : x_ex mF I I' J J' := fun a k hk => h a k (by
  cases hc : mC a k with
  | false => rfl
  | true =>
    have e : a = 58 := Nat.eq_of_beq_eq_true hc
    subst e; cases hk)
theorem x_ex.LF {I I' : x_I} {J J' : x_J} (h : x_ex mL I I' J J') : x_ex mF I I' J J' := fun a k hk => h a k (by
  cases hc : mL a k with
  | false => rfl
  | true =>
    have e : a = 57 := Nat.eq_of_beq_eq_true hc
    subst e; cases hk)
theorem x_ex.BF {I I' : x_I} {J J' : x_J} (h : x_ex mB I I' J J') : x_ex mF I I' J J' := fun a k hk => h a k (by
  cases hc : mB a k with
  | false => rfl
  | true =>
    unfold mB at hc
    rw [Bool.and_eq_true] at hc
    have h1 := Nat.le_of_ble_eq_true hc.1
    have h2 := Nat.le_of_ble_eq_true hc.2
    rcases (show a = 59 ∨ a = 60 ∨ a = 61 by omega) with rfl | rfl | rfl <;> cases hk)

set_option maxRecDepth 100000 in
set_option maxHeartbeats 4000000 in
theorem l_ff_id {K : x_K} {S : x_S} {P : x_P} {n : Nat} {I0 : x_I} {J : x_J} (m : Nat) (hm : m ≤ 16) (hmm : I0 39 28 = nI m) (hS : x_hS S) (hP : x_hP P) (hc : ∀ I : x_I, x_ex mC I0 I J J → (∀ i, i < m → I 58 i = nI i) → x_V f_X12_findFewest K 167 [some (.ref 39), some (.int (nI m)), none, none, none, none, none, none, none, none, none] [] S P I J n 0 0) :
    ∀ d k : Nat, k + d = m → ∀ I : x_I, x_ex mC I0 I J J → (∀ i, i < k → I 58 i = nI i) → x_V f_X12_findFewest K 146 [some (.ref 39), some (.int (nI k)), none, none, none, none, none, none, none, none, none] [] S P I J n 0 0 := by
  intro d
  induction d with
  | zero =>
    intro k hd I hex r58
    refine v_iload_n d_X12_findFewest_146 rfl ?_
    refine v_aload_n d_X12_findFewest_147 rfl ?_
    refine v_gie d_X12_findFewest_148 lf_X12_241_12 rfl (hS _ _ rfl) ((hex.i 39 28 rfl).trans hmm) ?_
    refine w_icmp_ge d_X12_findFewest_151 (fun h151 => ?_) (fun h151 => False.elim (by (try simp (disch := omega) only [x_ti, x_tm1] at h151); omega))
    have e1 : k = m := by omega
    subst e1
    exact hc I hex r58
  | succ d ih =>
    intro k hd I hex r58
    refine v_iload_n d_X12_findFewest_146 rfl ?_
    refine v_aload_n d_X12_findFewest_147 rfl ?_
    refine v_gie d_X12_findFewest_148 lf_X12_241_12 rfl (hS _ _ rfl) ((hex.i 39 28 rfl).trans hmm) ?_
    refine w_icmp_ge d_X12_findFewest_151 (fun h151 => False.elim (by (try simp (disch := omega) only [x_ti, x_tm1] at h151); omega)) (fun h151 => ?_)
    refine v_aload_n d_X12_findFewest_154 rfl ?_
    refine v_gr d_X12_findFewest_155 lf_X12_69_12 rfl (hS _ _ rfl) (hP _ _ _ rfl) ?_
    refine v_iload_n d_X12_findFewest_158 rfl ?_
    refine v_iload_n d_X12_findFewest_159 rfl ?_
    refine v_iast _ d_X12_findFewest_160 (rfl) (hS _ _ rfl) (⟨by omega, by omega⟩) ?_
    first | refine v_iinc (ls' := [_, _, _, _, _, _, _, _, _, _, _]) d_X12_findFewest_161 rfl (x_inc_1 _) (by decide) rfl ?_ | refine v_iinc (ls' := [_, _, _, _, _, _, _, _, _, _, _]) d_X12_findFewest_161 rfl rfl (by decide) rfl ?_
    refine v_goto d_X12_findFewest_164 ?_
    refine ih (k + 1) (by omega) _ (hex.ui rfl) (fun i hi => ?_)
    rw [x_u2_at]
    by_cases e : i = k
    · subst e; rw [if_pos ⟨rfl, rfl⟩]
    · rw [if_neg (fun z => e z.2)]; exact r58 i (by omega)

set_option maxRecDepth 100000 in
set_option maxHeartbeats 4000000 in
theorem t_X12_findFewest {K : x_K} {S : x_S} {P : x_P} {I : x_I} {J : x_J} {n : Nat} (p : Nat) (hpl : I 39 26 = nI p) (hp : p < m_ns I) (hh : 0 ≤ (I 39 24).toInt ∧ (I 39 24).toInt ≤ 6) (hws : g_ws I) (hn : 0 ≤ (I 39 2).toInt ∧ (I 39 2).toInt ≤ 10) (hfo : ∀ s, s < m_ns I → m_fo I s) (hS : x_hS S) (hP : x_hP P) (hK : ∀ (r : Int32) (I' : x_I) (J' : x_J), x_ex mF I I' J J' → r = q_fst I p → (0 ≤ r.toInt → ∃ q R, f_least (h_L I p) (h_m I p) (m_nh I) q R ∧ r = nI q ∧ q ≤ h_m I p ∧ h_m I p ≤ 16 ∧ (∀ k, k < h_m I p → I' 55 k = nI (h_ho I p k)) ∧ (∀ i, i < q → I' 58 i = nI (R i))) → K (some (.int r)) S P I' J' n) : x_Call f_X12_findFewest [.ref 39] K S P I J n := by
  refine x_intro (by decide) 10 (ls := [_, _, _, _, _, _, _, _, _, _, _]) rfl (Nat.le_of_ble_eq_true rfl) ?_
  refine v_aload_n d_X12_findFewest_0 rfl ?_
  refine v_iconst (v := nI 0) d_X12_findFewest_1 x_ic_0 ?_
  refine v_pi d_X12_findFewest_2 (lp_X12_241_12 _) rfl (hS _ _ rfl) (rfl) rfl ?_
  refine v_iconst (v := nI 0) d_X12_findFewest_5 x_ic_0 ?_
  refine v_istore_n (ls' := [_, _, _, _, _, _, _, _, _, _, _]) d_X12_findFewest_6 (by decide) rfl ?_
  have h7 : m_nh I = (I 39 24).toInt.toNat := rfl
  have hmc := m_ce_in (hfo p hp)
  have hlo := h_L_ok hp hh hws hn hfo
  refine l_ff_c I J p hpl hp hh hws hn hfo hS hP hK ?_ (m_ce I p).toNat 0 (by omega) _ J (x_ex.rf.ui rfl) rfl (by show 0 ≤ 16; omega) (fun k hk => absurd hk (Nat.not_lt_zero _)) (fun k t hk => absurd hk (Nat.not_lt_zero _))
  intro I3 J3 hex3 r28 hm16 r55 r56
  refine l_ff_id (h_m I p) hm16 r28 hS hP (I0 := I3) ?_ (h_m I p) 0 (by omega) I3 x_ex.rf (fun i hi => absurd hi (Nat.not_lt_zero _))
  intro I4 hexC r58
  have hxa := hex3.tr hexC.CF
  have hx28 := (hexC.i 39 28 rfl).trans r28
  refine v_aload_n d_X12_findFewest_167 rfl ?_
  refine v_aload_n d_X12_findFewest_168 rfl ?_
  refine v_gie d_X12_findFewest_169 lf_X12_241_12 rfl (hS _ _ rfl) (rfl) ?_
  refine v_cv (as := [_]) (rest := []) d_X12_findFewest_172 lv_X12_244_12 (hS _ _ rfl) rfl ⟨by decide, by decide⟩ rfl (Nat.le_of_ble_eq_true rfl) (by decide) (by decide) ?_
  refine t_X12_doLight (m := h_m I p) hx28 (h_L I p) (m_nh I) hm16 (by unfold m_nh; rw [hxa.i 39 24 rfl]) (by rw [hxa.i 39 24 rfl]; omega) (by omega) hlo.1 (fun k t a hk ht ha => by rw [hxa.i 54 _ rfl]; exact hlo.2 k t a hk ht ha) (fun k t hk ht => (hexC.i 56 _ rfl).trans (r56 k t hk ht)) r58 hS hP (fun zw I5 J5 x5 r56b => ?_) (fun zw I5 J5 x5 => ?_)
  · have hxb := hxa.tr x5.LF
    have zw : f_nl (h_L I p) (h_m I p) (m_nh I) = m_wm I := zw.trans (m_wm_cg (fun k => hxa.i 54 k rfl))
    refine w_if_ne d_X12_findFewest_175 (fun _ => ?_) (fun h175 => absurd h175 (by decide))
    refine v_aload_n d_X12_findFewest_181 rfl ?_
    refine v_cv (as := []) (rest := []) d_X12_findFewest_182 lv_X12_247_12 (hS _ _ rfl) rfl ⟨by decide, by decide⟩ rfl (Nat.le_of_ble_eq_true rfl) (by decide) (by decide) ?_
    refine t_X12_findBits (h_L I p) (h_m I p) (m_nh I) hm16 (by rw [hxb.i 39 24 rfl]; omega) (by omega) ((x5.i 39 28 rfl).trans hx28) hlo.1 r56b hS hP (fun N I6 J6 x6 hbm => ?_)
    have hxc := hxb.tr x6.BF
    have z28 := (x6.i 39 28 rfl).trans ((x5.i 39 28 rfl).trans hx28)
    refine v_istore_n (ls' := [_, _, _, _, _, _, _, _, _, _, _]) d_X12_findFewest_185 (by decide) rfl ?_
    refine v_iconst (v := nI 0) d_X12_findFewest_186 x_ic_0 ?_
    refine v_istore_n (ls' := [_, _, _, _, _, _, _, _, _, _, _]) d_X12_findFewest_187 (by decide) rfl ?_
    refine l_ff_sz (h_L I p) N (h_m I p) (m_nh I) hm16 z28 hbm hS hP (I0 := I6) (fun q I7 R x7 r7 hle hqm => ?_) (h_m I p + 1) 0 (by omega) I6 x_ex.rf (fun q' hq' => absurd hq' (Nat.not_lt_zero _))
    refine hK _ I7 J6 (hxc.tr x7.CF) ?_ (fun _ => ⟨q, R, hle, rfl, hqm, hm16, fun k hk => ?_, r7⟩)
    · unfold q_fst
      rw [x_if_f (by omega), x_if_f (fun w => w zw), (f_N_eq hle).1]
    · rw [x7.i 55 _ rfl, x6.i 55 _ rfl, x5.i 55 _ rfl, hexC.i 55 _ rfl]; exact r55 k hk
  · have hxb := hxa.tr x5.LF
    have zw : ¬ f_nl (h_L I p) (h_m I p) (m_nh I) = m_wm I := fun w => zw (w.trans (m_wm_cg (fun k => hxa.i 54 k rfl)).symm)
    refine w_if_ne d_X12_findFewest_175 (fun h175 => absurd h175 (by decide)) (fun _ => ?_)
    refine v_bipush (v := (-9)) d_X12_findFewest_178 x_bp_m9 ?_
    refine v_ret (v := some (.int _)) d_X12_findFewest_180 rfl ⟨rfl, _, rfl, rfl⟩ (by decide) (by decide) ?_
    refine hK _ I5 J5 hxb (by unfold q_fst; rw [x_if_f (by omega), x_if_t zw]) (fun w => absurd w (by decide))

set_option maxRecDepth 100000 in
set_option maxHeartbeats 4000000 in
theorem t_X12_fewest {K : x_K} {S : x_S} {P : x_P} {I : x_I} {J : x_J} {n : Nat} (mi : m_I I) (hS : x_hS S) (hP : x_hP P) (hK : ∀ (I' : x_I) (J' : x_J), x_ex mF I I' J J' → K (some (.int (q_fewest I))) S P I' J' n) : x_Call f_X12_fewest [.ref 39] K S P I J n := by
  have t9 : (-9 : Int32).toInt = -9 := by decide
  refine x_intro (by decide) 0 (ls := [_]) rfl (Nat.le_of_ble_eq_true rfl) ?_
  refine v_aload_n d_X12_fewest_0 rfl ?_
  refine v_gi d_X12_fewest_1 lf_X12_53_12 rfl (hS _ _ rfl) ?_
  refine v_bipush (v := (-9)) d_X12_fewest_4 x_bp_m9 ?_
  refine w_icmp_ne d_X12_fewest_6 (fun a6 => ?_) (fun a6 => ?_)
  · have zpt := mi.pt.resolve_left (fun w => a6 (by rw [t9]; exact w))
    have zp1 := zpt.1
    have zp2 := zpt.2
    obtain ⟨p, hpl, zp3, zp4, zp5⟩ := x_ex1 (s := I 39 26) zp1
    have h9 : m_ns I = (I 39 2).toInt.toNat := rfl
    have ec0 : ¬ (I 39 26).toInt = -9 := fun w => a6 (by rw [t9]; exact w)
    refine v_aload_n d_X12_fewest_14 rfl ?_
    refine v_cv (as := []) (rest := []) d_X12_fewest_15 lv_X12_254_12 (hS _ _ rfl) rfl ⟨by decide, by decide⟩ rfl (Nat.le_of_ble_eq_true rfl) (by decide) (by decide) ?_
    refine t_X12_findFewest p hpl (by omega) mi.hh mi.ws mi.hn mi.fo hS hP (fun r I' J' h1 hr hx => ?_)
    refine v_ret (v := some (.int _)) d_X12_fewest_18 rfl ⟨rfl, _, rfl, rfl⟩ (by decide) (by decide) ?_
    simp only [q_fewest, x_if_f ec0, zp5, ← hr] at hK
    exact hK I' J' h1
  · refine v_bipush (v := (-3)) d_X12_fewest_9 x_bp_m3 ?_
    refine v_goto d_X12_fewest_11 ?_
    refine v_ret (v := some (.int _)) d_X12_fewest_18 rfl ⟨rfl, _, rfl, rfl⟩ (by decide) (by decide) ?_
    simp only [q_fewest, x_if_t (show (I 39 26).toInt = -9 by rw [← t9]; exact a6)] at hK
    exact hK I J x_ex.rf

set_option maxRecDepth 100000 in
set_option maxHeartbeats 4000000 in
theorem l_X12_hole {K : x_K} {S : x_S} {P : x_P} {I : x_I} {J : x_J} {n : Nat} (c q m : Nat) (R ho : Nat → Nat) (hc : c < 64) (hm : m ≤ 16) (hqm : q ≤ m) (hr : f_row m q R) (ho6 : ∀ k, k < m → ho k < 64) (r55 : ∀ k, k < m → I 55 k = nI (ho k)) (r58 : ∀ i, i < q → I 58 i = nI (R i)) (hS : x_hS S) (hP : x_hP P) (hyes : (∃ i, i < q ∧ ho (R i) = c) → K (some (.int (nI 1))) S P I J n) (hno : (∀ i, i < q → ¬ ho (R i) = c) → K (some (.int (nI 0))) S P I J n) :
    ∀ d k : Nat, k + d = q → (∀ i, i < k → ¬ ho (R i) = c) → x_V f_X12_hole K 39 [some (.ref 39), some (.int (nI c)), some (.int (nI q)), some (.int (nI k))] [] S P I J n 0 0 := by
  intro d
  induction d with
  | zero =>
    intro k hd hj
    refine v_iload_n d_X12_hole_39 rfl ?_
    refine v_iload_n d_X12_hole_40 rfl ?_
    refine w_icmp_ge d_X12_hole_41 (fun h41 => ?_) (fun h41 => False.elim (by (try simp (disch := omega) only [x_ti, x_tm1] at h41); omega))
    refine v_iconst (v := nI 0) d_X12_hole_67 x_ic_0 ?_
    refine v_ret (v := some (.int _)) d_X12_hole_68 rfl ⟨rfl, _, rfl, rfl⟩ (by decide) (by decide) ?_
    exact hno (fun i hi => hj i (by omega))
  | succ d ih =>
    intro k hd hj
    refine v_iload_n d_X12_hole_39 rfl ?_
    refine v_iload_n d_X12_hole_40 rfl ?_
    refine w_icmp_ge d_X12_hole_41 (fun h41 => False.elim (by (try simp (disch := omega) only [x_ti, x_tm1] at h41); omega)) (fun h41 => ?_)
    refine v_aload_n d_X12_hole_44 rfl ?_
    refine v_gr d_X12_hole_45 lf_X12_60_12 rfl (hS _ _ rfl) (hP _ _ _ rfl) ?_
    refine v_aload_n d_X12_hole_48 rfl ?_
    refine v_gr d_X12_hole_49 lf_X12_69_12 rfl (hS _ _ rfl) (hP _ _ _ rfl) ?_
    refine v_iload_n d_X12_hole_52 rfl ?_
    refine v_iald _ d_X12_hole_53 (rfl) (hS _ _ rfl) (⟨by omega, by omega⟩) (r58 k (by omega)) ?_
    refine v_iald _ d_X12_hole_54 (rfl) (hS _ _ rfl) (⟨by have := hr.1 k (by omega); omega, by have := hr.1 k (by omega); omega⟩) (r55 (R k) (hr.1 k (by omega))) ?_
    refine v_iload_n d_X12_hole_55 rfl ?_
    refine w_icmp_ne d_X12_hole_56 (fun a56 => ?_) (fun a56 => ?_)
    · first | refine v_iinc (ls' := [_, _, _, _]) d_X12_hole_61 rfl (x_inc_1 _) (by decide) rfl ?_ | refine v_iinc (ls' := [_, _, _, _]) d_X12_hole_61 rfl rfl (by decide) rfl ?_
      refine v_goto d_X12_hole_64 ?_
      refine ih (k + 1) (by omega) (fun i hi => ?_)
      by_cases e : i = k
      · subst e; exact fun w => a56 (by rw [w])
      · exact hj i (by omega)
    · refine v_iconst (v := nI 1) d_X12_hole_59 x_ic_1 ?_
      refine v_ret (v := some (.int _)) d_X12_hole_60 rfl ⟨rfl, _, rfl, rfl⟩ (by decide) (by decide) ?_
      exact hyes ⟨k, by omega, by rw [x_ti (by have := ho6 (R k) (hr.1 k (by omega)); omega), x_ti (by omega)] at a56; omega⟩

set_option maxRecDepth 100000 in
set_option maxHeartbeats 4000000 in
theorem t_X12_hole {K : x_K} {S : x_S} {P : x_P} {I : x_I} {J : x_J} {n : Nat} {c : Int32} (mi : m_I I) (hS : x_hS S) (hP : x_hP P) (hK : ∀ (I' : x_I) (J' : x_J), x_ex mF I I' J J' → K (some (.int (q_hole I c))) S P I' J' n) : x_Call f_X12_hole [.ref 39, .int c] K S P I J n := by
  have t9 : (-9 : Int32).toInt = -9 := by decide
  refine x_intro (by decide) 2 (ls := [_, _, _, _]) rfl (Nat.le_of_ble_eq_true rfl) ?_
  refine v_aload_n d_X12_hole_0 rfl ?_
  refine v_gi d_X12_hole_1 lf_X12_53_12 rfl (hS _ _ rfl) ?_
  refine v_bipush (v := (-9)) d_X12_hole_4 x_bp_m9 ?_
  refine w_icmp_ne d_X12_hole_6 (fun a6 => ?_) (fun a6 => ?_)
  · refine v_aload_n d_X12_hole_12 rfl ?_
    refine v_aload_n d_X12_hole_13 rfl ?_
    refine v_gi d_X12_hole_14 lf_X12_53_12 rfl (hS _ _ rfl) ?_
    refine v_iload_n d_X12_hole_17 rfl ?_
    refine v_cv (as := [_, _]) (rest := []) d_X12_hole_18 lv_X12_146_12 (hS _ _ rfl) rfl ⟨by decide, by decide⟩ rfl (Nat.le_of_ble_eq_true rfl) (by decide) (by decide) ?_
    refine t_X12_isCell mi.hn.2 hS hP (fun zc => ?_) (fun zc => ?_)
    · have zpt := mi.pt.resolve_left (fun w => a6 (by rw [t9]; exact w))
      have zp1 := zpt.1
      have zp2 := zpt.2
      obtain ⟨p, hpl, zp3, zp4, zp5⟩ := x_ex1 (s := I 39 26) zp1
      have h9 : m_ns I = (I 39 2).toInt.toNat := rfl
      have ec0 : ¬ (I 39 26).toInt = -9 := fun w => a6 (by rw [t9]; exact w)
      have ec1 : ¬ ¬ g_ce I (I 39 26) c := fun w => w zc
      have zc3 := zc.2.1
      have zc4 := zc.2.2
      obtain ⟨j, rfl, hk_j, t_j, y_j⟩ := x_ex1 (s := c) (zc3)
      have hmc := m_ce_in (mi.fo p (by omega))
      rw [zp5] at zc4
      refine w_if_ne d_X12_hole_21 (fun _ => ?_) (fun h21 => absurd h21 (by decide))
      refine v_aload_n d_X12_hole_26 rfl ?_
      refine v_cv (as := []) (rest := []) d_X12_hole_27 lv_X12_254_12 (hS _ _ rfl) rfl ⟨by decide, by decide⟩ rfl (Nat.le_of_ble_eq_true rfl) (by decide) (by decide) ?_
      refine t_X12_findFewest p hpl (by omega) mi.hh mi.ws mi.hn mi.fo hS hP (fun r I' J' h1 hr hx => ?_)
      refine v_istore_n (ls' := [_, _, _, _]) d_X12_hole_30 (by decide) rfl ?_
      refine v_iload_n d_X12_hole_31 rfl ?_
      refine w_if_ge d_X12_hole_32 (fun a32 => ?_) (fun a32 => ?_)
      · refine v_iconst (v := nI 0) d_X12_hole_37 x_ic_0 ?_
        refine v_istore_n (ls' := [_, _, _, _]) d_X12_hole_38 (by decide) rfl ?_
        obtain ⟨q, R, hle, e1, e2, e3, r55, r58⟩ := hx a32
        subst e1
        have hN := f_N_eq hle
        have ec2 : ¬ (nI q).toInt < 0 := by omega
        have hfp := mi.fo p (by omega)
        refine l_X12_hole j q (h_m I p) R (h_ho I p) (by omega) e3 e2 hle.1 (fun k hk => (h_ho_in hfp hk).2.2.1) r55 r58 hS hP (fun w => ?_) (fun w => ?_) q 0 (by omega) (fun i hi => absurd hi (Nat.not_lt_zero _))
        · have ec3 : ∃ i, i < f_N (h_L I p) (h_m I p) (m_nh I) ∧ h_ho I p (f_R (h_L I p) (h_m I p) (m_nh I) i) = j := by
            obtain ⟨i, i1, i2⟩ := w
            exact ⟨i, by rw [hN.1]; exact i1, by rw [hN.2 i i1]; exact i2⟩
          simp only [q_hole, x_if_f ec0, x_if_f ec1, zp5, ← hr, x_if_f ec2, y_j, x_if_t ec3] at hK
          exact hK I' J' h1
        · have ec3 : ¬ ∃ i, i < f_N (h_L I p) (h_m I p) (m_nh I) ∧ h_ho I p (f_R (h_L I p) (h_m I p) (m_nh I) i) = j := by
            intro ⟨i, i1, i2⟩
            rw [hN.1] at i1
            rw [hN.2 i i1] at i2
            exact w i i1 i2
          simp only [q_hole, x_if_f ec0, x_if_f ec1, zp5, ← hr, x_if_f ec2, y_j, x_if_f ec3] at hK
          exact hK I' J' h1
      · refine v_iload_n d_X12_hole_35 rfl ?_
        refine v_ret (v := some (.int _)) d_X12_hole_36 rfl ⟨rfl, _, rfl, rfl⟩ (by decide) (by decide) ?_
        simp only [q_hole, x_if_f ec0, x_if_f ec1, zp5, ← hr, x_if_t a32] at hK
        exact hK I' J' h1
    · refine w_if_ne d_X12_hole_21 (fun h21 => absurd h21 (by decide)) (fun _ => ?_)
      refine v_iconst (v := (-1)) d_X12_hole_24 x_ic_m1 ?_
      refine v_ret (v := some (.int _)) d_X12_hole_25 rfl ⟨rfl, _, rfl, rfl⟩ (by decide) (by decide) ?_
      simp only [q_hole, x_if_f (show ¬ (I 39 26).toInt = -9 from fun w => a6 (by rw [t9]; exact w)), x_if_t (show ¬ g_ce I (I 39 26) c from zc)] at hK
      exact hK I J x_ex.rf
  · refine v_bipush (v := (-3)) d_X12_hole_9 x_bp_m3 ?_
    refine v_ret (v := some (.int _)) d_X12_hole_11 rfl ⟨rfl, _, rfl, rfl⟩ (by decide) (by decide) ?_
    simp only [q_hole, x_if_t (show (I 39 26).toInt = -9 by rw [← t9]; exact a6)] at hK
    exact hK I J x_ex.rf

