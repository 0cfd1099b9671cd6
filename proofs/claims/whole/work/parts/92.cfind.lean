def cM (a _k : Nat) : Bool := Nat.beq a 5 || (Nat.beq a 6 || (Nat.beq a 7 || Nat.beq a 23))
theorem cE_M {a k : Nat} (h : cM a k = false) : cE a k = false := by
  cases hc : cE a k with
  | false => rfl
  | true =>
    unfold cE at hc
    simp only [Bool.or_eq_true, Nat.beq_eq] at hc
    have h2 : a = 5 ∨ a = 6 ∨ a = 7 := by omega
    rcases h2 with rfl | rfl | rfl <;> cases h
theorem cM_F {a k : Nat} (h : cF a k = false) : cM a k = false := by
  cases hc : cM a k with
  | false => rfl
  | true =>
    unfold cM at hc
    simp only [Bool.or_eq_true, Nat.beq_eq] at hc
    have h2 : a = 5 ∨ a = 6 ∨ a = 7 ∨ a = 23 := by omega
    rcases h2 with rfl | rfl | rfl | rfl <;> cases h
theorem x_ex.EM {I I' : x_I} {J J' : x_J} (h : x_ex cE I I' J J') : x_ex cM I I' J J' := fun a k hk => h a k (cE_M hk)
theorem x_ex.MF {I I' : x_I} {J J' : x_J} (h : x_ex cM I I' J J') : x_ex cF I I' J J' := fun a k hk => h a k (cM_F hk)

set_option maxRecDepth 100000 in
set_option maxHeartbeats 4000000 in
theorem l_X4_mayM {K : x_K} {S : x_S} {J : x_J} {n : Nat} {fa : Nat → Nat} {bd : Nat} {Z : x_I} (P0 : x_P) (I0 : x_I) (hR0 : c_R fa bd Z S P0 I0 J n) (mi : m_I Z) (p c : Nat) (hpl : Z 39 26 = nI p) (hp : p < m_ns Z) (hc : (c : Int) < m_ce Z p) (hyes : r_may Z p c → ∀ (P : x_P) (I : x_I), p_ex P0 P → x_ex cM I0 I J J → (∀ t, t < m_nh Z → I 23 t = r_ans (r_lit Z p t c).1) → K (some (.int (nI 1))) S P I J n) (hnot : ¬ r_may Z p c → ∀ (P : x_P) (I : x_I), p_ex P0 P → x_ex cM I0 I J J → K (some (.int (nI 0))) S P I J n) :
    ∀ m k : Nat, k + m = m_nh Z → ∀ (P : x_P) (I : x_I), p_ex P0 P → x_ex cM I0 I J J → (∀ t, t < k → r_may1 Z p c t) → (∀ t, t < k → I 23 t = r_ans (r_lit Z p t c).1) → x_V f_X4_mayHave K 2 [some (.ref 20), some (.int (nI c)), some (.int (nI k)), none] [] S P I J n 0 0 := by
  have hn := mi.hn
  have hfo := mi.fo
  have hh := mi.hh
  have h9 : m_ns Z = (Z 39 2).toInt.toNat := rfl
  have h7 : m_nh Z = (Z 39 24).toInt.toNat := rfl
  have hmc := m_ce_in (hfo p hp)
  intro m
  induction m with
  | zero =>
    intro k hd P I hpe hex hm hv
    have hR := hR0.cgF hex.MF hpe
    have hS := hR.hS
    have hP := hR.hP
    refine v_iload_n d_X4_mayHave_2 rfl ?_
    refine v_aload_n d_X4_mayHave_3 rfl ?_
    refine v_gie d_X4_mayHave_4 lf_X4_41_4 rfl (hS _ _ rfl) (hR.Li.1) ?_
    refine w_icmp_ge d_X4_mayHave_7 (fun h7 => ?_) (fun h7 => False.elim (by (try simp (disch := omega) only [x_ti, x_tm1] at h7); omega))
    refine v_iconst (v := nI 1) d_X4_mayHave_52 x_ic_1 ?_
    refine v_ret (v := some (.int _)) d_X4_mayHave_53 rfl ⟨rfl, _, rfl, rfl⟩ (by decide) (by decide) ?_
    exact hyes (fun t ht => hm t (by omega)) P I hpe hex (fun t ht => hv t (by omega))
  | succ m ih =>
    intro k hd P I hpe hex hm hv
    have hR := hR0.cgF hex.MF hpe
    have hS := hR.hS
    have hP := hR.hP
    refine v_iload_n d_X4_mayHave_2 rfl ?_
    refine v_aload_n d_X4_mayHave_3 rfl ?_
    refine v_gie d_X4_mayHave_4 lf_X4_41_4 rfl (hS _ _ rfl) (hR.Li.1) ?_
    refine w_icmp_ge d_X4_mayHave_7 (fun h7 => False.elim (by (try simp (disch := omega) only [x_ti, x_tm1] at h7); omega)) (fun h7 => ?_)
    refine v_aload_n d_X4_mayHave_10 rfl ?_
    refine v_iload_n d_X4_mayHave_11 rfl ?_
    refine v_iload_n d_X4_mayHave_12 rfl ?_
    refine v_cv (as := [_, _]) (rest := []) d_X4_mayHave_13 lv_X4_99_4 (hS _ _ rfl) rfl ⟨by decide, by decide⟩ rfl (Nat.le_of_ble_eq_true rfl) (by decide) (by decide) ?_
    refine t_X4_shine hR mi p k c hpl hp (by omega) hc rfl rfl (fun P' I' h1 h2 => ?_)
    have hRx := hR.cgE h2 h1
    have hS := hRx.hS
    have hP := hRx.hP
    cases zo : (r_lit Z p k c).1 with
    | none =>
      show x_V f_X4_mayHave K 16 _ [.int (-9)] S P' I' J n 0 0
      refine v_istore_n (ls' := [_, _, _, _]) d_X4_mayHave_16 (by decide) rfl ?_
      refine v_iload_n d_X4_mayHave_17 rfl ?_
      refine w_if_lt d_X4_mayHave_18 (fun _ => ?_) (fun a18 => absurd a18 (by decide))
      refine v_aload_n d_X4_mayHave_39 rfl ?_
      refine v_gr d_X4_mayHave_40 lf_X4_19_4 rfl (hS _ _ rfl) (hP _ _ _ rfl) ?_
      refine v_iload_n d_X4_mayHave_43 rfl ?_
      refine v_iload_n d_X4_mayHave_44 rfl ?_
      refine v_iast _ d_X4_mayHave_45 (rfl) (hS _ _ rfl) (⟨by omega, by omega⟩) ?_
      first | refine v_iinc (ls' := [_, _, _, _]) d_X4_mayHave_46 rfl (x_inc_1 _) (by decide) rfl ?_ | refine v_iinc (ls' := [_, _, _, _]) d_X4_mayHave_46 rfl rfl (by decide) rfl ?_
      refine v_goto d_X4_mayHave_49 ?_
      refine x_V.fg1 3 (ls' := [_, _, _, _]) rfl ?_
      refine ih (k + 1) (by omega) P' _ (hpe.tr h1) ((hex.tr h2.EM).ui (a := 23) (k := k) rfl) (fun t ht => ?_) (fun t ht => ?_)
      · by_cases w : t = k
        · subst w
          unfold r_may1
          rw [zo]
          trivial
        · exact hm t (by omega)
      · rw [x_u2_at]
        by_cases w : t = k
        · subst w; rw [if_pos ⟨rfl, rfl⟩, zo]; rfl
        · rw [if_neg (fun q => w q.2), h2.i 23 t rfl]; exact hv t (by omega)
    | some w0 =>
      obtain ⟨s, d⟩ := w0
      have zin := r_lit_in (show k < 6 by omega) mi.ws (hfo p hp) hc hfo zo
      have zs10 : s < 10 := by have := zin.1; omega
      have zc6 := zin.2.2.1
      have zd1 : (100 * s + d) / 100 = s := by omega
      have zd2 : (100 * s + d) % 100 = d := by omega
      show x_V f_X4_mayHave K 16 _ [.int (nI (100 * s + d))] S P' I' J n 0 0
      refine v_istore_n (ls' := [_, _, _, _]) d_X4_mayHave_16 (by decide) rfl ?_
      refine v_iload_n d_X4_mayHave_17 rfl ?_
      refine w_if_lt d_X4_mayHave_18 (fun a18 => False.elim (by rw [x_ti (by omega)] at a18; omega)) (fun a18 => ?_)
      refine v_aload_n d_X4_mayHave_21 rfl ?_
      refine v_iload_n d_X4_mayHave_22 rfl ?_
      refine v_iload_n d_X4_mayHave_23 rfl ?_
      refine v_bipush (v := nI 100) d_X4_mayHave_24 x_bp_100 ?_
      refine v_idiv d_X4_mayHave_26 (by decide) ?_
      rw [x_divN (by omega) (by decide) (by decide), zd1]
      refine v_iload_n d_X4_mayHave_27 rfl ?_
      refine v_bipush (v := nI 100) d_X4_mayHave_28 x_bp_100 ?_
      refine v_irem d_X4_mayHave_30 (by decide) ?_
      rw [x_remN (by omega) (by decide) (by decide), zd2]
      refine v_cv (as := [_, _, _]) (rest := []) d_X4_mayHave_31 lv_X4_102_4 (hS _ _ rfl) rfl ⟨by decide, by decide⟩ rfl (Nat.le_of_ble_eq_true rfl) (by decide) (by decide) ?_
      refine t_X4_isWanted hRx mi k s d rfl (by omega) rfl (by omega) rfl (by omega) (fun zq => ?_) (fun zq => ?_)
      · refine w_if_ne d_X4_mayHave_34 (fun _ => ?_) (fun h34 => absurd h34 (by decide))
        refine v_aload_n d_X4_mayHave_39 rfl ?_
        refine v_gr d_X4_mayHave_40 lf_X4_19_4 rfl (hS _ _ rfl) (hP _ _ _ rfl) ?_
        refine v_iload_n d_X4_mayHave_43 rfl ?_
        refine v_iload_n d_X4_mayHave_44 rfl ?_
        refine v_iast _ d_X4_mayHave_45 (rfl) (hS _ _ rfl) (⟨by omega, by omega⟩) ?_
        first | refine v_iinc (ls' := [_, _, _, _]) d_X4_mayHave_46 rfl (x_inc_1 _) (by decide) rfl ?_ | refine v_iinc (ls' := [_, _, _, _]) d_X4_mayHave_46 rfl rfl (by decide) rfl ?_
        refine v_goto d_X4_mayHave_49 ?_
        refine x_V.fg1 3 (ls' := [_, _, _, _]) rfl ?_
        refine ih (k + 1) (by omega) P' _ (hpe.tr h1) ((hex.tr h2.EM).ui (a := 23) (k := k) rfl) (fun t ht => ?_) (fun t ht => ?_)
        · by_cases w : t = k
          · subst w
            unfold r_may1
            rw [zo]
            exact zq
          · exact hm t (by omega)
        · rw [x_u2_at]
          by_cases w : t = k
          · subst w; rw [if_pos ⟨rfl, rfl⟩, zo]; rfl
          · rw [if_neg (fun q => w q.2), h2.i 23 t rfl]; exact hv t (by omega)
      · refine w_if_ne d_X4_mayHave_34 (fun h34 => absurd h34 (by decide)) (fun _ => ?_)
        refine v_iconst (v := nI 0) d_X4_mayHave_37 x_ic_0 ?_
        refine v_ret (v := some (.int _)) d_X4_mayHave_38 rfl ⟨rfl, _, rfl, rfl⟩ (by decide) (by decide) ?_
        exact hnot (fun z => by have z1 := z k (by omega); unfold r_may1 at z1; rw [zo] at z1; exact zq z1) P' I' (hpe.tr h1) (hex.tr h2.EM)

set_option maxRecDepth 100000 in
set_option maxHeartbeats 4000000 in
theorem t_X4_mayM {K : x_K} {S : x_S} {P : x_P} {I : x_I} {J : x_J} {n : Nat} {y : Int32} {fa : Nat → Nat} {bd : Nat} {Z : x_I} (hR : c_R fa bd Z S P I J n) (mi : m_I Z) (p c : Nat) (hpl : Z 39 26 = nI p) (hp : p < m_ns Z) (hc : (c : Int) < m_ce Z p) (hy : y = nI c) (hyes : r_may Z p c → ∀ (P' : x_P) (I' : x_I), p_ex P P' → x_ex cM I I' J J → (∀ t, t < m_nh Z → I' 23 t = r_ans (r_lit Z p t c).1) → K (some (.int (nI 1))) S P' I' J n) (hnot : ¬ r_may Z p c → ∀ (P' : x_P) (I' : x_I), p_ex P P' → x_ex cM I I' J J → K (some (.int (nI 0))) S P' I' J n) : x_Call f_X4_mayHave [.ref 20, .int y] K S P I J n := by
  subst hy
  refine x_intro (by decide) 2 (ls := [_, _, _, _]) rfl (Nat.le_of_ble_eq_true rfl) ?_
  refine v_iconst (v := nI 0) d_X4_mayHave_0 x_ic_0 ?_
  refine v_istore_n (ls' := [_, _, _, _]) d_X4_mayHave_1 (by decide) rfl ?_
  exact l_X4_mayM P I hR mi p c hpl hp hc hyes hnot (m_nh Z) 0 (by omega) P I p_ex.rf x_ex.rf (fun t ht => absurd ht (Nat.not_lt_zero _)) (fun t ht => absurd ht (Nat.not_lt_zero _))

set_option maxRecDepth 100000 in
set_option maxHeartbeats 4000000 in
theorem l_X4_ff {K : x_K} {S : x_S} {n : Nat} {fa : Nat → Nat} {bd : Nat} {Z : x_I} (P0 : x_P) (I0 : x_I) (J0 : x_J) (hR0 : c_R fa bd Z S P0 I0 J0 n) (mi : m_I Z) (p : Nat) (hpl : Z 39 26 = nI p) (hp : p < m_ns Z) (hK : ∀ (r : Int32) (P' : x_P) (I' : x_I) (J' : x_J), p_ex P0 P' → x_ex cF I0 I' J0 J' → r = q_fst Z p → (r.toInt = -6 ∨ r.toInt = -9 ∨ (0 ≤ r.toInt ∧ ∃ q R, f_least (h_L Z p) (h_m Z p) (m_nh Z) q R ∧ r = nI q ∧ q ≤ h_m Z p ∧ h_m Z p ≤ 16 ∧ I' 24 6 = nI (h_m Z p) ∧ (∀ k, k < h_m Z p → I' 25 k = nI (h_ho Z p k)) ∧ I' 24 8 = nI (h_mk R q))) → K (some (.int r)) S P' I' J' n) : ∀ d c : Nat, c + d = (m_ce Z p).toNat → ∀ (P : x_P) (I : x_I) (J : x_J) (M : Nat), p_ex P0 P → x_ex cF I0 I J0 J → (x_ct (h_mb Z p) c) ≤ 16 → I 24 6 = nI (x_ct (h_mb Z p) c) → I 24 7 = nI M → M ≤ 128 → (∀ i, i < (x_ct (h_mb Z p) c) → I 25 i = nI (h_ho Z p i)) → (∀ i t, i < (x_ct (h_mb Z p) c) → t < m_nh Z → I 26 (6 * i + t) = h_e Z p (h_ho Z p i) t) → (∀ i b, i < (x_ct (h_mb Z p) c) → b < 128 → (p_on J i b = true ↔ p_b (h_L Z p) i (m_nh Z) b)) → (∀ i, i < (x_ct (h_mb Z p) c) → x_ct (p_on J i) 128 ≤ M) → x_V f_X4_findFewest K 37 [some (.ref 20), none, some (.int (nI (m_ce Z p).toNat)), some (.int (nI c))] [] S P I J n 0 0 := by
  have hn := mi.hn
  have hfo := mi.fo
  have hh := mi.hh
  have h9 : m_ns Z = (Z 39 2).toInt.toNat := rfl
  have h7 : m_nh Z = (Z 39 24).toInt.toNat := rfl
  have hfp := hfo p hp
  have hmc := m_ce_in hfp
  intro d
  induction d with
  | zero =>
    intro c hd P I J M hpe hex hk r6 rM hM8 r25 r26 rb rbr
    have e1 : c = (m_ce Z p).toNat := by omega
    subst e1
    have hk : h_m Z p ≤ 16 := hk
    have r6 : I 24 6 = nI (h_m Z p) := r6
    have r25 : ∀ i, i < h_m Z p → I 25 i = nI (h_ho Z p i) := r25
    have zok := h_L_ok hp hh mi.ws hn hfo
    have zle := f_nl_le (Z := Z) zok.1 zok.2
    have hR := hR0.cgF hex hpe
    have hS := hR.hS
    have hP := hR.hP
    refine v_iload_n d_X4_findFewest_37 rfl ?_
    refine v_iload_n d_X4_findFewest_38 rfl ?_
    refine w_icmp_ge d_X4_findFewest_39 (fun h39 => ?_) (fun h39 => False.elim (by (try simp (disch := omega) only [x_ti, x_tm1] at h39); omega))
    refine v_aload_n d_X4_findFewest_85 rfl ?_
    refine v_gr d_X4_findFewest_86 lf_X4_25_4 rfl (hS _ _ rfl) (hP _ _ _ rfl) ?_
    refine v_aload_n d_X4_findFewest_89 rfl ?_
    refine v_cv (as := []) (rest := [_]) d_X4_findFewest_90 lv_X4_124_4 (hS _ _ rfl) rfl ⟨by decide, by decide⟩ rfl (Nat.le_of_ble_eq_true rfl) (by decide) (by decide) ?_
    refine t_X4_countWanted hR mi ?_
    refine v_cv (as := [_]) (rest := []) d_X4_findFewest_93 lv_X4_128_3 (hS _ _ rfl) rfl ⟨by decide, by decide⟩ rfl (Nat.le_of_ble_eq_true rfl) (by decide) (by decide) ?_
    refine t_X3_choose (h_L Z p) (h_m Z p) (m_nh Z) M (m_wm Z) hk (by omega) r6 rM hM8 rb rbr (x_ct_le _ _) rfl hS hP (fun zl J2 zj => ?_) (fun zl q Q J2 zj zf zq => ?_)
    · refine v_ret (v := some (.int _)) d_X4_findFewest_96 rfl ⟨rfl, _, rfl, rfl⟩ (by decide) (by decide) ?_
      refine hK _ P I J2 hpe (fun a k hk => ⟨(hex a k hk).1, (zj a k (fun e => by subst e; cases hk) (fun e => by subst e; cases hk)).trans (hex a k hk).2⟩) (by unfold q_fst; rw [x_if_f (by omega), x_if_t (by omega)]) (Or.inr (Or.inl (by decide)))
    · refine v_ret (v := some (.int _)) d_X4_findFewest_96 rfl ⟨rfl, _, rfl, rfl⟩ (by decide) (by decide) ?_
      refine hK _ P _ J2 hpe (fun a k hk => ⟨(hex.ui (a := 24) (k := 8) (v := nI (h_mk Q q)) rfl a k hk).1, (zj a k (fun e => by subst e; cases hk) (fun e => by subst e; cases hk)).trans (hex a k hk).2⟩) ?_ (Or.inr (Or.inr ⟨by rw [x_ti (by omega)]; omega, q, Q, zf, rfl, zq, hk, ?_, fun k hk1 => ?_, x_u2_s _ _ _ _⟩))
      · unfold q_fst
        rw [x_if_f (by omega), x_if_f (fun w => w (by omega)), (f_N_eq zf).1]
      · rw [x_u2_nk _ _ _ _ (by decide)]; exact r6
      · rw [x_u2_na _ _ _ _ (by decide)]; exact r25 k hk1
  | succ d ih =>
    intro c hd P I J M hpe hex hk r6 rM hM8 r25 r26 rb rbr
    have hR := hR0.cgF hex hpe
    have hS := hR.hS
    have hP := hR.hP
    refine v_iload_n d_X4_findFewest_37 rfl ?_
    refine v_iload_n d_X4_findFewest_38 rfl ?_
    refine w_icmp_ge d_X4_findFewest_39 (fun h39 => False.elim (by (try simp (disch := omega) only [x_ti, x_tm1] at h39); omega)) (fun h39 => ?_)
    refine v_aload_n d_X4_findFewest_42 rfl ?_
    refine v_iload_n d_X4_findFewest_43 rfl ?_
    refine v_cv (as := [_]) (rest := []) d_X4_findFewest_44 lv_X4_112_4 (hS _ _ rfl) rfl ⟨by decide, by decide⟩ rfl (Nat.le_of_ble_eq_true rfl) (by decide) (by decide) ?_
    refine t_X4_mayM hR mi p c hpl hp (by omega) rfl (fun zm P' I' h1 h2 h3 => ?_) (fun zm P' I' h1 h2 => ?_)
    · have hRx := hR.cgF h2.MF h1
      have hS := hRx.hS
      have hP := hRx.hP
      have zb := h_mb_t zm
      have zy := x_ct_y zb
      have zmo := x_ct_mo (h_mb Z p) (show c + 1 ≤ (m_ce Z p).toNat by omega)
      have zho : h_ho Z p (x_ct (h_mb Z p) c) = c := h_fd_eq zb 64 (by omega)
      have r6' := (h2.i 24 6 rfl).trans r6
      have zin : ∀ j, j ≤ x_ct (h_mb Z p) c → ((h_ho Z p j : Nat) : Int) < m_ce Z p := fun j hj => (h_ho_in hfp (show j < h_m Z p by unfold h_m; omega)).2.1
      have zhE : I' 20 6 = nI (m_nh Z) := hRx.Li.1.trans (x_of hh.1)
      refine w_if_eq d_X4_findFewest_47 (fun h47 => absurd h47 (by decide)) (fun _ => ?_)
      refine v_aload_n d_X4_findFewest_50 rfl ?_
      refine v_gr d_X4_findFewest_51 lf_X4_25_4 rfl (hS _ _ rfl) (hP _ _ _ rfl) ?_
      refine v_cv (as := []) (rest := []) d_X4_findFewest_54 lv_X4_116_3 (hS _ _ rfl) rfl ⟨by decide, by decide⟩ rfl (Nat.le_of_ble_eq_true rfl) (by decide) (by decide) ?_
      refine t_X3_isFull _ hk r6' hS hP (fun zf => ?_) (fun zf => ?_)
      · refine w_if_eq d_X4_findFewest_57 (fun h57 => absurd h57 (by decide)) (fun _ => ?_)
        refine v_bipush (v := (-6)) d_X4_findFewest_60 x_bp_m6 ?_
        refine v_ret (v := some (.int _)) d_X4_findFewest_62 rfl ⟨rfl, _, rfl, rfl⟩ (by decide) (by decide) ?_
        exact hK _ P' I' J (hpe.tr h1) (hex.tr h2.MF) (by unfold q_fst; rw [x_if_t (show 16 < h_m Z p by unfold h_m; omega)]) (Or.inl (by decide))
      · refine w_if_eq d_X4_findFewest_57 (fun _ => ?_) (fun h57 => absurd h57 (by decide))
        refine v_aload_n d_X4_findFewest_63 rfl ?_
        refine v_gr d_X4_findFewest_64 lf_X4_25_4 rfl (hS _ _ rfl) (hP _ _ _ rfl) ?_
        refine v_iload_n d_X4_findFewest_67 rfl ?_
        refine v_aload_n d_X4_findFewest_68 rfl ?_
        refine v_gr d_X4_findFewest_69 lf_X4_19_4 rfl (hS _ _ rfl) (hP _ _ _ rfl) ?_
        refine v_aload_n d_X4_findFewest_72 rfl ?_
        refine v_gie d_X4_findFewest_73 lf_X4_41_4 rfl (hS _ _ rfl) (zhE) ?_
        refine v_cv (as := [_, _, _]) (rest := []) d_X4_findFewest_76 lv_X4_120_3 (hS _ _ rfl) rfl ⟨by decide, by decide⟩ rfl (Nat.le_of_ble_eq_true rfl) (by decide) (by decide) ?_
        refine t_X3_add (h_L Z p) (fun j t => h_e Z p (h_ho Z p j) t) (x_ct (h_mb Z p) c) c (m_nh Z) (by omega) (by omega) (fun t ht => (h_e_L (c' := h_ho Z p (x_ct (h_mb Z p) c)) (show t < 6 by omega) mi.ws hfp (zin _ (Nat.le_refl _)) (zin _ (Nat.le_refl _)) hn.2 hfo).1) (fun j t hj ht => (h_e_L (show t < 6 by omega) mi.ws hfp (zin j hj) (zin _ (Nat.le_refl _)) hn.2 hfo).2) (fun t ht => by show I' 23 t = h_e Z p (h_ho Z p (x_ct (h_mb Z p) c)) t; rw [zho]; exact h3 t ht) M ((h2.i 24 7 rfl).trans rM) hM8 r6' (fun k t hk1 ht => (h2.i 26 _ rfl).trans (r26 k t hk1 ht)) rfl rfl hS hP (fun I2 J2 M2 a1 a2 a3 a4 a5 a6 a7 a8 a9 a10 a11 => ?_)
        first | refine v_iinc (ls' := [_, _, _, _]) d_X4_findFewest_79 rfl (x_inc_1 _) (by decide) rfl ?_ | refine v_iinc (ls' := [_, _, _, _]) d_X4_findFewest_79 rfl rfl (by decide) rfl ?_
        refine v_goto d_X4_findFewest_82 ?_
        refine ih (c + 1) (by omega) P' I2 J2 M2 (hpe.tr h1) ((hex.tr h2.MF).tr a1.AF) (by omega) (by rw [← zy]; exact a2) a8 a10 (fun i hi => ?_) (fun i t hi ht => a3 i t (by omega) ht) (fun i b hi hb => ?_) (fun i hi => ?_)
        · by_cases w : i = x_ct (h_mb Z p) c
          · rw [w, a7, zho]
          · rw [a6 i (by omega), h2.i 25 i rfl]; exact r25 i (by omega)
        · by_cases w : i = x_ct (h_mb Z p) c
          · rw [w]; exact a5 b hb
          · have z1 := a4 i (by omega)
            unfold p_on
            rw [z1.1, z1.2]
            exact rb i b (by omega) hb
        · by_cases w : i = x_ct (h_mb Z p) c
          · rw [w]; exact a11
          · have z1 := a4 i (by omega)
            have z2 := rbr i (by omega)
            unfold p_on at z2 ⊢
            rw [z1.1, z1.2]
            omega
    · have hRx := hR.cgF h2.MF h1
      have hS := hRx.hS
      have hP := hRx.hP
      have zn := x_ct_n (h_mb_f zm)
      refine w_if_eq d_X4_findFewest_47 (fun _ => ?_) (fun h47 => absurd h47 (by decide))
      first | refine v_iinc (ls' := [_, _, _, _]) d_X4_findFewest_79 rfl (x_inc_1 _) (by decide) rfl ?_ | refine v_iinc (ls' := [_, _, _, _]) d_X4_findFewest_79 rfl rfl (by decide) rfl ?_
      refine v_goto d_X4_findFewest_82 ?_
      have zn : x_ct (h_mb Z p) (c + 1) = x_ct (h_mb Z p) c := zn.symm
      refine ih (c + 1) (by omega) P' I' J M (hpe.tr h1) (hex.tr h2.MF) ?_ ?_ ((h2.i 24 7 rfl).trans rM) hM8 ?_ ?_ ?_ ?_
      · rw [zn]; exact hk
      · rw [zn]; exact (h2.i 24 6 rfl).trans r6
      · rw [zn]; exact fun i hi => (h2.i 25 i rfl).trans (r25 i hi)
      · rw [zn]; exact fun i t hi ht => (h2.i 26 _ rfl).trans (r26 i t hi ht)
      · rw [zn]; exact rb
      · rw [zn]; exact rbr

set_option maxRecDepth 100000 in
set_option maxHeartbeats 4000000 in
theorem t_X4_findFewest {K : x_K} {S : x_S} {P : x_P} {I : x_I} {J : x_J} {n : Nat} {fa : Nat → Nat} {bd : Nat} {Z : x_I} (hR : c_R fa bd Z S P I J n) (mi : m_I Z) (p : Nat) (hpl : Z 39 26 = nI p) (hp : p < m_ns Z) (hK : ∀ (r : Int32) (P' : x_P) (I' : x_I) (J' : x_J), p_ex P P' → x_ex cF I I' J J' → r = q_fst Z p → (r.toInt = -6 ∨ r.toInt = -9 ∨ (0 ≤ r.toInt ∧ ∃ q R, f_least (h_L Z p) (h_m Z p) (m_nh Z) q R ∧ r = nI q ∧ q ≤ h_m Z p ∧ h_m Z p ≤ 16 ∧ I' 24 6 = nI (h_m Z p) ∧ (∀ k, k < h_m Z p → I' 25 k = nI (h_ho Z p k)) ∧ I' 24 8 = nI (h_mk R q))) → K (some (.int r)) S P' I' J' n) : x_Call f_X4_findFewest [.ref 20] K S P I J n := by
  have hS := hR.hS
  have hP := hR.hP
  have hn := mi.hn
  have hfo := mi.fo
  have h9 : m_ns Z = (Z 39 2).toInt.toNat := rfl
  have hw := hR.w hp
  have hfp := hfo p hp
  have hmc := m_ce_in hfp
  have had := hw.ad
  refine x_intro (by decide) 3 (ls := [_, _, _, _]) rfl (Nat.le_of_ble_eq_true rfl) ?_
  refine v_aload_n d_X4_findFewest_0 rfl ?_
  refine v_gr d_X4_findFewest_1 lf_X4_33_4 rfl (hS _ _ rfl) (hP _ _ _ rfl) ?_
  refine v_aload_n d_X4_findFewest_4 rfl ?_
  refine v_gie d_X4_findFewest_5 lf_X4_29_4 rfl (hS _ _ rfl) (hR.Li.2.1.trans (show c_pn (Z 39 26) = nI p by unfold c_pn; rw [hpl, if_neg (by rw [x_ti (by omega)]; omega)])) ?_
  refine v_cv (as := [_]) (rest := []) d_X4_findFewest_8 lv_X4_44_8 (hS _ _ rfl) rfl ⟨by decide, by decide⟩ rfl (Nat.le_of_ble_eq_true rfl) (by decide) (by decide) ?_
  refine t_X8_wallS hR mi p rfl hp ?_
  refine v_astore_n (ls' := [_, _, _, _]) d_X4_findFewest_11 (by decide) rfl ?_
  refine v_aload_n d_X4_findFewest_12 rfl ?_
  refine v_ifnonnull d_X4_findFewest_13 ?_
  refine v_aload_n d_X4_findFewest_20 rfl ?_
  refine v_gr d_X4_findFewest_21 (lfw_X4_76 (c_kc_ok _)) (x_ftw1 (c_kc_ok _)) (hw.sw) (hw.pf) ?_
  refine v_gie d_X4_findFewest_24 lf_X4_106_1 rfl (hw.sf) (hw.fl.ce.trans (x_of (show 0 ≤ (Z 41 (6 * p + 4) * Z 41 (6 * p + 5)).toInt by unfold m_ce at hmc; omega))) ?_
  refine v_istore_n (ls' := [_, _, _, _]) d_X4_findFewest_27 (by decide) rfl ?_
  refine v_aload_n d_X4_findFewest_28 rfl ?_
  refine v_gr d_X4_findFewest_29 lf_X4_25_4 rfl (hS _ _ rfl) (hP _ _ _ rfl) ?_
  refine v_cv (as := []) (rest := []) d_X4_findFewest_32 lv_X4_109_3 (hS _ _ rfl) rfl ⟨by decide, by decide⟩ rfl (Nat.le_of_ble_eq_true rfl) (by decide) (by decide) ?_
  refine t_X3_clear hS hP ?_
  refine v_iconst (v := nI 0) d_X4_findFewest_35 x_ic_0 ?_
  refine v_istore_n (ls' := [_, _, _, _]) d_X4_findFewest_36 (by decide) rfl ?_
  refine x_V.fg1 1 (ls' := [_, _, _, _]) rfl ?_
  exact l_X4_ff P I J hR mi p hpl hp hK _ 0 (Nat.zero_add _) P _ J 0 p_ex.rf (((x_ex.rf.ui rfl).ui rfl).ui rfl) (Nat.zero_le _) rfl (x_u2_s _ _ _ _) (Nat.zero_le _) (fun i hi => absurd hi (Nat.not_lt_zero _)) (fun i t hi => absurd hi (Nat.not_lt_zero _)) (fun i b hi => absurd hi (Nat.not_lt_zero _)) (fun i hi => absurd hi (Nat.not_lt_zero _))

set_option maxRecDepth 100000 in
set_option maxHeartbeats 4000000 in
theorem t_X11_fewest {K : x_K} {S : x_S} {P : x_P} {I : x_I} {J : x_J} {n : Nat} {fa : Nat → Nat} {bd : Nat} {Z : x_I} (hR : c_R fa bd Z S P I J n) (mi : m_I Z) (hK : c_K K (Z) I J n (.int (q_fewest Z))) : x_Call f_X11_fewest [.ref 1] K S P I J n := by
  have hS := hR.hS
  have hP := hR.hP
  have hn := mi.hn
  have hfo := mi.fo
  have h9 : m_ns Z = (Z 39 2).toInt.toNat := rfl
  refine x_intro (by decide) 0 (ls := [_]) rfl (Nat.le_of_ble_eq_true rfl) ?_
  refine v_aload_n d_X11_fewest_0 rfl ?_
  refine v_gr d_X11_fewest_1 lf_X11_46_11 rfl (hS _ _ rfl) (hP _ _ _ rfl) ?_
  refine v_cv (as := []) (rest := []) d_X11_fewest_4 lv_X11_235_4 (hS _ _ rfl) rfl ⟨by decide, by decide⟩ rfl (Nat.le_of_ble_eq_true rfl) (by decide) (by decide) ?_
  refine t_X4_hasPlate hR mi (fun zq0 => ?_) (fun zq0 => ?_)
  · have zpt := mi.pt.resolve_left zq0
    have zp1 := zpt.1
    have zp2 := zpt.2
    obtain ⟨p, hpl, zp3, zp4, zp5⟩ := x_ex1 (s := Z 39 26) zp1
    have zpn : p < m_ns Z := by omega
    refine w_if_eq d_X11_fewest_7 (fun h7 => absurd h7 (by decide)) (fun _ => ?_)
    refine v_aload_n d_X11_fewest_10 rfl ?_
    refine v_gr d_X11_fewest_11 lf_X11_46_11 rfl (hS _ _ rfl) (hP _ _ _ rfl) ?_
    refine v_cv (as := []) (rest := []) d_X11_fewest_14 lv_X11_265_4 (hS _ _ rfl) rfl ⟨by decide, by decide⟩ rfl (Nat.le_of_ble_eq_true rfl) (by decide) (by decide) ?_
    refine t_X4_findFewest hR mi p hpl (by omega) (fun r P' I' J' h1 h2 hr hx => ?_)
    refine v_goto d_X11_fewest_17 ?_
    refine v_ret (v := some (.int _)) d_X11_fewest_22 rfl ⟨rfl, _, rfl, rfl⟩ (by decide) (by decide) ?_
    have ec0 : ¬ ((Z 39 26).toInt = -9) := zq0
    simp only [q_fewest, x_if_f ec0, zp5, ← hr] at hK
    exact hK _ _ _ _ _ ⟨fa, bd, hR.cgF h2 h1⟩ (h2.FC) (by omega)
  · refine w_if_eq d_X11_fewest_7 (fun _ => ?_) (fun h7 => absurd h7 (by decide))
    refine v_bipush (v := (-3)) d_X11_fewest_20 x_bp_m3 ?_
    refine v_ret (v := some (.int _)) d_X11_fewest_22 rfl ⟨rfl, _, rfl, rfl⟩ (by decide) (by decide) ?_
    have ec0 : (Z 39 26).toInt = -9 := Classical.byContradiction zq0
    simp only [q_fewest, x_if_t ec0] at hK
    exact hK _ _ _ _ _ ⟨fa, bd, hR⟩ (x_ex.rf) (by omega)

set_option maxRecDepth 100000 in
set_option maxHeartbeats 4000000 in
theorem t_X11_hole {K : x_K} {S : x_S} {P : x_P} {I : x_I} {J : x_J} {n : Nat} {c : Int32} {fa : Nat → Nat} {bd : Nat} {Z : x_I} (hR : c_R fa bd Z S P I J n) (mi : m_I Z) (hK : c_K K (Z) I J n (.int (q_hole Z c))) : x_Call f_X11_hole [.ref 1, .int c] K S P I J n := by
  have hS := hR.hS
  have hP := hR.hP
  have hn := mi.hn
  have hfo := mi.fo
  have h9 : m_ns Z = (Z 39 2).toInt.toNat := rfl
  have cp := c_pl mi
  refine x_intro (by decide) 1 (ls := [_, _, _]) rfl (Nat.le_of_ble_eq_true rfl) ?_
  refine v_aload_n d_X11_hole_0 rfl ?_
  refine v_gr d_X11_hole_1 lf_X11_46_11 rfl (hS _ _ rfl) (hP _ _ _ rfl) ?_
  refine v_cv (as := []) (rest := []) d_X11_hole_4 lv_X11_235_4 (hS _ _ rfl) rfl ⟨by decide, by decide⟩ rfl (Nat.le_of_ble_eq_true rfl) (by decide) (by decide) ?_
  refine t_X4_hasPlate hR mi (fun zq0 => ?_) (fun zq0 => ?_)
  · have zpt := mi.pt.resolve_left zq0
    have zp1 := zpt.1
    have zp2 := zpt.2
    obtain ⟨p, hpl, zp3, zp4, zp5⟩ := x_ex1 (s := Z 39 26) zp1
    have zpn : p < m_ns Z := by omega
    refine w_if_ne d_X11_hole_7 (fun _ => ?_) (fun h7 => absurd h7 (by decide))
    refine v_aload_n d_X11_hole_13 rfl ?_
    refine v_gr d_X11_hole_14 lf_X11_21_11 rfl (hS _ _ rfl) (hP _ _ _ rfl) ?_
    refine v_aload_n d_X11_hole_17 rfl ?_
    refine v_gr d_X11_hole_18 lf_X11_46_11 rfl (hS _ _ rfl) (hP _ _ _ rfl) ?_
    refine v_gie d_X11_hole_21 lf_X11_238_4 rfl (hS _ _ rfl) (hR.Li.2.1.trans (cp.2 zq0)) ?_
    refine v_iload_n d_X11_hole_24 rfl ?_
    refine v_cv (as := [_, _]) (rest := []) d_X11_hole_25 lv_X11_244_8 (hS _ _ rfl) rfl ⟨by decide, by decide⟩ rfl (Nat.le_of_ble_eq_true rfl) (by decide) (by decide) ?_
    refine t_X8_hasCell hR mi (fun zq2 => ?_) (fun zq2 => ?_)
    · have zc1 := zq2.2.1
      have zc2 := zq2.2.2
      obtain ⟨j, rfl, hk_j, t_j, y_j⟩ := x_ex1 (s := c) (zc1)
      rw [zp5] at zc2
      rw [t_j] at zc2
      have hmc := m_ce_in (hfo p (by omega))
      refine w_if_ne d_X11_hole_28 (fun _ => ?_) (fun h28 => absurd h28 (by decide))
      refine v_aload_n d_X11_hole_33 rfl ?_
      refine v_gr d_X11_hole_34 lf_X11_46_11 rfl (hS _ _ rfl) (hP _ _ _ rfl) ?_
      refine v_cv (as := []) (rest := []) d_X11_hole_37 lv_X11_265_4 (hS _ _ rfl) rfl ⟨by decide, by decide⟩ rfl (Nat.le_of_ble_eq_true rfl) (by decide) (by decide) ?_
      refine t_X4_findFewest hR mi p hpl (by omega) (fun r P' I' J' h1 h2 hr hx => ?_)
      have hRx := hR.cgF h2 h1
      have hS := hRx.hS
      have hP := hRx.hP
      refine v_istore_n (ls' := [_, _, _]) d_X11_hole_40 (by decide) rfl ?_
      refine v_iload_n d_X11_hole_41 rfl ?_
      refine v_bipush (v := (-6)) d_X11_hole_42 x_bp_m6 ?_
      refine w_icmp_eq d_X11_hole_44 (fun a44 => ?_) (fun a44 => ?_)
      · refine v_iload_n d_X11_hole_53 rfl ?_
        refine v_ret (v := some (.int _)) d_X11_hole_54 rfl ⟨rfl, _, rfl, rfl⟩ (by decide) (by decide) ?_
        have ec0 : ¬ ((Z 39 26).toInt = -9) := zq0
        have ec1 : ¬ (¬ g_ce Z (Z 39 26) (nI j)) := fun z => z zq2
        have ec2 : r.toInt < 0 := by rw [a44]; decide
        simp only [q_hole, x_if_f ec0, x_if_f ec1, x_if_t ec2, zp5, ← hr] at hK
        exact hK _ _ _ _ _ ⟨fa, bd, hR.cgF h2 h1⟩ (h2.FC) (by omega)
      · refine v_iload_n d_X11_hole_47 rfl ?_
        refine v_bipush (v := (-9)) d_X11_hole_48 x_bp_m9 ?_
        refine w_icmp_ne d_X11_hole_50 (fun a50 => ?_) (fun a50 => ?_)
        · obtain ⟨zr0, q, R, hle, e1, e2, e3, r6, r25, r8⟩ := (hx.resolve_left (fun w => a44 (by rw [w]; decide))).resolve_left (fun w => a50 (by rw [w]; decide))
          subst e1
          have hN := f_N_eq hle
          have hfp := hfo p zpn
          refine v_aload_n d_X11_hole_55 rfl ?_
          refine v_gr d_X11_hole_56 lf_X11_46_11 rfl (hS _ _ rfl) (hP _ _ _ rfl) ?_
          refine v_gr d_X11_hole_59 lf_X11_268_4 rfl (hS _ _ rfl) (hP _ _ _ rfl) ?_
          refine v_iload_n d_X11_hole_62 rfl ?_
          refine v_cv (as := [_]) (rest := []) d_X11_hole_63 lv_X11_272_3 (hS _ _ rfl) rfl ⟨by decide, by decide⟩ rfl (Nat.le_of_ble_eq_true rfl) (by decide) (by decide) ?_
          refine t_X3_isChosen (h_m Z p) q j R (h_ho Z p) e3 (by omega) hle.1 (fun k hk => (h_ho_in hfp hk).2.2.1) (fun a b ha hb => h_ho_inj hfp ha hb) r6 r25 r8 rfl hS hP (fun w => ?_) (fun w => ?_)
          · have ec9 : ∃ i, i < f_N (h_L Z p) (h_m Z p) (m_nh Z) ∧ h_ho Z p (f_R (h_L Z p) (h_m Z p) (m_nh Z) i) = j := by
              obtain ⟨i, i1, i2⟩ := w
              exact ⟨i, by rw [hN.1]; exact i1, by rw [hN.2 i i1]; exact i2⟩
            refine w_if_eq d_X11_hole_66 (fun h66 => absurd h66 (by decide)) (fun _ => ?_)
            refine v_iconst (v := nI 1) d_X11_hole_69 x_ic_1 ?_
            refine v_goto d_X11_hole_70 ?_
            refine v_ret (v := some (.int _)) d_X11_hole_74 rfl ⟨rfl, _, rfl, rfl⟩ (by decide) (by decide) ?_
            have ec0 : ¬ ((Z 39 26).toInt = -9) := zq0
            have ec1 : ¬ (¬ g_ce Z (Z 39 26) (nI j)) := fun z => z zq2
            have ec2 : ¬ ((nI q).toInt < 0) := by omega
            simp only [q_hole, x_if_f ec0, x_if_f ec1, x_if_f ec2, zp5, ← hr, y_j, x_if_t ec9] at hK
            exact hK _ _ _ _ _ ⟨fa, bd, hR.cgF h2 h1⟩ (h2.FC) (by omega)
          · have ec9 : ¬ ∃ i, i < f_N (h_L Z p) (h_m Z p) (m_nh Z) ∧ h_ho Z p (f_R (h_L Z p) (h_m Z p) (m_nh Z) i) = j := by
              intro ⟨i, i1, i2⟩
              rw [hN.1] at i1
              rw [hN.2 i i1] at i2
              exact w ⟨i, i1, i2⟩
            refine w_if_eq d_X11_hole_66 (fun _ => ?_) (fun h66 => absurd h66 (by decide))
            refine v_iconst (v := nI 0) d_X11_hole_73 x_ic_0 ?_
            refine v_ret (v := some (.int _)) d_X11_hole_74 rfl ⟨rfl, _, rfl, rfl⟩ (by decide) (by decide) ?_
            have ec0 : ¬ ((Z 39 26).toInt = -9) := zq0
            have ec1 : ¬ (¬ g_ce Z (Z 39 26) (nI j)) := fun z => z zq2
            have ec2 : ¬ ((nI q).toInt < 0) := by omega
            simp only [q_hole, x_if_f ec0, x_if_f ec1, x_if_f ec2, zp5, ← hr, y_j, x_if_f ec9] at hK
            exact hK _ _ _ _ _ ⟨fa, bd, hR.cgF h2 h1⟩ (h2.FC) (by omega)
        · refine v_iload_n d_X11_hole_53 rfl ?_
          refine v_ret (v := some (.int _)) d_X11_hole_54 rfl ⟨rfl, _, rfl, rfl⟩ (by decide) (by decide) ?_
          have ec0 : ¬ ((Z 39 26).toInt = -9) := zq0
          have ec1 : ¬ (¬ g_ce Z (Z 39 26) (nI j)) := fun z => z zq2
          have ec2 : r.toInt < 0 := by rw [a50]; decide
          simp only [q_hole, x_if_f ec0, x_if_f ec1, x_if_t ec2, zp5, ← hr] at hK
          exact hK _ _ _ _ _ ⟨fa, bd, hR.cgF h2 h1⟩ (h2.FC) (by omega)
    · refine w_if_ne d_X11_hole_28 (fun h28 => absurd h28 (by decide)) (fun _ => ?_)
      refine v_iconst (v := (-1)) d_X11_hole_31 x_ic_m1 ?_
      refine v_ret (v := some (.int _)) d_X11_hole_32 rfl ⟨rfl, _, rfl, rfl⟩ (by decide) (by decide) ?_
      have ec0 : ¬ ((Z 39 26).toInt = -9) := zq0
      have ec1 : ¬ g_ce Z (Z 39 26) c := zq2
      simp only [q_hole, x_if_f ec0, x_if_t ec1] at hK
      exact hK _ _ _ _ _ ⟨fa, bd, hR⟩ (x_ex.rf) (by omega)
  · refine w_if_ne d_X11_hole_7 (fun h7 => absurd h7 (by decide)) (fun _ => ?_)
    refine v_bipush (v := (-3)) d_X11_hole_10 x_bp_m3 ?_
    refine v_ret (v := some (.int _)) d_X11_hole_12 rfl ⟨rfl, _, rfl, rfl⟩ (by decide) (by decide) ?_
    have ec0 : (Z 39 26).toInt = -9 := Classical.byContradiction zq0
    simp only [q_hole, x_if_t ec0] at hK
    exact hK _ _ _ _ _ ⟨fa, bd, hR⟩ (x_ex.rf) (by omega)

