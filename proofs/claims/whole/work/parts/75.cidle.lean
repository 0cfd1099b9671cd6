def u_t (Z : x_I) (set : Int32) (q e j : Nat) : Bool := decide (x_bt set e = 1) && u_at Z q e j
theorem u_t_n {Z : x_I} {set : Int32} {q e j : Nat} (h : e_n Z set e j = none) : u_t Z set q e j = false := by
  unfold e_n at h
  unfold u_t u_at
  cases h1 : decide (x_bt set e = 1) <;> cases h2 : w_is Z e j <;> rw [h1, h2] at h <;> simp at h ⊢
  rw [h]
theorem u_t_s {Z : x_I} {set : Int32} {q e j s' c' : Nat} (h : e_n Z set e j = some (s', c')) : u_t Z set q e j = decide (64 * s' + c' = q) := by
  unfold e_n at h
  have hq : (decide (x_bt set e = 1) && w_is Z e j) = true := by
    cases hc : (decide (x_bt set e = 1) && w_is Z e j) with
    | true => rfl
    | false => rw [hc] at h; cases h
  rw [hq] at h
  simp only [Bool.and_eq_true] at hq
  have h : (r_sby Z e j).1 = some (s', c') := h
  unfold u_t u_at
  rw [hq.1, hq.2, h]
  rfl
theorem u_t_al (Z : x_I) (set : Int32) (q : Nat) : x_sm (fun e => x_ct (u_t Z set q e) (m_ce Z 10).toNat) 4 = u_al Z set q 4 := by
  unfold u_al
  exact x_sm_cg 4 (fun e _ => (w_sum_ct Z _ set e).symm)
def i_B (Z : x_I) (set : Int32) (s : Nat) : Nat := x_ct (fun c => decide (0 < u_al Z set (64 * s + c) 4)) 64
def i_T (Z : x_I) (s : Nat) : Nat := if (Z 40 s).toInt = 1 then 0 else (m_ce Z s).toNat
theorem x_ct_0 {p : Nat → Bool} : ∀ n, (∀ k, k < n → p k = false) → x_ct p n = 0
  | 0, _ => rfl
  | n + 1, h => by rw [← x_ct_n (h n (by omega)), x_ct_0 n (fun k hk => h k (by omega))]
theorem x_ct_ex {p : Nat → Bool} {m : Nat} : ∀ n, m ≤ n → (∀ k, m ≤ k → k < n → p k = false) → x_ct p n = x_ct p m
  | 0, h, _ => by have : m = 0 := by omega
                  subst this; rfl
  | n + 1, h, hp => by
    by_cases e : m = n + 1
    · rw [e]
    · rw [← x_ct_n (hp n (by omega) (by omega)), Nat.add_zero]
      exact x_ct_ex n (by omega) (fun k h1 h2 => hp k h1 (by omega))
theorem x_ct_not {p : Nat → Bool} : ∀ n, x_ct p n + x_ct (fun k => !(p k)) n = n
  | 0 => rfl
  | n + 1 => by
    have ih := x_ct_not (p := p) n
    unfold x_ct
    cases h : p n <;> simp <;> omega
theorem u_al_0 {Z : x_I} {set : Int32} (mi : m_I Z) (hnb : m_nb Z = Z) {s c : Nat} (hc : c < 64) (h : ¬ (s < m_ns Z ∧ (c : Int) < m_ce Z s ∧ ¬ (Z 40 s).toInt = 1)) : u_al Z set (64 * s + c) 4 = 0 := by
  have hbo := mi.bo
  rw [hnb] at hbo
  have hbm := m_ce_in hbo
  rw [← u_t_al]
  have : ∀ e, e < 4 → x_ct (u_t Z set (64 * s + c) e) (m_ce Z 10).toNat = 0 := fun e he => x_ct_0 _ (fun k hk => by
    cases ho : e_n Z set e k with
    | none => exact u_t_n ho
    | some w =>
      obtain ⟨s', c'⟩ := w
      have hin := e_n_in mi hnb he (by omega) ho
      rw [u_t_s ho]
      refine decide_eq_false (fun q => h ?_)
      have e1 : s' = s := by have := hin.2.2.1; omega
      have e2 : c' = c := by omega
      subst e1 e2
      refine ⟨hin.1, hin.2.1, fun z => ?_⟩
      have ht := hin.2.2.2
      unfold r_tb at ht
      exact of_decide_eq_false ht (Or.inl z))
  simp only [x_sm, this 0 (by omega), this 1 (by omega), this 2 (by omega), this 3 (by omega)]
theorem i_TB {Z : x_I} {set : Int32} (mi : m_I Z) (hnb : m_nb Z = Z) {s : Nat} (hs : s < m_ns Z) : i_T Z s = i_row Z set s + i_B Z set s := by
  have hmc := m_ce_in (mi.fo s hs)
  unfold i_T i_row i_B
  by_cases h : (Z 40 s).toInt = 1
  · rw [if_pos h, if_pos h, x_ct_0 64 (fun k hk => decide_eq_false (fun q => by rw [u_al_0 mi hnb hk (fun z => z.2.2 h)] at q; omega))]
  · rw [if_neg h, if_neg h, x_ct_ex (m := (m_ce Z s).toNat) 64 (by omega) (fun k h1 h2 => decide_eq_false (fun q => by rw [u_al_0 mi hnb h2 (fun z => by omega)] at q; omega))]
    have := x_ct_not (p := fun c => decide (u_al Z set (64 * s + c) 4 = 0)) (m_ce Z s).toNat
    rw [x_ct_cg (p := fun c => decide (0 < u_al Z set (64 * s + c) 4)) (q := fun c => !(decide (u_al Z set (64 * s + c) 4 = 0))) _ (fun k _ => by
      by_cases e : u_al Z set (64 * s + k) 4 = 0
      · simp [e]
      · simp [e]; omega)]
    omega
theorem i_B0 {Z : x_I} {set : Int32} (mi : m_I Z) (hnb : m_nb Z = Z) {s : Nat} (hs : m_ns Z ≤ s) : i_B Z set s = 0 := x_ct_0 64 (fun k hk => decide_eq_false (fun q => by rw [u_al_0 mi hnb hk (fun z => by omega)] at q; omega))
theorem x_sm_ad (f g : Nat → Nat) : ∀ n, x_sm (fun s => f s + g s) n = x_sm f n + x_sm g n
  | 0 => rfl
  | n + 1 => by rw [x_sm, x_sm, x_sm, x_sm_ad f g n]; omega
theorem x_sm_mo (f : Nat → Nat) : ∀ {m n : Nat}, m ≤ n → x_sm f m ≤ x_sm f n
  | m, 0, h => by have : m = 0 := by omega
                  subst this; exact Nat.le_refl _
  | m, n + 1, h => by
    by_cases e : m = n + 1
    · rw [e]; exact Nat.le_refl _
    · have := x_sm_mo f (show m ≤ n by omega)
      rw [x_sm]; omega
theorem x_sm_ex {f : Nat → Nat} {m : Nat} : ∀ n, m ≤ n → (∀ k, m ≤ k → k < n → f k = 0) → x_sm f n = x_sm f m
  | 0, h, _ => by have : m = 0 := by omega
                  subst this; rfl
  | n + 1, h, hp => by
    by_cases e : m = n + 1
    · rw [e]
    · rw [x_sm, hp n (by omega) (by omega), Nat.add_zero]
      exact x_sm_ex n (by omega) (fun k h1 h2 => hp k h1 (by omega))
theorem i_all {Z : x_I} {set : Int32} (mi : m_I Z) (hnb : m_nb Z = Z) : x_sm (i_T Z) (m_ns Z) = x_sm (i_row Z set) (m_ns Z) + x_sm (i_B Z set) 10 := by
  have hn := mi.hn
  rw [x_sm_cg (m_ns Z) (fun s hs => i_TB (set := set) mi hnb hs), x_sm_ad, x_sm_ex (f := i_B Z set) (m := m_ns Z) 10 (by unfold m_ns; omega) (fun k h1 _ => i_B0 mi hnb h1)]
theorem x_lb_ct {v : Int64} {p : Nat → Bool} (h : ∀ c, c < 64 → x_lb v c = p c) : x_ct (x_lb v) 64 = x_ct p 64 := x_ct_cg 64 h

set_option maxRecDepth 100000 in
set_option maxHeartbeats 4000000 in
theorem l_X2_id_i {K : x_K} {set : Int32} {S : x_S} {n : Nat} {fa : Nat → Nat} {bd : Nat} {Z : x_I} (P0 : x_P) (I0 : x_I) (J0 : x_J) (hR0 : c_R fa bd Z S P0 I0 J0 n) (mi : m_I Z) (hnb : m_nb Z = Z) (N : Nat) (hN : (N : Int) = m_ce Z 10) (e : Nat) (he : e < 4) (hc : ∀ (P : x_P) (I : x_I) (J : x_J), p_ex P0 P → x_ex cF I0 I J0 J →  (∀ s c, s < 10 → c < 64 → x_lb (J 17 s) c = decide (0 < (x_sm (fun e => x_ct (u_t Z set (64 * s + c) e) N) e + x_ct (u_t Z set (64 * s + c) e) N))) → x_V f_X2_countIdle K 106 [some (.ref 8), some (.int set), some (.int (nI e)), some (.int (nI N)), none] [] S P I J n 0 0) :
    ∀ d k : Nat, k + d = N → ∀ (P : x_P) (I : x_I) (J : x_J), p_ex P0 P → x_ex cF I0 I J0 J →  (∀ s c, s < 10 → c < 64 → x_lb (J 17 s) c = decide (0 < (x_sm (fun e => x_ct (u_t Z set (64 * s + c) e) N) e + x_ct (u_t Z set (64 * s + c) e) k))) → x_V f_X2_countIdle K 17 [some (.ref 8), some (.int set), some (.int (nI e)), some (.int (nI k)), none] [] S P I J n 0 0 := by
  have hn := mi.hn
  have hfo := mi.fo
  have hbo := mi.bo
  rw [hnb] at hbo
  have hbm := m_ce_in hbo
  intro d
  induction d with
  | zero =>
    intro k hd P I J hpe hex hv
    have hR := hR0.cgF hex hpe
    have hS := hR.hS
    have hP := hR.hP
    have hceN := hR.fb.ce
    rw [hnb] at hceN
    have hceN := hceN.trans (x_of' (k := N) (by unfold m_ce at hN; omega))
    refine v_iload_n d_X2_countIdle_17 rfl ?_
    refine v_aload_n d_X2_countIdle_18 rfl ?_
    refine v_gr d_X2_countIdle_19 lf_X2_38_2 rfl (hS _ _ rfl) (hR.pb) ?_
    refine v_gie d_X2_countIdle_22 lf_X2_63_1 rfl (hR.sb) (hceN) ?_
    refine w_icmp_ge d_X2_countIdle_25 (fun h25 => ?_) (fun h25 => False.elim (by (try simp (disch := omega) only [x_ti, x_tm1] at h25); omega))
    have e1 : k = N := by omega
    subst e1
    exact hc P I J hpe hex hv
  | succ d ih =>
    intro k hd P I J hpe hex hv
    have hR := hR0.cgF hex hpe
    have hS := hR.hS
    have hP := hR.hP
    have hceN := hR.fb.ce
    rw [hnb] at hceN
    have hceN := hceN.trans (x_of' (k := N) (by unfold m_ce at hN; omega))
    refine v_iload_n d_X2_countIdle_17 rfl ?_
    refine v_aload_n d_X2_countIdle_18 rfl ?_
    refine v_gr d_X2_countIdle_19 lf_X2_38_2 rfl (hS _ _ rfl) (hR.pb) ?_
    refine v_gie d_X2_countIdle_22 lf_X2_63_1 rfl (hR.sb) (hceN) ?_
    refine w_icmp_ge d_X2_countIdle_25 (fun h25 => False.elim (by (try simp (disch := omega) only [x_ti, x_tm1] at h25); omega)) (fun h25 => ?_)
    refine v_aload_n d_X2_countIdle_28 rfl ?_
    refine v_iload_n d_X2_countIdle_29 rfl ?_
    refine v_iload_n d_X2_countIdle_30 rfl ?_
    refine v_iload_n d_X2_countIdle_31 rfl ?_
    refine v_cv (as := [_, _, _]) (rest := []) d_X2_countIdle_32 lv_X2_96_2 (hS _ _ rfl) rfl ⟨by decide, by decide⟩ rfl (Nat.le_of_ble_eq_true rfl) (by decide) (by decide) ?_
    refine t_X2_isWish hR mi e k rfl he rfl (by omega) (fun zq => ?_) (fun zq => ?_)
    · refine w_if_eq d_X2_countIdle_35 (fun h35 => absurd h35 (by decide)) (fun _ => ?_)
      refine v_aload_n d_X2_countIdle_38 rfl ?_
      refine v_iload_n d_X2_countIdle_39 rfl ?_
      refine v_iload_n d_X2_countIdle_40 rfl ?_
      refine v_cv (as := [_, _]) (rest := []) d_X2_countIdle_41 lv_X2_100_2 (hS _ _ rfl) rfl ⟨by decide, by decide⟩ rfl (Nat.le_of_ble_eq_true rfl) (by decide) (by decide) ?_
      refine t_X2_look hR mi hnb e k rfl he rfl (by omega) (fun P' I' h1 h2 => ?_)
      have zen : e_n Z set e k = (r_sby Z e k).1 := by unfold e_n; rw [decide_eq_true zq.1, zq.2]; rfl
      have hRx := hR.cgE h2 h1
      have hS := hRx.hS
      have hP := hRx.hP
      rw [← zen]
      cases zo : e_n Z set e k with
      | none =>
        show x_V f_X2_countIdle K 44 _ [.int (-9)] S P' I' J n 0 0
        refine v_goto d_X2_countIdle_44 ?_
        refine v_istore (ls' := [_, _, _, _, _]) d_X2_countIdle_49 (by decide) rfl ?_
        refine v_aload_n d_X2_countIdle_51 rfl ?_
        refine v_gr d_X2_countIdle_52 lf_X2_42_2 rfl (hS _ _ rfl) (hP _ _ _ rfl) ?_
        refine v_iload d_X2_countIdle_55 rfl ?_
        refine w_if_ge d_X2_countIdle_57 (fun a57 => absurd a57 (by decide)) (fun _ => ?_)
        refine v_iconst (v := (-1)) d_X2_countIdle_60 x_ic_m1 ?_
        refine v_goto d_X2_countIdle_61 ?_
        refine v_iload d_X2_countIdle_69 rfl ?_
        refine v_bipush (v := nI 100) d_X2_countIdle_71 x_bp_100 ?_
        refine v_irem d_X2_countIdle_73 (by decide) ?_
        refine v_cv (as := [_, _]) (rest := []) d_X2_countIdle_74 lv_X2_143_8 (hS _ _ rfl) rfl ⟨by decide, by decide⟩ rfl (Nat.le_of_ble_eq_true rfl) (by decide) (by decide) ?_
        refine t_X8_hasCell hRx mi (fun zc => ?_) (fun zc => ?_)
        · exact absurd zc.1.1 (by decide)
        · refine w_if_eq d_X2_countIdle_77 (fun _ => ?_) (fun h77 => absurd h77 (by decide))
          first | refine v_iinc (ls' := [_, _, _, _, _]) d_X2_countIdle_100 rfl (x_inc_1 _) (by decide) rfl ?_ | refine v_iinc (ls' := [_, _, _, _, _]) d_X2_countIdle_100 rfl rfl (by decide) rfl ?_
          refine v_goto d_X2_countIdle_103 ?_
          refine x_V.fg1 4 (ls' := [_, _, _, _, _]) rfl ?_
          refine ih (k + 1) (by omega) P' I' J (hpe.tr h1) (hex.tr h2.EF) (fun s c hs hc1 => ?_)
          rw [hv s c hs hc1, ← x_ct_n (u_t_n zo), Nat.add_zero]
      | some w0 =>
        obtain ⟨s', c'⟩ := w0
        have zin := e_n_in mi hnb he (show ((k : Nat) : Int) < m_ce Z 10 by omega) zo
        have zs10 : s' < 10 := by have := zin.1; unfold m_ns at this; omega
        have zc6 := zin.2.2.1
        have zns := zin.1
        have zce := zin.2.1
        have h9 : m_ns Z = (Z 39 2).toInt.toNat := rfl
        have zd1 : (100 * s' + c') / 100 = s' := by omega
        have zd2 : (100 * s' + c') % 100 = c' := by omega
        show x_V f_X2_countIdle K 44 _ [.int (nI (100 * s' + c'))] S P' I' J n 0 0
        refine v_goto d_X2_countIdle_44 ?_
        refine v_istore (ls' := [_, _, _, _, _]) d_X2_countIdle_49 (by decide) rfl ?_
        refine v_aload_n d_X2_countIdle_51 rfl ?_
        refine v_gr d_X2_countIdle_52 lf_X2_42_2 rfl (hS _ _ rfl) (hP _ _ _ rfl) ?_
        refine v_iload d_X2_countIdle_55 rfl ?_
        refine w_if_ge d_X2_countIdle_57 (fun a57 => ?_) (fun a57 => False.elim (by rw [x_ti (by omega)] at a57; omega))
        refine v_iload d_X2_countIdle_64 rfl ?_
        refine v_bipush (v := nI 100) d_X2_countIdle_66 x_bp_100 ?_
        refine v_idiv d_X2_countIdle_68 (by decide) ?_
        rw [x_divN (by omega) (by decide) (by decide), zd1]
        refine v_iload d_X2_countIdle_69 rfl ?_
        refine v_bipush (v := nI 100) d_X2_countIdle_71 x_bp_100 ?_
        refine v_irem d_X2_countIdle_73 (by decide) ?_
        rw [x_remN (by omega) (by decide) (by decide), zd2]
        refine v_cv (as := [_, _]) (rest := []) d_X2_countIdle_74 lv_X2_143_8 (hS _ _ rfl) rfl ⟨by decide, by decide⟩ rfl (Nat.le_of_ble_eq_true rfl) (by decide) (by decide) ?_
        refine t_X8_hasCell hRx mi (fun zc => ?_) (fun zc => ?_)
        · refine w_if_eq d_X2_countIdle_77 (fun h77 => absurd h77 (by decide)) (fun _ => ?_)
          refine v_aload_n d_X2_countIdle_80 rfl ?_
          refine v_gr d_X2_countIdle_81 lf_X2_26_2 rfl (hS _ _ rfl) (hP _ _ _ rfl) ?_
          refine v_iload d_X2_countIdle_84 rfl ?_
          refine v_bipush (v := nI 100) d_X2_countIdle_86 x_bp_100 ?_
          refine v_idiv d_X2_countIdle_88 (by decide) ?_
          rw [x_divN (by omega) (by decide) (by decide), zd1]
          refine v_dup2 d_X2_countIdle_89 rfl rfl ?_
          refine v_lald _ d_X2_countIdle_90 (rfl) (hS _ _ rfl) (⟨by omega, by omega⟩) (rfl) ?_
          refine v_lconst (v := 1) d_X2_countIdle_91 rfl ?_
          refine v_iload d_X2_countIdle_92 rfl ?_
          refine v_bipush (v := nI 100) d_X2_countIdle_94 x_bp_100 ?_
          refine v_irem d_X2_countIdle_96 (by decide) ?_
          rw [x_remN (by omega) (by decide) (by decide), zd2]
          refine v_lshl d_X2_countIdle_97 ?_
          refine v_lor d_X2_countIdle_98 ?_
          refine v_last _ d_X2_countIdle_99 (rfl) (hS _ _ rfl) (⟨by omega, by omega⟩) ?_
          first | refine v_iinc (ls' := [_, _, _, _, _]) d_X2_countIdle_100 rfl (x_inc_1 _) (by decide) rfl ?_ | refine v_iinc (ls' := [_, _, _, _, _]) d_X2_countIdle_100 rfl rfl (by decide) rfl ?_
          refine v_goto d_X2_countIdle_103 ?_
          refine x_V.fg1 4 (ls' := [_, _, _, _, _]) rfl ?_
          refine ih (k + 1) (by omega) P' I' _ (hpe.tr h1) ((hex.tr h2.EF).uj (a := 17) (k := s') rfl) (fun s c hs hc1 => ?_)
          rw [x_u2_at]
          by_cases w : s = s'
          · subst w
            rw [if_pos ⟨rfl, rfl⟩, x_lb_or, x_lb_1 zc6, hv s c hs hc1]
            by_cases w2 : c = c'
            · subst w2
              rw [← x_ct_y (show u_t Z set (64 * s + c) e k = true by rw [u_t_s zo]; exact decide_eq_true rfl), decide_eq_true rfl, Bool.or_true]
              exact (decide_eq_true (by omega)).symm
            · rw [← x_ct_n (show u_t Z set (64 * s + c) e k = false by rw [u_t_s zo]; exact decide_eq_false (by omega)), Nat.add_zero, decide_eq_false w2, Bool.or_false]
          · rw [if_neg (fun q => w q.2), hv s c hs hc1, ← x_ct_n (show u_t Z set (64 * s + c) e k = false by rw [u_t_s zo]; exact decide_eq_false (by omega)), Nat.add_zero]
        · refine absurd ?_ zc
          unfold g_ce
          rw [x_ti (by omega), x_ti (by omega), x_kn (by omega)]
          omega
    · refine w_if_eq d_X2_countIdle_35 (fun _ => ?_) (fun h35 => absurd h35 (by decide))
      refine v_bipush (v := (-9)) d_X2_countIdle_47 x_bp_m9 ?_
      have zo : e_n Z set e k = none := by
        unfold e_n
        rw [show (decide (x_bt set e = 1) && w_is Z e k) = false from by rw [Bool.eq_false_iff]; intro zh; simp only [Bool.and_eq_true, decide_eq_true_eq] at zh; exact zq zh]
        rfl
      have hRx := hR
      refine v_istore (ls' := [_, _, _, _, _]) d_X2_countIdle_49 (by decide) rfl ?_
      refine v_aload_n d_X2_countIdle_51 rfl ?_
      refine v_gr d_X2_countIdle_52 lf_X2_42_2 rfl (hS _ _ rfl) (hP _ _ _ rfl) ?_
      refine v_iload d_X2_countIdle_55 rfl ?_
      refine w_if_ge d_X2_countIdle_57 (fun a57 => absurd a57 (by decide)) (fun _ => ?_)
      refine v_iconst (v := (-1)) d_X2_countIdle_60 x_ic_m1 ?_
      refine v_goto d_X2_countIdle_61 ?_
      refine v_iload d_X2_countIdle_69 rfl ?_
      refine v_bipush (v := nI 100) d_X2_countIdle_71 x_bp_100 ?_
      refine v_irem d_X2_countIdle_73 (by decide) ?_
      refine v_cv (as := [_, _]) (rest := []) d_X2_countIdle_74 lv_X2_143_8 (hS _ _ rfl) rfl ⟨by decide, by decide⟩ rfl (Nat.le_of_ble_eq_true rfl) (by decide) (by decide) ?_
      refine t_X8_hasCell hRx mi (fun zc => ?_) (fun zc => ?_)
      · exact absurd zc.1.1 (by decide)
      · refine w_if_eq d_X2_countIdle_77 (fun _ => ?_) (fun h77 => absurd h77 (by decide))
        first | refine v_iinc (ls' := [_, _, _, _, _]) d_X2_countIdle_100 rfl (x_inc_1 _) (by decide) rfl ?_ | refine v_iinc (ls' := [_, _, _, _, _]) d_X2_countIdle_100 rfl rfl (by decide) rfl ?_
        refine v_goto d_X2_countIdle_103 ?_
        refine x_V.fg1 4 (ls' := [_, _, _, _, _]) rfl ?_
        refine ih (k + 1) (by omega) P I J (hpe) (hex) (fun s c hs hc1 => ?_)
        rw [hv s c hs hc1, ← x_ct_n (u_t_n zo), Nat.add_zero]

set_option maxRecDepth 100000 in
set_option maxHeartbeats 4000000 in
theorem l_X2_id_o {K : x_K} {set : Int32} {S : x_S} {n : Nat} {fa : Nat → Nat} {bd : Nat} {Z : x_I} (P0 : x_P) (I0 : x_I) (J0 : x_J) (hR0 : c_R fa bd Z S P0 I0 J0 n) (mi : m_I Z) (hnb : m_nb Z = Z) (N : Nat) (hN : (N : Int) = m_ce Z 10) (hc : ∀ (P : x_P) (I : x_I) (J : x_J), p_ex P0 P → x_ex cF I0 I J0 J →  (∀ s c, s < 10 → c < 64 → x_lb (J 17 s) c = decide (0 < u_al Z set (64 * s + c) 4)) → x_V f_X2_countIdle K 112 [some (.ref 8), some (.int set), some (.int (nI 4)), none, none] [] S P I J n 0 0) :
    ∀ d e : Nat, e + d = 4 → ∀ (P : x_P) (I : x_I) (J : x_J), p_ex P0 P → x_ex cF I0 I J0 J →  (∀ s c, s < 10 → c < 64 → x_lb (J 17 s) c = decide (0 < x_sm (fun e => x_ct (u_t Z set (64 * s + c) e) N) e)) → x_V f_X2_countIdle K 10 [some (.ref 8), some (.int set), some (.int (nI e)), none, none] [] S P I J n 0 0 := by
  have hn := mi.hn
  have hfo := mi.fo
  have hbo := mi.bo
  rw [hnb] at hbo
  have hbm := m_ce_in hbo
  intro d
  induction d with
  | zero =>
    intro e hd P I J hpe hex hv
    refine v_iload_n d_X2_countIdle_10 rfl ?_
    refine v_iconst (v := nI 4) d_X2_countIdle_11 x_ic_4 ?_
    refine w_icmp_ge d_X2_countIdle_12 (fun h12 => ?_) (fun h12 => False.elim (by (try simp (disch := omega) only [x_ti, x_tm1] at h12); omega))
    have e1 : e = 4 := by omega
    subst e1
    refine hc P I J hpe hex (fun s c hs hc1 => ?_)
    rw [hv s c hs hc1, ← u_t_al, show (m_ce Z 10).toNat = N by omega]
  | succ d ih =>
    intro e hd P I J hpe hex hv
    refine v_iload_n d_X2_countIdle_10 rfl ?_
    refine v_iconst (v := nI 4) d_X2_countIdle_11 x_ic_4 ?_
    refine w_icmp_ge d_X2_countIdle_12 (fun h12 => False.elim (by (try simp (disch := omega) only [x_ti, x_tm1] at h12); omega)) (fun h12 => ?_)
    refine v_iconst (v := nI 0) d_X2_countIdle_15 x_ic_0 ?_
    refine v_istore_n (ls' := [_, _, _, _, _]) d_X2_countIdle_16 (by decide) rfl ?_
    refine l_X2_id_i P0 I0 J0 hR0 mi hnb N hN e (by omega) (fun P I J hpe hex hv => ?_) N 0 (by omega) P I J hpe hex (fun s c hs hc1 => by rw [hv s c hs hc1]; rfl)
    first | refine v_iinc (ls' := [_, _, _, _, _]) d_X2_countIdle_106 rfl (x_inc_1 _) (by decide) rfl ?_ | refine v_iinc (ls' := [_, _, _, _, _]) d_X2_countIdle_106 rfl rfl (by decide) rfl ?_
    refine v_goto d_X2_countIdle_109 ?_
    refine x_V.fg1 3 (ls' := [_, _, _, _, _]) rfl ?_
    exact ih (e + 1) (by omega) P I J hpe hex hv

set_option maxRecDepth 100000 in
set_option maxHeartbeats 4000000 in
theorem l_X2_id_b {K : x_K} {S : x_S} {P : x_P} {I : x_I} {J : x_J} {n : Nat} {set : Int32} {fa : Nat → Nat} {bd : Nat} {Z : x_I} (hR : c_R fa bd Z S P I J n) (mi : m_I Z) (hnb : m_nb Z = Z) (hv : (∀ s c, s < 10 → c < 64 → x_lb (J 17 s) c = decide (0 < u_al Z set (64 * s + c) 4))) (hK : K (some (.int (nI (x_sm (i_row Z set) (m_ns Z))))) S P I J n) : ∀ d k : Nat, k + d = 10 → x_V f_X2_countIdle K 122 [some (.ref 8), some (.int set), some (.int (nI (x_sm (i_T Z) (m_ns Z) - x_sm (i_B Z set) k))), some (.int (nI k)), none] [] S P I J n 0 0 := by
  have hS := hR.hS
  have hP := hR.hP
  have hn := mi.hn
  have hfo := mi.fo
  have h9 : m_ns Z = (Z 39 2).toInt.toNat := rfl
  intro d
  induction d with
  | zero =>
    intro k hd
    refine v_iload_n d_X2_countIdle_122 rfl ?_
    refine v_bipush (v := nI 10) d_X2_countIdle_123 x_bp_10 ?_
    refine w_icmp_ge d_X2_countIdle_125 (fun h125 => ?_) (fun h125 => False.elim (by (try simp (disch := omega) only [x_ti, x_tm1] at h125); omega))
    refine v_iload_n d_X2_countIdle_146 rfl ?_
    refine v_ret (v := some (.int _)) d_X2_countIdle_147 rfl ⟨rfl, _, rfl, rfl⟩ (by decide) (by decide) ?_
    have e1 : k = 10 := by omega
    subst e1
    have ha := i_all (set := set) mi hnb
    rw [show x_sm (i_T Z) (m_ns Z) - x_sm (i_B Z set) 10 = x_sm (i_row Z set) (m_ns Z) by omega]
    exact hK
  | succ d ih =>
    intro k hd
    have ha := i_all (set := set) mi hnb
    have hm1 := x_sm_mo (i_B Z set) (show k + 1 ≤ 10 by omega)
    rw [x_sm_s] at hm1
    refine v_iload_n d_X2_countIdle_122 rfl ?_
    refine v_bipush (v := nI 10) d_X2_countIdle_123 x_bp_10 ?_
    refine w_icmp_ge d_X2_countIdle_125 (fun h125 => False.elim (by (try simp (disch := omega) only [x_ti, x_tm1] at h125); omega)) (fun h125 => ?_)
    refine v_iload_n d_X2_countIdle_128 rfl ?_
    refine v_aload_n d_X2_countIdle_129 rfl ?_
    refine v_gr d_X2_countIdle_130 lf_X2_26_2 rfl (hS _ _ rfl) (hP _ _ _ rfl) ?_
    refine v_iload_n d_X2_countIdle_133 rfl ?_
    refine v_lald _ d_X2_countIdle_134 (rfl) (hS _ _ rfl) (⟨by omega, by omega⟩) (rfl) ?_
    refine v_cs (as := [_]) (rest := [_]) d_X2_countIdle_135 ls_X2_151 rfl ⟨by decide, by decide⟩ rfl (Nat.le_of_ble_eq_true rfl) (by decide) (by decide) ?_
    refine t_bitL ?_
    refine v_isub d_X2_countIdle_138 ?_
    rw [x_lb_ct (v := J 17 k) (fun c hc1 => hv k c (by omega) hc1), show x_ct (fun c => decide (0 < u_al Z set (64 * k + c) 4)) 64 = i_B Z set k from rfl, x_subN (by omega), Nat.sub_sub]
    refine v_istore_n (ls' := [_, _, _, _, _]) d_X2_countIdle_139 (by decide) rfl ?_
    first | refine v_iinc (ls' := [_, _, _, _, _]) d_X2_countIdle_140 rfl (x_inc_1 _) (by decide) rfl ?_ | refine v_iinc (ls' := [_, _, _, _, _]) d_X2_countIdle_140 rfl rfl (by decide) rfl ?_
    refine v_goto d_X2_countIdle_143 ?_
    exact ih (k + 1) (by omega)

set_option maxRecDepth 100000 in
set_option maxHeartbeats 4000000 in
theorem t_X2_countIdle {K : x_K} {S : x_S} {P : x_P} {I : x_I} {J : x_J} {n : Nat} {set : Int32} {fa : Nat → Nat} {bd : Nat} {Z : x_I} (hR : c_R fa bd Z S P I J n) (mi : m_I Z) (hnb : m_nb Z = Z) (N : Nat) (hN : (N : Int) = m_ce Z 10) (hK : ∀ (P' : x_P) (I' : x_I) (J' : x_J), p_ex P P' → x_ex cF I I' J J' → K (some (.int (nI (x_sm (i_row Z set) (m_ns Z))))) S P' I' J' n) : x_Call f_X2_countIdle [.ref 8, .int set] K S P I J n := by
  have hS := hR.hS
  have hP := hR.hP
  have hn := mi.hn
  have hfo := mi.fo
  have h9 : m_ns Z = (Z 39 2).toInt.toNat := rfl
  refine x_intro (by decide) 3 (ls := [_, _, _, _, _]) rfl (Nat.le_of_ble_eq_true rfl) ?_
  refine v_aload_n d_X2_countIdle_0 rfl ?_
  refine v_gr d_X2_countIdle_1 lf_X2_26_2 rfl (hS _ _ rfl) (hP _ _ _ rfl) ?_
  refine v_lconst (v := 0) d_X2_countIdle_4 rfl ?_
  refine v_cs (as := [_, _]) (rest := []) d_X2_countIdle_5 ls_X2_140 rfl ⟨by decide, by decide⟩ rfl (Nat.le_of_ble_eq_true rfl) (by decide) (by decide) ?_
  refine t_fillL 10 (hS _ _ rfl) (by decide) ?_
  refine v_iconst (v := nI 0) d_X2_countIdle_8 x_ic_0 ?_
  refine v_istore_n (ls' := [_, _, _, _, _]) d_X2_countIdle_9 (by decide) rfl ?_
  have hxj : x_ex cF I I J (x_fi J 17 0 10 0) := x_ex.fj_ x_ex.rf (fun _ => rfl)
  refine l_X2_id_o P I _ (hR.cgF hxj p_ex.rf) mi hnb N hN ?_ 4 0 (by omega) P I _ p_ex.rf x_ex.rf (fun s c hs hc1 => ?_)
  · intro P2 I2 J2 hpe hex hv
    have hR2 := (hR.cgF hxj p_ex.rf).cgF hex hpe
    have hS := hR2.hS
    have hP := hR2.hP
    refine v_aload_n d_X2_countIdle_112 rfl ?_
    refine v_gr d_X2_countIdle_113 lf_X2_42_2 rfl (hS _ _ rfl) (hP _ _ _ rfl) ?_
    refine v_cv (as := []) (rest := []) d_X2_countIdle_116 lv_X2_147_8 (hS _ _ rfl) rfl ⟨by decide, by decide⟩ rfl (Nat.le_of_ble_eq_true rfl) (by decide) (by decide) ?_
    refine t_X8_countTakers hR2 mi ?_
    refine v_istore_n (ls' := [_, _, _, _, _]) d_X2_countIdle_119 (by decide) rfl ?_
    refine v_iconst (v := nI 0) d_X2_countIdle_120 x_ic_0 ?_
    refine v_istore_n (ls' := [_, _, _, _, _]) d_X2_countIdle_121 (by decide) rfl ?_
    exact l_X2_id_b hR2 mi hnb hv (hK P2 I2 J2 hpe (hxj.tr hex)) 10 0 (by omega)
  · rw [x_fi_in _ _ (Nat.zero_le _) (by omega), x_lb_0]
    exact (decide_eq_false (by simp [x_sm])).symm

set_option maxRecDepth 100000 in
set_option maxHeartbeats 4000000 in
theorem t_X11_idle {K : x_K} {S : x_S} {P : x_P} {I : x_I} {J : x_J} {n : Nat} {set : Int32} {fa : Nat → Nat} {bd : Nat} {Z : x_I} (hR : c_R fa bd Z S P I J n) (mi : m_I Z) (hK : c_K K (z_idle Z set) I J n (.int (q_idle Z set))) : x_Call f_X11_idle [.ref 1, .int set] K S P I J n := by
  have hS := hR.hS
  have hP := hR.hP
  have hn := mi.hn
  have hfo := mi.fo
  have h9 : m_ns Z = (Z 39 2).toInt.toNat := rfl
  have hbm := m_ce_in mi.bo
  refine x_intro (by decide) 0 (ls := [_, _]) rfl (Nat.le_of_ble_eq_true rfl) ?_
  refine v_iload_n d_X11_idle_0 rfl ?_
  refine v_cs (as := [_]) (rest := []) d_X11_idle_1 ls_X11_195 rfl ⟨by decide, by decide⟩ rfl (Nat.le_of_ble_eq_true rfl) (by decide) (by decide) ?_
  refine t_X11_isSetOfEyes (fun zq1 => ?_) (fun zq1 => ?_)
  · refine w_if_ne d_X11_idle_4 (fun _ => ?_) (fun h4 => absurd h4 (by decide))
    refine v_aload_n d_X11_idle_10 rfl ?_
    refine v_gr d_X11_idle_11 lf_X11_39_11 rfl (hS _ _ rfl) (hP _ _ _ rfl) ?_
    refine v_iload_n d_X11_idle_14 rfl ?_
    refine v_cv (as := [_]) (rest := []) d_X11_idle_15 lv_X11_209_2 (hS _ _ rfl) rfl ⟨by decide, by decide⟩ rfl (Nat.le_of_ble_eq_true rfl) (by decide) (by decide) ?_
    refine t_X2_countIdle (hR.nb hn.2) mi.nb (m_nb_nb Z) (m_ce (m_nb Z) 10).toNat (by omega) (fun P' I' J' h1 h2 => ?_)
    refine v_ret (v := some (.int _)) d_X11_idle_18 rfl ⟨rfl, _, rfl, rfl⟩ (by decide) (by decide) ?_
    have ec0 : 0 ≤ set.toInt ∧ set.toInt ≤ 15 := zq1
    simp only [q_idle, z_idle, x_if_t ec0] at hK
    exact hK _ _ _ _ _ ⟨fa, bd, (hR.nb hn.2).cgF h2 h1⟩ (h2.FC) (by omega)
  · refine w_if_ne d_X11_idle_4 (fun h4 => absurd h4 (by decide)) (fun _ => ?_)
    refine v_bipush (v := (-2)) d_X11_idle_7 x_bp_m2 ?_
    refine v_ret (v := some (.int _)) d_X11_idle_9 rfl ⟨rfl, _, rfl, rfl⟩ (by decide) (by decide) ?_
    have ec0 : ¬ (0 ≤ set.toInt ∧ set.toInt ≤ 15) := zq1
    simp only [q_idle, z_idle, x_if_f ec0] at hK
    exact hK _ _ _ _ _ ⟨fa, bd, hR⟩ (x_ex.rf) (by omega)

