set_option maxRecDepth 100000 in
set_option maxHeartbeats 4000000 in
theorem l_X2_pf_i {K : x_K} {set : Int32} {S : x_S} {J : x_J} {n : Nat} {fa : Nat → Nat} {bd : Nat} {Z : x_I} (P0 : x_P) (I0 : x_I) (hR0 : c_R fa bd Z S P0 I0 J n) (mi : m_I Z) (hnb : m_nb Z = Z) (N : Nat) (hN : (N : Int) = m_ce Z 10) (e : Nat) (he : e < 4) (hc : ∀ (P : x_P) (I : x_I), p_ex P0 P → x_ex cF I0 I J J →  (∀ e' j', (e' < e ∨ (e' = e ∧ j' < N)) → j' < N → I 15 (64 * e' + j') = r_ans (e_n Z set e' j')) → x_V f_X2_paintFor K 65 [some (.ref 8), some (.int set), some (.int (nI e)), some (.int (nI N))] [] S P I J n 0 0) :
    ∀ d k : Nat, k + d = N → ∀ (P : x_P) (I : x_I), p_ex P0 P → x_ex cF I0 I J J →  (∀ e' j', (e' < e ∨ (e' = e ∧ j' < k)) → j' < N → I 15 (64 * e' + j') = r_ans (e_n Z set e' j')) → x_V f_X2_paintFor K 16 [some (.ref 8), some (.int set), some (.int (nI e)), some (.int (nI k))] [] S P I J n 0 0 := by
  have hn := mi.hn
  have hfo := mi.fo
  have hbo := mi.bo
  rw [hnb] at hbo
  have hbm := m_ce_in hbo
  intro d
  induction d with
  | zero =>
    intro k hd P I hpe hex hv
    have hR := hR0.cgF hex hpe
    have hS := hR.hS
    have hP := hR.hP
    have hceN := hR.fb.ce
    rw [hnb] at hceN
    have hceN := hceN.trans (x_of' (k := N) (by unfold m_ce at hN; omega))
    refine v_iload_n d_X2_paintFor_16 rfl ?_
    refine v_aload_n d_X2_paintFor_17 rfl ?_
    refine v_gr d_X2_paintFor_18 lf_X2_38_2 rfl (hS _ _ rfl) (hR.pb) ?_
    refine v_gie d_X2_paintFor_21 lf_X2_63_1 rfl (hR.sb) (hceN) ?_
    refine w_icmp_ge d_X2_paintFor_24 (fun h24 => ?_) (fun h24 => False.elim (by (try simp (disch := omega) only [x_ti, x_tm1] at h24); omega))
    have e1 : k = N := by omega
    subst e1
    exact hc P I hpe hex hv
  | succ d ih =>
    intro k hd P I hpe hex hv
    have hR := hR0.cgF hex hpe
    have hS := hR.hS
    have hP := hR.hP
    have hceN := hR.fb.ce
    rw [hnb] at hceN
    have hceN := hceN.trans (x_of' (k := N) (by unfold m_ce at hN; omega))
    refine v_iload_n d_X2_paintFor_16 rfl ?_
    refine v_aload_n d_X2_paintFor_17 rfl ?_
    refine v_gr d_X2_paintFor_18 lf_X2_38_2 rfl (hS _ _ rfl) (hR.pb) ?_
    refine v_gie d_X2_paintFor_21 lf_X2_63_1 rfl (hR.sb) (hceN) ?_
    refine w_icmp_ge d_X2_paintFor_24 (fun h24 => False.elim (by (try simp (disch := omega) only [x_ti, x_tm1] at h24); omega)) (fun h24 => ?_)
    refine v_aload_n d_X2_paintFor_27 rfl ?_
    refine v_gr d_X2_paintFor_28 lf_X2_20_2 rfl (hS _ _ rfl) (hP _ _ _ rfl) ?_
    refine v_iload_n d_X2_paintFor_31 rfl ?_
    refine v_bipush (v := nI 64) d_X2_paintFor_32 x_bp_64 ?_
    first | refine v_imulN d_X2_paintFor_34 ?_ | refine v_imul d_X2_paintFor_34 ?_
    refine v_iload_n d_X2_paintFor_35 rfl ?_
    first | refine v_iaddN d_X2_paintFor_36 ?_ | refine v_iadd d_X2_paintFor_36 ?_
    refine v_aload_n d_X2_paintFor_37 rfl ?_
    refine v_iload_n d_X2_paintFor_38 rfl ?_
    refine v_iload_n d_X2_paintFor_39 rfl ?_
    refine v_iload_n d_X2_paintFor_40 rfl ?_
    refine v_cv (as := [_, _, _]) (rest := [_, _]) d_X2_paintFor_41 lv_X2_96_2 (hS _ _ rfl) rfl ⟨by decide, by decide⟩ rfl (Nat.le_of_ble_eq_true rfl) (by decide) (by decide) ?_
    refine t_X2_isWish hR mi e k rfl he rfl (by omega) (fun zq => ?_) (fun zq => ?_)
    · refine w_if_eq d_X2_paintFor_44 (fun h44 => absurd h44 (by decide)) (fun _ => ?_)
      refine v_aload_n d_X2_paintFor_47 rfl ?_
      refine v_iload_n d_X2_paintFor_48 rfl ?_
      refine v_iload_n d_X2_paintFor_49 rfl ?_
      refine v_cv (as := [_, _]) (rest := [_, _]) d_X2_paintFor_50 lv_X2_100_2 (hS _ _ rfl) rfl ⟨by decide, by decide⟩ rfl (Nat.le_of_ble_eq_true rfl) (by decide) (by decide) ?_
      refine t_X2_look hR mi hnb e k rfl he rfl (by omega) (fun P' I' h1 h2 => ?_)
      have hP := h1.hP hP
      refine v_goto d_X2_paintFor_53 ?_
      refine v_iast (64 * e + k) d_X2_paintFor_58 (by rw [Nat.mul_comm]) (hS _ _ rfl) (⟨by omega, by omega⟩) ?_
      first | refine v_iinc (ls' := [_, _, _, _]) d_X2_paintFor_59 rfl (x_inc_1 _) (by decide) rfl ?_ | refine v_iinc (ls' := [_, _, _, _]) d_X2_paintFor_59 rfl rfl (by decide) rfl ?_
      refine v_goto d_X2_paintFor_62 ?_
      first
        | (refine ih (k + 1) (by omega) P' _ (hpe.tr h1) ((hex.tr h2.EF).ui (a := 15) (k := 64 * e + k) rfl) (fun e' j' h1' h2' => ?_)
           rw [x_u2_at]
           by_cases zw : e' = e ∧ j' = k
           · obtain ⟨rfl, rfl⟩ := zw
             rw [if_pos ⟨rfl, rfl⟩]
             unfold e_n; rw [decide_eq_true zq.1, zq.2]; rfl
           · rw [if_neg (fun q => zw (by omega))]
             rw [h2.i 15 _ rfl]
             exact hv e' j' (by omega) h2')
        | (refine ih (k + 1) (by omega) P _ (hpe) ((hex).ui (a := 15) (k := 64 * e + k) rfl) (fun e' j' h1' h2' => ?_)
           rw [x_u2_at]
           by_cases zw : e' = e ∧ j' = k
           · obtain ⟨rfl, rfl⟩ := zw
             rw [if_pos ⟨rfl, rfl⟩]
             unfold e_n; rw [show (decide (x_bt set e' = 1) && w_is Z e' j') = false from by rw [Bool.eq_false_iff]; intro zh; simp only [Bool.and_eq_true, decide_eq_true_eq] at zh; exact zq zh]; rfl
           · rw [if_neg (fun q => zw (by omega))]
             exact hv e' j' (by omega) h2')
    · refine w_if_eq d_X2_paintFor_44 (fun _ => ?_) (fun h44 => absurd h44 (by decide))
      refine v_bipush (v := (-9)) d_X2_paintFor_56 x_bp_m9 ?_
      refine v_iast (64 * e + k) d_X2_paintFor_58 (by rw [Nat.mul_comm]) (hS _ _ rfl) (⟨by omega, by omega⟩) ?_
      first | refine v_iinc (ls' := [_, _, _, _]) d_X2_paintFor_59 rfl (x_inc_1 _) (by decide) rfl ?_ | refine v_iinc (ls' := [_, _, _, _]) d_X2_paintFor_59 rfl rfl (by decide) rfl ?_
      refine v_goto d_X2_paintFor_62 ?_
      first
        | (refine ih (k + 1) (by omega) P' _ (hpe.tr h1) ((hex.tr h2.EF).ui (a := 15) (k := 64 * e + k) rfl) (fun e' j' h1' h2' => ?_)
           rw [x_u2_at]
           by_cases zw : e' = e ∧ j' = k
           · obtain ⟨rfl, rfl⟩ := zw
             rw [if_pos ⟨rfl, rfl⟩]
             unfold e_n; rw [decide_eq_true zq.1, zq.2]; rfl
           · rw [if_neg (fun q => zw (by omega))]
             rw [h2.i 15 _ rfl]
             exact hv e' j' (by omega) h2')
        | (refine ih (k + 1) (by omega) P _ (hpe) ((hex).ui (a := 15) (k := 64 * e + k) rfl) (fun e' j' h1' h2' => ?_)
           rw [x_u2_at]
           by_cases zw : e' = e ∧ j' = k
           · obtain ⟨rfl, rfl⟩ := zw
             rw [if_pos ⟨rfl, rfl⟩]
             unfold e_n; rw [show (decide (x_bt set e' = 1) && w_is Z e' j') = false from by rw [Bool.eq_false_iff]; intro zh; simp only [Bool.and_eq_true, decide_eq_true_eq] at zh; exact zq zh]; rfl
           · rw [if_neg (fun q => zw (by omega))]
             exact hv e' j' (by omega) h2')

set_option maxRecDepth 100000 in
set_option maxHeartbeats 4000000 in
theorem l_X2_pf_o {K : x_K} {set : Int32} {S : x_S} {J : x_J} {n : Nat} {fa : Nat → Nat} {bd : Nat} {Z : x_I} (P0 : x_P) (I0 : x_I) (hR0 : c_R fa bd Z S P0 I0 J n) (mi : m_I Z) (hnb : m_nb Z = Z) (N : Nat) (hN : (N : Int) = m_ce Z 10) (hc : ∀ (P : x_P) (I : x_I), p_ex P0 P → x_ex cF I0 I J J →  (∀ e' j', e' < 4 → j' < N → I 15 (64 * e' + j') = r_ans (e_n Z set e' j')) → x_V f_X2_paintFor K 73 [some (.ref 8), some (.int set), some (.int (nI 0)), none] [] S P I J n 0 0) :
    ∀ d e : Nat, e + d = 4 → ∀ (P : x_P) (I : x_I), p_ex P0 P → x_ex cF I0 I J J →  (∀ e' j', (e' < e ∨ (e' = e ∧ j' < 0)) → j' < N → I 15 (64 * e' + j') = r_ans (e_n Z set e' j')) → x_V f_X2_paintFor K 9 [some (.ref 8), some (.int set), some (.int (nI e)), none] [] S P I J n 0 0 := by
  have hn := mi.hn
  have hfo := mi.fo
  have hbo := mi.bo
  rw [hnb] at hbo
  have hbm := m_ce_in hbo
  intro d
  induction d with
  | zero =>
    intro e hd P I hpe hex hv
    refine v_iload_n d_X2_paintFor_9 rfl ?_
    refine v_iconst (v := nI 4) d_X2_paintFor_10 x_ic_4 ?_
    refine w_icmp_ge d_X2_paintFor_11 (fun h11 => ?_) (fun h11 => False.elim (by (try simp (disch := omega) only [x_ti, x_tm1] at h11); omega))
    refine v_iconst (v := nI 0) d_X2_paintFor_71 x_ic_0 ?_
    refine v_istore_n (ls' := [_, _, _, _]) d_X2_paintFor_72 (by decide) rfl ?_
    refine hc P I hpe hex (fun e' j' h1' h2' => hv e' j' (by omega) h2')
  | succ d ih =>
    intro e hd P I hpe hex hv
    refine v_iload_n d_X2_paintFor_9 rfl ?_
    refine v_iconst (v := nI 4) d_X2_paintFor_10 x_ic_4 ?_
    refine w_icmp_ge d_X2_paintFor_11 (fun h11 => False.elim (by (try simp (disch := omega) only [x_ti, x_tm1] at h11); omega)) (fun h11 => ?_)
    refine v_iconst (v := nI 0) d_X2_paintFor_14 x_ic_0 ?_
    refine v_istore_n (ls' := [_, _, _, _]) d_X2_paintFor_15 (by decide) rfl ?_
    refine l_X2_pf_i P0 I0 hR0 mi hnb N hN e (by omega) (fun P I hpe hex hv => ?_) N 0 (by omega) P I hpe hex (fun e' j' h1' h2' => hv e' j' (by omega) h2')
    first | refine v_iinc (ls' := [_, _, _, _]) d_X2_paintFor_65 rfl (x_inc_1 _) (by decide) rfl ?_ | refine v_iinc (ls' := [_, _, _, _]) d_X2_paintFor_65 rfl rfl (by decide) rfl ?_
    refine v_goto d_X2_paintFor_68 ?_
    refine x_V.fg1 3 (ls' := [_, _, _, _]) rfl ?_
    exact ih (e + 1) (by omega) P I hpe hex (fun e' j' h1' h2' => hv e' j' (by omega) h2')

set_option maxRecDepth 100000 in
set_option maxHeartbeats 4000000 in
theorem l_X2_pf_s {K : x_K} {P : x_P} {S : x_S} {J : x_J} {n : Nat} {fa : Nat → Nat} {bd : Nat} {Z : x_I} {set : Int32} (I0 : x_I) (mi : m_I Z) (hnb : m_nb Z = Z) (N : Nat) (hN : (N : Int) = m_ce Z 10) (hK : ∀ (I Z2 : x_I), c_R fa bd Z2 S P I J n → x_ex cC I0 I J J → (∀ b j, b ≠ 42 → Z2 b j = Z b j) → g_co Z2 → (∀ t j, t < m_ns Z → j < (m_ce Z t).toNat → Z2 42 (64 * t + j) = v_pa Z set (64 * t + j)) → K none S P I J n) :
    ∀ d s : Nat, s + d = m_ns Z → ∀ (I Z2 : x_I), c_R fa bd Z2 S P I J n → x_ex cC I0 I J J → (∀ e j, e < 4 → j < N → I 15 (64 * e + j) = r_ans (e_n Z set e j)) → (∀ b j, b ≠ 42 → Z2 b j = Z b j) → g_co Z2 → (∀ t j, t < s → j < (m_ce Z t).toNat → Z2 42 (64 * t + j) = v_pa Z set (64 * t + j)) → (∀ t j, s ≤ t → t < m_ns Z → j < 64 → (Z2 42 (64 * t + j)).toInt = 0) → x_V f_X2_paintFor K 73 [some (.ref 8), some (.int set), some (.int (nI s)), none] [] S P I J n 0 0 := by
  have hn := mi.hn
  have hfo := mi.fo
  have h9 : m_ns Z = (Z 39 2).toInt.toNat := rfl
  intro d
  induction d with
  | zero =>
    intro s hd I Z2 hR hex hen hz hco hk1 hk2
    have hS := hR.hS
    have hP := hR.hP
    refine v_iload_n d_X2_paintFor_73 rfl ?_
    refine v_aload_n d_X2_paintFor_74 rfl ?_
    refine v_gr d_X2_paintFor_75 lf_X2_42_2 rfl (hS _ _ rfl) (hP _ _ _ rfl) ?_
    refine v_gie d_X2_paintFor_78 lf_X2_114_8 rfl (hS _ _ rfl) (hR.ns.trans (hz 39 2 (by decide))) ?_
    refine w_icmp_ge d_X2_paintFor_81 (fun h81 => ?_) (fun h81 => False.elim (by (try simp (disch := omega) only [x_ti, x_tm1] at h81); omega))
    refine v_ret (v := none) d_X2_paintFor_95 rfl ⟨rfl, rfl⟩ (by decide) (by decide) ?_
    have e1 : s = m_ns Z := by omega
    subst e1
    exact hK I Z2 hR hex hz hco hk1
  | succ d ih =>
    intro s hd I Z2 hR hex hen hz hco hk1 hk2
    have hS := hR.hS
    have hP := hR.hP
    refine v_iload_n d_X2_paintFor_73 rfl ?_
    refine v_aload_n d_X2_paintFor_74 rfl ?_
    refine v_gr d_X2_paintFor_75 lf_X2_42_2 rfl (hS _ _ rfl) (hP _ _ _ rfl) ?_
    refine v_gie d_X2_paintFor_78 lf_X2_114_8 rfl (hS _ _ rfl) (hR.ns.trans (hz 39 2 (by decide))) ?_
    refine w_icmp_ge d_X2_paintFor_81 (fun h81 => False.elim (by (try simp (disch := omega) only [x_ti, x_tm1] at h81); omega)) (fun h81 => ?_)
    refine v_aload_n d_X2_paintFor_84 rfl ?_
    refine v_iload_n d_X2_paintFor_85 rfl ?_
    refine v_cv (as := [_]) (rest := []) d_X2_paintFor_86 lv_X2_117_2 (hS _ _ rfl) rfl ⟨by decide, by decide⟩ rfl (Nat.le_of_ble_eq_true rfl) (by decide) (by decide) ?_
    refine t_X2_paintWall hR (mi.c42 hz hco) mi hnb hz N s rfl hN (by omega) hen (fun j hj => hk2 s j (Nat.le_refl _) (by omega) hj) (fun I3 Z3 g1 g2 g3 g4 g5 g6 g7 => ?_)
    first | refine v_iinc (ls' := [_, _, _, _]) d_X2_paintFor_89 rfl (x_inc_1 _) (by decide) rfl ?_ | refine v_iinc (ls' := [_, _, _, _]) d_X2_paintFor_89 rfl rfl (by decide) rfl ?_
    refine v_goto d_X2_paintFor_92 ?_
    refine ih (s + 1) (by omega) I3 Z3 g1 (hex.tr g2) (fun e j he hj => (g3 _).trans (hen e j he hj)) g4 g5 (fun t j ht hj => ?_) (fun t j ht ht2 hj => ?_)
    · by_cases w : t = s
      · subst w; exact g6 j hj
      · have := m_ce_in (hfo t (by omega))
        rw [g7 t j w (by omega)]; exact hk1 t j (by omega) hj
    · rw [g7 t j (by omega) hj]; exact hk2 t j (by omega) ht2 hj

theorem g_co_0 {Z : x_I} : g_co (x_fi Z 42 0 640 0) := fun k hk => by
  rw [x_fi_in _ _ (Nat.zero_le _) (by omega)]; decide
theorem z_pa1_42 {Z : x_I} {k : Nat} (hk : k < 640) : z_pa1 Z 42 k = 0 := by
  unfold z_pa1
  rw [m_nb_at _ (by decide) (by omega), x_fi_in _ _ (Nat.zero_le _) (by omega)]

set_option maxRecDepth 100000 in
set_option maxHeartbeats 4000000 in
theorem t_X2_paintFor {K : x_K} {S : x_S} {P : x_P} {I : x_I} {J : x_J} {n : Nat} {set : Int32} {fa : Nat → Nat} {bd : Nat} {Z : x_I} (hR : c_R fa bd Z S P I J n) (mi : m_I Z) (hK : ∀ (P' : x_P) (I' : x_I), p_ex P P' → x_ex cC I I' J J → c_R fa bd (x_fg (z_pa1 Z) 42 0 640 (v_pa (z_pa1 Z) set)) S P' I' J n → K none S P' I' J n) : x_Call f_X2_paintFor [.ref 8, .int set] K S P I J n := by
  have hS := hR.hS
  have hP := hR.hP
  have hn := mi.hn
  have hfo := mi.fo
  have h9 : m_ns Z = (Z 39 2).toInt.toNat := rfl
  refine x_intro (by decide) 2 (ls := [_, _, _, _]) rfl (Nat.le_of_ble_eq_true rfl) ?_
  refine v_aload_n d_X2_paintFor_0 rfl ?_
  refine v_gr d_X2_paintFor_1 lf_X2_42_2 rfl (hS _ _ rfl) (hP _ _ _ rfl) ?_
  refine v_cv (as := []) (rest := []) d_X2_paintFor_4 lv_X2_111_8 (hS _ _ rfl) rfl ⟨by decide, by decide⟩ rfl (Nat.le_of_ble_eq_true rfl) (by decide) (by decide) ?_
  refine t_X8_becomeBare hR mi (fun I2 k1 k2 => ?_)
  refine v_iconst (v := nI 0) d_X2_paintFor_7 x_ic_0 ?_
  refine v_istore_n (ls' := [_, _, _, _]) d_X2_paintFor_8 (by decide) rfl ?_
  have hR1 : c_R fa bd (x_fi Z 42 0 640 0) S P I2 J n := hR.cs_ hn.2 (fun b j hb => x_fi_na _ _ _ _ _ hb) k2 (fun s hs j hj => by have := m_ce_in (hfo s hs); rw [k1 s hs j hj, x_fi_in _ _ (by omega) (by omega)])
  have mi1 : m_I (x_fi Z 42 0 640 0) := mi.c42 (fun b j hb => x_fi_na _ _ _ _ _ hb) g_co_0
  have hRz : c_R fa bd (z_pa1 Z) S P I2 J n := hR1.nb mi1.hn.2
  have miz : m_I (z_pa1 Z) := mi1.nb
  have hnb : m_nb (z_pa1 Z) = (z_pa1 Z) := m_nb_nb _
  have hbo := miz.bo
  rw [hnb] at hbo
  have hbm := m_ce_in hbo
  have hx2 : x_ex cC I I2 J J := fun b j hj => ⟨by have hb2 := cC_no hj; exact k2 b j (fun s hs => by have := (hR.w hs).ad; omega), rfl⟩
  have ens : m_ns (z_pa1 Z) = m_ns Z := by unfold m_ns z_pa1; rw [m_nb_at _ (by decide) (by decide), x_fi_na _ _ _ _ _ (by decide)]
  refine l_X2_pf_o P I2 hRz miz hnb (m_ce (z_pa1 Z) 10).toNat (by omega) ?_ 4 0 (by omega) P I2 p_ex.rf x_ex.rf (fun e' j' h1' h2' => by omega)
  intro P3 I3 hpe hex hen
  refine l_X2_pf_s I2 miz hnb (m_ce (z_pa1 Z) 10).toNat (by omega) ?_ (m_ns (z_pa1 Z)) 0 (by omega) I3 (z_pa1 Z) (hRz.cgF hex hpe) hex.FC hen (fun _ _ _ => rfl) miz.co (fun t j ht => absurd ht (Nat.not_lt_zero _)) (fun t j _ ht hj => by rw [z_pa1_42 (by omega)]; decide)
  intro I4 Z4 g1 g2 g3 g4 g5
  refine hK P3 I4 hpe (hx2.tr g2) (g1.cs_ (by rw [g3 39 2 (by decide)]; exact miz.hn.2) (fun b j hb => ?_) (fun _ _ _ => rfl) (fun s hs j hj => ?_))
  · rw [x_fg_na _ _ _ _ _ hb, g3 b j hb]
  · have hs2 : s < m_ns (z_pa1 Z) := by unfold m_ns at hs ⊢; rw [g3 39 2 (by decide)] at hs; exact hs
    have ec : m_ce Z4 s = m_ce (z_pa1 Z) s := m_ce_sm (fun k _ => g3 41 _ (by decide))
    rw [ec] at hj
    have hm2 := m_ce_in (miz.fo s hs2)
    have hw4 := (g1.w hs).co j (by rw [ec]; exact hj)
    have h10 : s < 10 := by have := miz.hn; unfold m_ns at hs2; omega
    rw [hw4, g5 s j hs2 hj, x_fg_in _ _ (Nat.zero_le _) (by omega), Nat.sub_zero]

theorem v_pa_in (Z : x_I) (set : Int32) (q : Nat) : 0 ≤ (v_pa Z set q).toInt ∧ (v_pa Z set q).toInt ≤ 9 := by
  have zb : b_be (fun c => v_al Z set (10 * q + c) 4) 10 < 10 := b_be_lt _ 9
  unfold v_pa
  rw [x_ti (by omega)]
  omega
theorem m_I.pa {Z : x_I} {set : Int32} (h : m_I Z) : m_I (x_fg (z_pa1 Z) 42 0 640 (v_pa (z_pa1 Z) set)) := by
  have mi1 : m_I (x_fi Z 42 0 640 0) := h.c42 (fun b j hb => x_fi_na _ _ _ _ _ hb) g_co_0
  refine mi1.nb.c42 (fun b j hb => x_fg_na _ _ _ _ _ hb) (fun k hk => ?_)
  rw [x_fg_in _ _ (Nat.zero_le _) (by omega)]
  exact v_pa_in _ _ _

set_option maxRecDepth 100000 in
set_option maxHeartbeats 4000000 in
theorem t_X11_painting {K : x_K} {S : x_S} {P : x_P} {I : x_I} {J : x_J} {n : Nat} {set : Int32} {fa : Nat → Nat} {bd : Nat} {Z : x_I} (hR : c_R fa bd Z S P I J n) (mi : m_I Z) (hK : c_K K (z_painting Z set) I J n (.int (q_painting Z set))) : x_Call f_X11_painting [.ref 1, .int set] K S P I J n := by
  have hS := hR.hS
  have hP := hR.hP
  have hn := mi.hn
  have hfo := mi.fo
  have h9 : m_ns Z = (Z 39 2).toInt.toNat := rfl
  refine x_intro (by decide) 0 (ls := [_, _]) rfl (Nat.le_of_ble_eq_true rfl) ?_
  refine v_iload_n d_X11_painting_0 rfl ?_
  refine v_cs (as := [_]) (rest := []) d_X11_painting_1 ls_X11_195 rfl ⟨by decide, by decide⟩ rfl (Nat.le_of_ble_eq_true rfl) (by decide) (by decide) ?_
  refine t_X11_isSetOfEyes (fun zq1 => ?_) (fun zq1 => ?_)
  · refine w_if_ne d_X11_painting_4 (fun _ => ?_) (fun h4 => absurd h4 (by decide))
    refine v_aload_n d_X11_painting_10 rfl ?_
    refine v_gr d_X11_painting_11 lf_X11_39_11 rfl (hS _ _ rfl) (hP _ _ _ rfl) ?_
    refine v_iload_n d_X11_painting_14 rfl ?_
    refine v_cv (as := [_]) (rest := []) d_X11_painting_15 lv_X11_201_2 (hS _ _ rfl) rfl ⟨by decide, by decide⟩ rfl (Nat.le_of_ble_eq_true rfl) (by decide) (by decide) ?_
    refine t_X2_paintFor hR mi (fun P' I' h1 h2 h3 => ?_)
    have hS := h3.hS
    have hP := h3.hP
    refine v_aload_n d_X11_painting_18 rfl ?_
    refine v_gr d_X11_painting_19 lf_X11_21_11 rfl (hS _ _ rfl) (hP _ _ _ rfl) ?_
    refine v_cv (as := []) (rest := []) d_X11_painting_22 lv_X11_205_8 (hS _ _ rfl) rfl ⟨by decide, by decide⟩ rfl (Nat.le_of_ble_eq_true rfl) (by decide) (by decide) ?_
    refine t_X8_notBare h3 mi.pa ?_
    refine v_ret (v := some (.int _)) d_X11_painting_25 rfl ⟨rfl, _, rfl, rfl⟩ (by decide) (by decide) ?_
    have ec0 : 0 ≤ set.toInt ∧ set.toInt ≤ 15 := zq1
    simp only [q_painting, z_painting, x_if_t ec0] at hK
    exact hK _ _ _ _ _ ⟨fa, bd, h3⟩ (h2) (by omega)
  · refine w_if_ne d_X11_painting_4 (fun h4 => absurd h4 (by decide)) (fun _ => ?_)
    refine v_bipush (v := (-2)) d_X11_painting_7 x_bp_m2 ?_
    refine v_ret (v := some (.int _)) d_X11_painting_9 rfl ⟨rfl, _, rfl, rfl⟩ (by decide) (by decide) ?_
    have ec0 : ¬ (0 ≤ set.toInt ∧ set.toInt ≤ 15) := zq1
    simp only [q_painting, z_painting, x_if_f ec0] at hK
    exact hK _ _ _ _ _ ⟨fa, bd, hR⟩ (x_ex.rf) (by omega)

