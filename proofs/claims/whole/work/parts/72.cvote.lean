set_option maxRecDepth 100000 in
set_option maxHeartbeats 4000000 in
theorem l_X2_most {K : x_K} {S : x_S} {P : x_P} {I : x_I} {J : x_J} {n : Nat} {c : Nat} (V : Nat → Nat) (hV : ∀ v, V v ≤ 256) (hv : ∀ v, v < 10 → I 16 (10 * c + v) = nI (V v)) (hc : c < 64) (hS : x_hS S) (hP : x_hP P) (hK : K (some (.int (nI (b_be V 10)))) S P I J n) : ∀ d k : Nat, k + d = 9 → x_V f_X2_mostVoted K 4 [some (.ref 8), some (.int (nI c)), some (.int (nI (b_be V (k + 1)))), some (.int (nI (k + 1)))] [] S P I J n 0 0 := by
  intro d
  induction d with
  | zero =>
    intro k hd
    have e1 : k = 9 := by omega
    subst e1
    refine v_iload_n d_X2_mostVoted_4 rfl ?_
    refine v_bipush (v := nI 9) d_X2_mostVoted_5 x_bp_9 ?_
    refine w_icmp_gt d_X2_mostVoted_7 (fun h7 => ?_) (fun h7 => False.elim (by (try simp (disch := omega) only [x_ti, x_tm1] at h7); omega))
    refine v_iload_n d_X2_mostVoted_43 rfl ?_
    refine v_ret (v := some (.int _)) d_X2_mostVoted_44 rfl ⟨rfl, _, rfl, rfl⟩ (by decide) (by decide) ?_
    exact hK
  | succ d ih =>
    intro k hd
    have hb0 := b_be_lt V k
    refine v_iload_n d_X2_mostVoted_4 rfl ?_
    refine v_bipush (v := nI 9) d_X2_mostVoted_5 x_bp_9 ?_
    refine w_icmp_gt d_X2_mostVoted_7 (fun h7 => False.elim (by (try simp (disch := omega) only [x_ti, x_tm1] at h7); omega)) (fun h7 => ?_)
    refine v_aload_n d_X2_mostVoted_10 rfl ?_
    refine v_gr d_X2_mostVoted_11 lf_X2_23_2 rfl (hS _ _ rfl) (hP _ _ _ rfl) ?_
    refine v_iload_n d_X2_mostVoted_14 rfl ?_
    refine v_bipush (v := nI 10) d_X2_mostVoted_15 x_bp_10 ?_
    first | refine v_imulN d_X2_mostVoted_17 ?_ | refine v_imul d_X2_mostVoted_17 ?_
    refine v_iload_n d_X2_mostVoted_18 rfl ?_
    first | refine v_iaddN d_X2_mostVoted_19 ?_ | refine v_iadd d_X2_mostVoted_19 ?_
    refine v_iald (10 * c + (k + 1)) d_X2_mostVoted_20 (by rw [Nat.mul_comm]) (hS _ _ rfl) (⟨by omega, by omega⟩) (hv (k + 1) (by omega)) ?_
    refine v_aload_n d_X2_mostVoted_21 rfl ?_
    refine v_gr d_X2_mostVoted_22 lf_X2_23_2 rfl (hS _ _ rfl) (hP _ _ _ rfl) ?_
    refine v_iload_n d_X2_mostVoted_25 rfl ?_
    refine v_bipush (v := nI 10) d_X2_mostVoted_26 x_bp_10 ?_
    first | refine v_imulN d_X2_mostVoted_28 ?_ | refine v_imul d_X2_mostVoted_28 ?_
    refine v_iload_n d_X2_mostVoted_29 rfl ?_
    first | refine v_iaddN d_X2_mostVoted_30 ?_ | refine v_iadd d_X2_mostVoted_30 ?_
    refine v_iald (10 * c + b_be V (k + 1)) d_X2_mostVoted_31 (by rw [Nat.mul_comm]) (hS _ _ rfl) (⟨by omega, by omega⟩) (hv (b_be V (k + 1)) (by omega)) ?_
    have hV1 := hV (k + 1)
    have hV2 := hV (b_be V (k + 1))
    refine w_icmp_le d_X2_mostVoted_32 (fun a32 => ?_) (fun a32 => ?_)
    · first | refine v_iinc (ls' := [_, _, _, _]) d_X2_mostVoted_37 rfl (x_inc_1 _) (by decide) rfl ?_ | refine v_iinc (ls' := [_, _, _, _]) d_X2_mostVoted_37 rfl rfl (by decide) rfl ?_
      refine v_goto d_X2_mostVoted_40 ?_
      rw [x_ti (by omega), x_ti (by omega)] at a32
      have hlt := b_be_lt V k
      first
        | (have eb : b_be V (k + 1 + 1) = k + 1 := by rw [b_be, if_pos (by omega)]
           have hi := ih (k + 1) (by omega)
           rw [eb] at hi
           exact hi)
        | (have eb : b_be V (k + 1 + 1) = b_be V (k + 1) := by rw [b_be, if_neg (by omega)]
           have hi := ih (k + 1) (by omega)
           rw [eb] at hi
           exact hi)
    · refine v_iload_n d_X2_mostVoted_35 rfl ?_
      refine v_istore_n (ls' := [_, _, _, _]) d_X2_mostVoted_36 (by decide) rfl ?_
      first | refine v_iinc (ls' := [_, _, _, _]) d_X2_mostVoted_37 rfl (x_inc_1 _) (by decide) rfl ?_ | refine v_iinc (ls' := [_, _, _, _]) d_X2_mostVoted_37 rfl rfl (by decide) rfl ?_
      refine v_goto d_X2_mostVoted_40 ?_
      rw [x_ti (by omega), x_ti (by omega)] at a32
      have hlt := b_be_lt V k
      first
        | (have eb : b_be V (k + 1 + 1) = k + 1 := by rw [b_be, if_pos (by omega)]
           have hi := ih (k + 1) (by omega)
           rw [eb] at hi
           exact hi)
        | (have eb : b_be V (k + 1 + 1) = b_be V (k + 1) := by rw [b_be, if_neg (by omega)]
           have hi := ih (k + 1) (by omega)
           rw [eb] at hi
           exact hi)

set_option maxRecDepth 100000 in
set_option maxHeartbeats 4000000 in
theorem t_X2_mostVoted {K : x_K} {S : x_S} {P : x_P} {I : x_I} {J : x_J} {n : Nat} {x : Int32} {c : Nat} (hx : x = nI c) (V : Nat → Nat) (hV : ∀ v, V v ≤ 256) (hv : ∀ v, v < 10 → I 16 (10 * c + v) = nI (V v)) (hc : c < 64) (hS : x_hS S) (hP : x_hP P) (hK : K (some (.int (nI (b_be V 10)))) S P I J n) : x_Call f_X2_mostVoted [.ref 8, .int x] K S P I J n := by
  subst hx
  refine x_intro (by decide) 2 (ls := [_, _, _, _]) rfl (Nat.le_of_ble_eq_true rfl) ?_
  refine v_iconst (v := nI 0) d_X2_mostVoted_0 x_ic_0 ?_
  refine v_istore_n (ls' := [_, _, _, _]) d_X2_mostVoted_1 (by decide) rfl ?_
  refine v_iconst (v := nI 1) d_X2_mostVoted_2 x_ic_1 ?_
  refine v_istore_n (ls' := [_, _, _, _]) d_X2_mostVoted_3 (by decide) rfl ?_
  have hl := l_X2_most V hV hv hc hS hP hK 9 0 (by omega)
  rw [b_be1] at hl
  exact hl

def e_n (Z : x_I) (set : Int32) (e j : Nat) : Option (Nat × Nat) := bif (decide (x_bt set e = 1) && w_is Z e j) then (r_sby Z e j).1 else none
theorem e_n_in {Z : x_I} {set : Int32} (mi : m_I Z) (hnb : m_nb Z = Z) {e j : Nat} (he : e < 4) (hj : (j : Int) < m_ce Z 10) {s c : Nat} (h : e_n Z set e j = some (s, c)) : s < m_ns Z ∧ (c : Int) < m_ce Z s ∧ c < 64 ∧ r_tb Z s c = false := by
  unfold e_n at h
  cases hc : (decide (x_bt set e = 1) && w_is Z e j) with
  | false => rw [hc] at h; cases h
  | true =>
    rw [hc] at h
    have hbo := mi.bo
    rw [hnb] at hbo
    exact r_sby_in he mi.es hbo hj mi.fo h
def v_t (Z : x_I) (set : Int32) (s c v e j : Nat) : Bool := decide (x_bt set e = 1) && v_at Z (10 * (64 * s + c) + v) e j
theorem v_t_n {Z : x_I} {set : Int32} {s c v e j : Nat} (h : e_n Z set e j = none) : v_t Z set s c v e j = false := by
  unfold e_n at h
  unfold v_t v_at
  cases h1 : decide (x_bt set e = 1) <;> cases h2 : w_is Z e j <;> rw [h1, h2] at h <;> simp at h ⊢
  rw [h]
theorem v_t_s {Z : x_I} {set : Int32} {s c v e j s' c' : Nat} (h : e_n Z set e j = some (s', c')) (h1 : c < 64) (h2 : c' < 64) (h3 : v < 10) (h4 : x_k (Z 44 (64 * e + j)) < 10) : v_t Z set s c v e j = decide (s' = s ∧ c' = c ∧ x_k (Z 44 (64 * e + j)) = v) := by
  unfold e_n at h
  have hq : (decide (x_bt set e = 1) && w_is Z e j) = true := by
    cases hc : (decide (x_bt set e = 1) && w_is Z e j) with
    | true => rfl
    | false => rw [hc] at h; cases h
  rw [hq] at h
  simp only [Bool.and_eq_true] at hq
  have h : (r_sby Z e j).1 = some (s', c') := h
  unfold v_t v_at
  rw [hq.1, hq.2, h]
  generalize x_k (Z 44 (64 * e + j)) = pk at h4 ⊢
  show decide (10 * (64 * s' + c') + pk = 10 * (64 * s + c) + v) = _
  refine decide_eq_decide.mpr ⟨fun q => ?_, fun q => ?_⟩
  · have e1 : 64 * s' + c' = 64 * s + c := by omega
    exact ⟨by omega, by omega, by omega⟩
  · obtain ⟨rfl, rfl, rfl⟩ := q
    rfl
theorem v_t_al (Z : x_I) (set : Int32) (s c v : Nat) : x_sm (fun e => x_ct (v_t Z set s c v e) (m_ce Z 10).toNat) 4 = v_al Z set (10 * (64 * s + c) + v) 4 := by
  unfold v_al
  exact x_sm_cg 4 (fun e _ => (w_sum_ct Z _ set e).symm)
theorem v_pa_mir {Z : x_I} {set : Int32} (mi : m_I Z) (hnb : m_nb Z = Z) {s c : Nat} (hc : c < 64) (hk : (Z 40 s).toInt = 1) : v_pa Z set (64 * s + c) = nI 0 := by
  have hbo := mi.bo
  rw [hnb] at hbo
  have hbm := m_ce_in hbo
  have h0 : ∀ v, v < 10 → v_al Z set (10 * (64 * s + c) + v) 4 = 0 := fun v hv => by
    rw [← v_t_al]
    have : ∀ e, e < 4 → ∀ n, n ≤ (m_ce Z 10).toNat → x_ct (v_t Z set s c v e) n = 0 := by
      intro e he n
      induction n with
      | zero => intro _; rfl
      | succ n ih =>
        intro hn
        rw [← x_ct_n, ih (by omega)]
        cases h : e_n Z set e n with
        | none => exact v_t_n h
        | some w =>
          obtain ⟨s', c'⟩ := w
          have hin := e_n_in mi hnb he (by omega) h
          have hpc := mi.pc (64 * e + n) (by omega)
          rw [v_t_s h hc hin.2.2.1 hv (by unfold x_k; omega)]
          refine decide_eq_false (fun q => ?_)
          have ht := hin.2.2.2
          rw [q.1] at ht
          unfold r_tb at ht
          exact of_decide_eq_false ht (Or.inl hk)
    simp only [x_sm, this 0 (by omega) _ (Nat.le_refl _), this 1 (by omega) _ (Nat.le_refl _), this 2 (by omega) _ (Nat.le_refl _), this 3 (by omega) _ (Nat.le_refl _)]
  unfold v_pa
  congr 1
  have : ∀ k, k ≤ 10 → b_be (fun v => v_al Z set (10 * (64 * s + c) + v) 4) k = 0 := by
    intro k
    induction k with
    | zero => intro _; rfl
    | succ k ih =>
      intro hk
      rw [b_be, ih (by omega), h0 0 (by omega), h0 k (by omega)]
      rfl
  exact this 10 (Nat.le_refl _)
theorem m_I.c42 {Z Z' : x_I} (h : m_I Z) (hz : ∀ b j, b ≠ 42 → Z' b j = Z b j) (hc : g_co Z') : m_I Z' := by
  obtain ⟨h1, h2, h3, h4, h5, h6, h7, h8, h9, h10, h11, h12, h13⟩ := h
  have e39 : ∀ k, Z' 39 k = Z 39 k := fun k => hz 39 k (by decide)
  have e41 : ∀ k, Z' 41 k = Z 41 k := fun k => hz 41 k (by decide)
  have ens : m_ns Z' = m_ns Z := by unfold m_ns; rw [e39]
  have enh : m_nh Z' = m_nh Z := by unfold m_nh; rw [e39]
  have ece : ∀ s, m_ce Z' s = m_ce Z s := fun s => m_ce_sm (fun k _ => e41 _)
  have enb : ∀ k, m_nb Z' 41 k = m_nb Z 41 k := fun k => m_nb_41 (e39 8) e41 k
  refine ⟨by rw [e39]; exact h1, fun s hs => m_fo_sm (h2 s (by rw [← ens]; exact hs)) (fun k _ => e41 _), fun s hs => by rw [hz 40 s (by decide)]; exact h3 s (by rw [← ens]; exact hs), m_fo_sm h4 (fun k _ => enb _), hc, fun k hk => by rw [hz 43 k (by decide)]; exact h6 k hk, fun k hk => by rw [hz 44 k (by decide)]; exact h7 k hk, fun e k he hk q => by rw [m_ce_sm (fun k _ => enb _)] at q; rw [hz 44 _ (by decide)]; exact h8 e k he hk q, by rw [e39]; exact h9, fun k hk => by rw [hz 53 k (by decide)]; exact h10 k hk, by unfold g_pt g_sf at h11 ⊢; rw [e39, e39]; exact h11, fun t s c ht hs hc => by rw [hz 54 _ (by decide), enh, ens, ece]; exact h12 t s c ht hs hc, fun k hk => by rw [hz 45 k (by decide), hz 46 k (by decide)]; exact h13 k hk⟩

set_option maxRecDepth 100000 in
set_option maxHeartbeats 4000000 in
theorem l_X2_pw_i {K : x_K} {S : x_S} {P : x_P} {J : x_J} {n : Nat} {fa : Nat → Nat} {bd : Nat} {Z Z' : x_I} {set : Int32} (I0 : x_I) (hR0 : c_R fa bd Z' S P I0 J n) (mi' : m_I Z') (mi : m_I Z) (hnb : m_nb Z = Z) (hz : ∀ b j, b ≠ 42 → Z' b j = Z b j) (N s : Nat) (hN : (N : Int) = m_ce Z 10) (hs : s < m_ns Z) (hen : ∀ e j, e < 4 → j < N → I0 15 (64 * e + j) = r_ans (e_n Z set e j)) (e : Nat) (he : e < 4) (hc : ∀ I : x_I, x_ex cF I0 I J J → (∀ j, I 15 j = I0 15 j) →  (∀ c v, c < 64 → v < 10 → I 16 (10 * c + v) = nI (x_sm (fun e => x_ct (v_t Z set s c v e) N) e + x_ct (v_t Z set s c v e) N)) → x_V f_X2_paintWall K 112 [some (.ref 8), some (.int (nI s)), some (.ref (fa s + 1)), some (.int (nI e)), some (.int (nI N)), none] [] S P I J n 0 0) :
    ∀ d k : Nat, k + d = N → ∀ I : x_I, x_ex cF I0 I J J → (∀ j, I 15 j = I0 15 j) →  (∀ c v, c < 64 → v < 10 → I 16 (10 * c + v) = nI (x_sm (fun e => x_ct (v_t Z set s c v e) N) e + x_ct (v_t Z set s c v e) k)) → x_V f_X2_paintWall K 39 [some (.ref 8), some (.int (nI s)), some (.ref (fa s + 1)), some (.int (nI e)), some (.int (nI k)), none] [] S P I J n 0 0 := by
  have hn := mi.hn
  have hfo := mi.fo
  have hbo := mi.bo
  rw [hnb] at hbo
  have hbm := m_ce_in hbo
  have h9 : m_ns Z = (Z 39 2).toInt.toNat := rfl
  intro d
  induction d with
  | zero =>
    intro k hd I hex h15 hv
    have hR := hR0.cgF hex p_ex.rf
    have hS := hR.hS
    have hP := hR.hP
    have hceN := hR.fb.ce
    rw [m_nb_41 (hz 39 8 (by decide)) (fun k => hz 41 k (by decide)), m_nb_41 (hz 39 8 (by decide)) (fun k => hz 41 k (by decide)), hnb] at hceN
    have hceN := hceN.trans (x_of' (k := N) (by unfold m_ce at hN; omega))
    refine v_iload d_X2_paintWall_39 rfl ?_
    refine v_aload_n d_X2_paintWall_41 rfl ?_
    refine v_gr d_X2_paintWall_42 lf_X2_38_2 rfl (hS _ _ rfl) (hR.pb) ?_
    refine v_gie d_X2_paintWall_45 lf_X2_63_1 rfl (hR.sb) (hceN) ?_
    refine w_icmp_ge d_X2_paintWall_48 (fun h48 => ?_) (fun h48 => False.elim (by (try simp (disch := omega) only [x_ti, x_tm1] at h48); omega))
    have e1 : k = N := by omega
    subst e1
    exact hc I hex h15 hv
  | succ d ih =>
    intro k hd I hex h15 hv
    have hR := hR0.cgF hex p_ex.rf
    have hS := hR.hS
    have hP := hR.hP
    have hceN := hR.fb.ce
    rw [m_nb_41 (hz 39 8 (by decide)) (fun k => hz 41 k (by decide)), m_nb_41 (hz 39 8 (by decide)) (fun k => hz 41 k (by decide)), hnb] at hceN
    have hceN := hceN.trans (x_of' (k := N) (by unfold m_ce at hN; omega))
    cases zo : e_n Z set e k with
    | none =>
      refine v_iload d_X2_paintWall_39 rfl ?_
      refine v_aload_n d_X2_paintWall_41 rfl ?_
      refine v_gr d_X2_paintWall_42 lf_X2_38_2 rfl (hS _ _ rfl) (hR.pb) ?_
      refine v_gie d_X2_paintWall_45 lf_X2_63_1 rfl (hR.sb) (hceN) ?_
      refine w_icmp_ge d_X2_paintWall_48 (fun h48 => False.elim (by (try simp (disch := omega) only [x_ti, x_tm1] at h48); omega)) (fun h48 => ?_)
      refine v_aload_n d_X2_paintWall_51 rfl ?_
      refine v_gr d_X2_paintWall_52 lf_X2_20_2 rfl (hS _ _ rfl) (hP _ _ _ rfl) ?_
      refine v_iload_n d_X2_paintWall_55 rfl ?_
      refine v_bipush (v := nI 64) d_X2_paintWall_56 x_bp_64 ?_
      first | refine v_imulN d_X2_paintWall_58 ?_ | refine v_imul d_X2_paintWall_58 ?_
      refine v_iload d_X2_paintWall_59 rfl ?_
      first | refine v_iaddN d_X2_paintWall_61 ?_ | refine v_iadd d_X2_paintWall_61 ?_
      refine v_iald (64 * e + k) d_X2_paintWall_62 (by rw [Nat.mul_comm]) (hS _ _ rfl) (⟨by omega, by omega⟩) (((h15 _).trans (hen e k he (by omega))).trans (show r_ans (e_n Z set e k) = -9 by rw [zo]; rfl)) ?_
      refine v_istore (ls' := [_, _, _, _, _, _]) d_X2_paintWall_63 (by decide) rfl ?_
      refine v_iload d_X2_paintWall_65 rfl ?_
      refine w_if_lt d_X2_paintWall_67 (fun a67 => ?_) (fun a67 => False.elim (by exact absurd a67 (by decide)))
      first | refine v_iinc (ls' := [_, _, _, _, _, _]) d_X2_paintWall_106 rfl (x_inc_1 _) (by decide) rfl ?_ | refine v_iinc (ls' := [_, _, _, _, _, _]) d_X2_paintWall_106 rfl rfl (by decide) rfl ?_
      refine v_goto d_X2_paintWall_109 ?_
      refine x_V.fg1 5 (ls' := [_, _, _, _, _, _]) rfl ?_
      refine ih (k + 1) (by omega) I hex h15 (fun c v hc1 hv1 => ?_)
      rw [hv c v hc1 hv1, ← x_ct_n (v_t_n zo), Nat.add_zero]
    | some w0 =>
      obtain ⟨s', c'⟩ := w0
      have zin := e_n_in mi hnb he (show ((k : Nat) : Int) < m_ce Z 10 by omega) zo
      have zs10 : s' < 10 := by have := zin.1; omega
      have zc6 := zin.2.2.1
      have zd1 : (100 * s' + c') / 100 = s' := by omega
      have zd2 : (100 * s' + c') % 100 = c' := by omega
      have zpc := mi.pc (64 * e + k) (by omega)
      obtain ⟨pk, zpk0, zpk1, zpk2a, zpk3⟩ := x_ex1 (s := Z 44 (64 * e + k)) zpc.1
      have zpk : pk < 10 := by omega
      have zpk2 : x_k (Z 44 (64 * e + k)) < 10 := by omega
      have zpic : I (11 + e) k = nI pk := (hR.Pi e k he (by omega)).trans ((hz 44 _ (by decide)).trans zpk0)
      refine v_iload d_X2_paintWall_39 rfl ?_
      refine v_aload_n d_X2_paintWall_41 rfl ?_
      refine v_gr d_X2_paintWall_42 lf_X2_38_2 rfl (hS _ _ rfl) (hR.pb) ?_
      refine v_gie d_X2_paintWall_45 lf_X2_63_1 rfl (hR.sb) (hceN) ?_
      refine w_icmp_ge d_X2_paintWall_48 (fun h48 => False.elim (by (try simp (disch := omega) only [x_ti, x_tm1] at h48); omega)) (fun h48 => ?_)
      refine v_aload_n d_X2_paintWall_51 rfl ?_
      refine v_gr d_X2_paintWall_52 lf_X2_20_2 rfl (hS _ _ rfl) (hP _ _ _ rfl) ?_
      refine v_iload_n d_X2_paintWall_55 rfl ?_
      refine v_bipush (v := nI 64) d_X2_paintWall_56 x_bp_64 ?_
      first | refine v_imulN d_X2_paintWall_58 ?_ | refine v_imul d_X2_paintWall_58 ?_
      refine v_iload d_X2_paintWall_59 rfl ?_
      first | refine v_iaddN d_X2_paintWall_61 ?_ | refine v_iadd d_X2_paintWall_61 ?_
      refine v_iald (64 * e + k) d_X2_paintWall_62 (by rw [Nat.mul_comm]) (hS _ _ rfl) (⟨by omega, by omega⟩) (((h15 _).trans (hen e k he (by omega))).trans (show r_ans (e_n Z set e k) = nI (100 * s' + c') by rw [zo]; rfl)) ?_
      refine v_istore (ls' := [_, _, _, _, _, _]) d_X2_paintWall_63 (by decide) rfl ?_
      refine v_iload d_X2_paintWall_65 rfl ?_
      refine w_if_lt d_X2_paintWall_67 (fun a67 => False.elim (by rw [x_ti (by omega)] at a67; omega)) (fun a67 => ?_)
      refine v_iload d_X2_paintWall_70 rfl ?_
      refine v_bipush (v := nI 100) d_X2_paintWall_72 x_bp_100 ?_
      refine v_idiv d_X2_paintWall_74 (by decide) ?_
      rw [x_divN (by omega) (by decide) (by decide), zd1]
      refine v_iload_n d_X2_paintWall_75 rfl ?_
      refine w_icmp_ne d_X2_paintWall_76 (fun a76 => ?_) (fun a76 => ?_)
      · first | refine v_iinc (ls' := [_, _, _, _, _, _]) d_X2_paintWall_106 rfl (x_inc_1 _) (by decide) rfl ?_ | refine v_iinc (ls' := [_, _, _, _, _, _]) d_X2_paintWall_106 rfl rfl (by decide) rfl ?_
        refine v_goto d_X2_paintWall_109 ?_
        refine x_V.fg1 5 (ls' := [_, _, _, _, _, _]) rfl ?_
        rw [x_ti (by omega), x_ti (by omega)] at a76
        first
          | (refine ih (k + 1) (by omega) I hex h15 (fun c v hc1 hv1 => ?_)
             rw [hv c v hc1 hv1, ← x_ct_n (show v_t Z set s c v e k = false by rw [v_t_s zo hc1 zin.2.2.1 hv1 zpk2]; exact decide_eq_false (fun w => a76 (by rw [w.1]))), Nat.add_zero])
          | (refine ih (k + 1) (by omega) _ (hex.ui (a := 16) (k := 10 * c' + pk) rfl) h15 (fun c v hc1 hv1 => ?_)
             have zs : s' = s := by omega
             rw [x_u2_at]
             by_cases w : c = c' ∧ v = pk
             · obtain ⟨rfl, rfl⟩ := w
               rw [if_pos ⟨rfl, rfl⟩, Nat.add_assoc, x_ct_y (show v_t Z set s c v e k = true by rw [v_t_s zo hc1 zin.2.2.1 hv1 zpk2]; exact decide_eq_true ⟨zs, rfl, zpk3⟩)]
             · rw [if_neg (fun q => w (by omega)), hv c v hc1 hv1, ← x_ct_n (show v_t Z set s c v e k = false by rw [v_t_s zo hc1 zin.2.2.1 hv1 zpk2]; exact decide_eq_false (fun q => w ⟨q.2.1.symm, by omega⟩)), Nat.add_zero])
      · refine v_aload_n d_X2_paintWall_79 rfl ?_
        refine v_gr d_X2_paintWall_80 lf_X2_23_2 rfl (hS _ _ rfl) (hP _ _ _ rfl) ?_
        refine v_iload d_X2_paintWall_83 rfl ?_
        refine v_bipush (v := nI 100) d_X2_paintWall_85 x_bp_100 ?_
        refine v_irem d_X2_paintWall_87 (by decide) ?_
        rw [x_remN (by omega) (by decide) (by decide), zd2]
        refine v_bipush (v := nI 10) d_X2_paintWall_88 x_bp_10 ?_
        first | refine v_imulN d_X2_paintWall_90 ?_ | refine v_imul d_X2_paintWall_90 ?_
        refine v_aload_n d_X2_paintWall_91 rfl ?_
        refine v_gr d_X2_paintWall_92 lf_X2_17_2 rfl (hS _ _ rfl) (hP _ _ _ rfl) ?_
        refine v_iload_n d_X2_paintWall_95 rfl ?_
        refine v_aald _ d_X2_paintWall_96 (rfl) (hS _ _ rfl) (by decide) (⟨by omega, by omega⟩) (c_pp hP he) ?_
        refine v_iload d_X2_paintWall_97 rfl ?_
        refine v_iald _ d_X2_paintWall_99 (rfl) (c_sp hS he) (⟨by omega, by omega⟩) (zpic) ?_
        first | refine v_iaddN d_X2_paintWall_100 ?_ | refine v_iadd d_X2_paintWall_100 ?_
        refine v_dup2 d_X2_paintWall_101 rfl rfl ?_
        refine v_iald (10 * c' + pk) d_X2_paintWall_102 (by rw [Nat.mul_comm]) (hS _ _ rfl) (⟨by omega, by omega⟩) (hv c' pk zin.2.2.1 zpk) ?_
        refine v_iconst (v := nI 1) d_X2_paintWall_103 x_ic_1 ?_
        refine v_iaddN d_X2_paintWall_104 ?_
        refine v_iast (10 * c' + pk) d_X2_paintWall_105 (by rw [Nat.mul_comm]) (hS _ _ rfl) (⟨by omega, by omega⟩) ?_
        first | refine v_iinc (ls' := [_, _, _, _, _, _]) d_X2_paintWall_106 rfl (x_inc_1 _) (by decide) rfl ?_ | refine v_iinc (ls' := [_, _, _, _, _, _]) d_X2_paintWall_106 rfl rfl (by decide) rfl ?_
        refine v_goto d_X2_paintWall_109 ?_
        refine x_V.fg1 5 (ls' := [_, _, _, _, _, _]) rfl ?_
        rw [x_ti (by omega), x_ti (by omega)] at a76
        first
          | (refine ih (k + 1) (by omega) I hex h15 (fun c v hc1 hv1 => ?_)
             rw [hv c v hc1 hv1, ← x_ct_n (show v_t Z set s c v e k = false by rw [v_t_s zo hc1 zin.2.2.1 hv1 zpk2]; exact decide_eq_false (fun w => a76 (by rw [w.1]))), Nat.add_zero])
          | (refine ih (k + 1) (by omega) _ (hex.ui (a := 16) (k := 10 * c' + pk) rfl) h15 (fun c v hc1 hv1 => ?_)
             have zs : s' = s := by omega
             rw [x_u2_at]
             by_cases w : c = c' ∧ v = pk
             · obtain ⟨rfl, rfl⟩ := w
               rw [if_pos ⟨rfl, rfl⟩, Nat.add_assoc, x_ct_y (show v_t Z set s c v e k = true by rw [v_t_s zo hc1 zin.2.2.1 hv1 zpk2]; exact decide_eq_true ⟨zs, rfl, zpk3⟩)]
             · rw [if_neg (fun q => w (by omega)), hv c v hc1 hv1, ← x_ct_n (show v_t Z set s c v e k = false by rw [v_t_s zo hc1 zin.2.2.1 hv1 zpk2]; exact decide_eq_false (fun q => w ⟨q.2.1.symm, by omega⟩)), Nat.add_zero])

set_option maxRecDepth 100000 in
set_option maxHeartbeats 4000000 in
theorem l_X2_pw_o {K : x_K} {S : x_S} {P : x_P} {J : x_J} {n : Nat} {fa : Nat → Nat} {bd : Nat} {Z Z' : x_I} {set : Int32} (I0 : x_I) (hR0 : c_R fa bd Z' S P I0 J n) (mi' : m_I Z') (mi : m_I Z) (hnb : m_nb Z = Z) (hz : ∀ b j, b ≠ 42 → Z' b j = Z b j) (N s : Nat) (hN : (N : Int) = m_ce Z 10) (hs : s < m_ns Z) (hen : ∀ e j, e < 4 → j < N → I0 15 (64 * e + j) = r_ans (e_n Z set e j)) (hc : ∀ I : x_I, x_ex cF I0 I J J → (∀ j, I 15 j = I0 15 j) →  (∀ c v, c < 64 → v < 10 → I 16 (10 * c + v) = nI (v_al Z set (10 * (64 * s + c) + v) 4)) → x_V f_X2_paintWall K 118 [some (.ref 8), some (.int (nI s)), some (.ref (fa s + 1)), some (.int (nI 4)), none, none] [] S P I J n 0 0) :
    ∀ d e : Nat, e + d = 4 → ∀ I : x_I, x_ex cF I0 I J J → (∀ j, I 15 j = I0 15 j) →  (∀ c v, c < 64 → v < 10 → I 16 (10 * c + v) = nI (x_sm (fun e => x_ct (v_t Z set s c v e) N) e)) → x_V f_X2_paintWall K 31 [some (.ref 8), some (.int (nI s)), some (.ref (fa s + 1)), some (.int (nI e)), none, none] [] S P I J n 0 0 := by
  have hn := mi.hn
  have hfo := mi.fo
  have hbo := mi.bo
  rw [hnb] at hbo
  have hbm := m_ce_in hbo
  have h9 : m_ns Z = (Z 39 2).toInt.toNat := rfl
  intro d
  induction d with
  | zero =>
    intro e hd I hex h15 hv
    have hR := hR0.cgF hex p_ex.rf
    have hS := hR.hS
    have hP := hR.hP
    have hceN := hR.fb.ce
    rw [m_nb_41 (hz 39 8 (by decide)) (fun k => hz 41 k (by decide)), m_nb_41 (hz 39 8 (by decide)) (fun k => hz 41 k (by decide)), hnb] at hceN
    have hceN := hceN.trans (x_of' (k := N) (by unfold m_ce at hN; omega))
    refine v_iload_n d_X2_paintWall_31 rfl ?_
    refine v_iconst (v := nI 4) d_X2_paintWall_32 x_ic_4 ?_
    refine w_icmp_ge d_X2_paintWall_33 (fun h33 => ?_) (fun h33 => False.elim (by (try simp (disch := omega) only [x_ti, x_tm1] at h33); omega))
    have e1 : e = 4 := by omega
    subst e1
    refine hc I hex h15 (fun c v hc1 hv1 => ?_)
    rw [hv c v hc1 hv1, ← v_t_al, show (m_ce Z 10).toNat = N by omega]
  | succ d ih =>
    intro e hd I hex h15 hv
    have hR := hR0.cgF hex p_ex.rf
    have hS := hR.hS
    have hP := hR.hP
    have hceN := hR.fb.ce
    rw [m_nb_41 (hz 39 8 (by decide)) (fun k => hz 41 k (by decide)), m_nb_41 (hz 39 8 (by decide)) (fun k => hz 41 k (by decide)), hnb] at hceN
    have hceN := hceN.trans (x_of' (k := N) (by unfold m_ce at hN; omega))
    refine v_iload_n d_X2_paintWall_31 rfl ?_
    refine v_iconst (v := nI 4) d_X2_paintWall_32 x_ic_4 ?_
    refine w_icmp_ge d_X2_paintWall_33 (fun h33 => False.elim (by (try simp (disch := omega) only [x_ti, x_tm1] at h33); omega)) (fun h33 => ?_)
    refine v_iconst (v := nI 0) d_X2_paintWall_36 x_ic_0 ?_
    refine v_istore (ls' := [_, _, _, _, _, _]) d_X2_paintWall_37 (by decide) rfl ?_
    refine l_X2_pw_i I0 hR0 mi' mi hnb hz N s hN hs hen e (by omega) (fun I hex h15 hv => ?_) N 0 (by omega) I hex h15 (fun c v hc1 hv1 => by rw [hv c v hc1 hv1]; rfl)
    first | refine v_iinc (ls' := [_, _, _, _, _, _]) d_X2_paintWall_112 rfl (x_inc_1 _) (by decide) rfl ?_ | refine v_iinc (ls' := [_, _, _, _, _, _]) d_X2_paintWall_112 rfl rfl (by decide) rfl ?_
    refine v_goto d_X2_paintWall_115 ?_
    refine x_V.fg1 4 (ls' := [_, _, _, _, _, _]) rfl ?_
    exact ih (e + 1) (by omega) I hex h15 hv

set_option maxRecDepth 100000 in
set_option maxHeartbeats 4000000 in
theorem l_X2_pw_c {K : x_K} {S : x_S} {P : x_P} {J : x_J} {n : Nat} {fa : Nat → Nat} {bd : Nat} {Z : x_I} {set : Int32} (I0 Z1 : x_I) (mi : m_I Z) (hnb : m_nb Z = Z) (s : Nat) (hs : s < m_ns Z) (hK : ∀ (I Z2 : x_I), c_R fa bd Z2 S P I J n → x_ex cC I0 I J J → (∀ j, I 15 j = I0 15 j) → (∀ b j, b ≠ 42 → Z2 b j = Z b j) → g_co Z2 → (∀ j, j < (m_ce Z s).toNat → Z2 42 (64 * s + j) = v_pa Z set (64 * s + j)) → (∀ t j, t ≠ s → j < 64 → Z2 42 (64 * t + j) = Z1 42 (64 * t + j)) → K none S P I J n) :
    ∀ d k : Nat, k + d = (m_ce Z s).toNat → ∀ (I Z2 : x_I), c_R fa bd Z2 S P I J n → x_ex cC I0 I J J → (∀ j, I 15 j = I0 15 j) → (∀ b j, b ≠ 42 → Z2 b j = Z b j) → g_co Z2 → (∀ j, j < k → Z2 42 (64 * s + j) = v_pa Z set (64 * s + j)) → (∀ t j, t ≠ s → j < 64 → Z2 42 (64 * t + j) = Z1 42 (64 * t + j)) → (∀ c v, c < 64 → v < 10 → I 16 (10 * c + v) = nI (v_al Z set (10 * (64 * s + c) + v) 4)) → x_V f_X2_paintWall K 120 [some (.ref 8), some (.int (nI s)), some (.ref (fa s + 1)), some (.int (nI k)), none, none] [] S P I J n 0 0 := by
  have hn := mi.hn
  have hfo := mi.fo
  have h9 : m_ns Z = (Z 39 2).toInt.toNat := rfl
  have hmc := m_ce_in (hfo s hs)
  have hbo := mi.bo
  rw [hnb] at hbo
  have hbm := m_ce_in hbo
  intro d
  induction d with
  | zero =>
    intro k hd I Z2 hR hex h15 hz hco hk1 hk2 hv
    have hS := hR.hS
    have hP := hR.hP
    have hw := hR.w (s := s) (by unfold m_ns; rw [hz 39 2 (by decide)]; exact hs)
    have had := hw.ad
    have ece : m_ce Z2 s = m_ce Z s := m_ce_sm (fun k _ => hz 41 _ (by decide))
    have hce8 : I (fa s) 8 = nI (m_ce Z s).toNat := hw.fl.ce.trans (x_of' (by unfold m_ce at ece hmc ⊢; omega))
    refine v_iload_n d_X2_paintWall_120 rfl ?_
    refine v_aload_n d_X2_paintWall_121 rfl ?_
    refine v_gr d_X2_paintWall_122 (lfw_X2_131 (c_kc_ok _)) (x_ftw1 (c_kc_ok _)) (hw.sw) (hw.pf) ?_
    refine v_gie d_X2_paintWall_125 lf_X2_63_1 rfl (hw.sf) (hce8) ?_
    refine w_icmp_ge d_X2_paintWall_128 (fun h128 => ?_) (fun h128 => False.elim (by (try simp (disch := omega) only [x_ti, x_tm1] at h128); omega))
    refine v_ret (v := none) d_X2_paintWall_148 rfl ⟨rfl, rfl⟩ (by decide) (by decide) ?_
    have e1 : k = (m_ce Z s).toNat := by omega
    subst e1
    exact hK I Z2 hR hex h15 hz hco hk1 hk2
  | succ d ih =>
    intro k hd I Z2 hR hex h15 hz hco hk1 hk2 hv
    have hS := hR.hS
    have hP := hR.hP
    have hw := hR.w (s := s) (by unfold m_ns; rw [hz 39 2 (by decide)]; exact hs)
    have had := hw.ad
    have ece : m_ce Z2 s = m_ce Z s := m_ce_sm (fun k _ => hz 41 _ (by decide))
    have hce8 : I (fa s) 8 = nI (m_ce Z s).toNat := hw.fl.ce.trans (x_of' (by unfold m_ce at ece hmc ⊢; omega))
    refine v_iload_n d_X2_paintWall_120 rfl ?_
    refine v_aload_n d_X2_paintWall_121 rfl ?_
    refine v_gr d_X2_paintWall_122 (lfw_X2_131 (c_kc_ok _)) (x_ftw1 (c_kc_ok _)) (hw.sw) (hw.pf) ?_
    refine v_gie d_X2_paintWall_125 lf_X2_63_1 rfl (hw.sf) (hce8) ?_
    refine w_icmp_ge d_X2_paintWall_128 (fun h128 => False.elim (by (try simp (disch := omega) only [x_ti, x_tm1] at h128); omega)) (fun h128 => ?_)
    refine v_aload_n d_X2_paintWall_131 rfl ?_
    refine v_gr d_X2_paintWall_132 (lfw_X2_134 (c_kc_ok _)) (x_ftw2 (c_kc_ok _)) (hw.sw) (hw.pc) ?_
    refine v_iload_n d_X2_paintWall_135 rfl ?_
    refine v_aload_n d_X2_paintWall_136 rfl ?_
    refine v_iload_n d_X2_paintWall_137 rfl ?_
    refine v_cv (as := [_]) (rest := [_, _]) d_X2_paintWall_138 lv_X2_137_2 (hS _ _ rfl) rfl ⟨by decide, by decide⟩ rfl (Nat.le_of_ble_eq_true rfl) (by decide) (by decide) ?_
    refine t_X2_mostVoted rfl (fun v => v_al Z set (10 * (64 * s + k) + v) 4) (fun v => by have := v_al_le Z set (10 * (64 * s + k) + v) 4 64; have h8 := v_al_le Z set (10 * (64 * s + k) + v) 4 _ rfl; omega) (fun v hv1 => hv k v (by omega) hv1) (by omega) hS hP ?_
    refine v_iast _ d_X2_paintWall_141 (rfl) (hw.sc.trans (by rw [ece])) (⟨by omega, by omega⟩) ?_
    first | refine v_iinc (ls' := [_, _, _, _, _, _]) d_X2_paintWall_142 rfl (x_inc_1 _) (by decide) rfl ?_ | refine v_iinc (ls' := [_, _, _, _, _, _]) d_X2_paintWall_142 rfl rfl (by decide) rfl ?_
    refine v_goto d_X2_paintWall_145 ?_
    refine ih (k + 1) (by omega) (x_u2 I (fa s + 2) k (v_pa Z set (64 * s + k))) (x_u2 Z2 42 (64 * s + k) (v_pa Z set (64 * s + k))) (hR.co_ (by unfold m_ns; rw [hz 39 2 (by decide)]; exact hs) (by omega) (fun t ht => by have := m_ce_in (hfo t (by unfold m_ns at ht; rw [hz 39 2 (by decide)] at ht; exact ht)); rw [m_ce_sm (fun k _ => hz 41 _ (by decide))]; omega)) (hex.ui (cC_hi (by omega) _)) (fun j => (x_u2_na _ _ _ _ (by omega)).trans (h15 j)) (fun b j hb => (x_u2_na _ _ _ _ hb).trans (hz b j hb)) (fun j hj => ?_) (fun j hj => ?_) (fun t j ht hj => ?_) (fun c v hc1 hv1 => (x_u2_na _ _ _ _ (by omega)).trans (hv c v hc1 hv1))
    · rw [x_u2_at]
      by_cases w : j = 64 * s + k
      · rw [if_pos ⟨rfl, w⟩]
        have zb : b_be (fun c => v_al Z set (10 * (64 * s + k) + c) 4) 10 < 10 := b_be_lt _ 9
        unfold v_pa
        rw [x_ti (by omega)]
        omega
      · rw [if_neg (fun q => w q.2)]; exact hco j hj
    · rw [x_u2_at]
      by_cases w : j = k
      · subst w; rw [if_pos ⟨rfl, rfl⟩]
      · rw [if_neg (fun q => w (by omega))]; exact hk1 j (by omega)
    · rw [x_u2_nk _ _ _ _ (by omega)]; exact hk2 t j ht hj

set_option maxRecDepth 100000 in
set_option maxHeartbeats 4000000 in
theorem t_X2_paintWall {K : x_K} {S : x_S} {P : x_P} {I : x_I} {J : x_J} {n : Nat} {x set : Int32} {fa : Nat → Nat} {bd : Nat} {Z Z1 : x_I} (hR : c_R fa bd Z1 S P I J n) (mi1 : m_I Z1) (mi : m_I Z) (hnb : m_nb Z = Z) (hz : ∀ b j, b ≠ 42 → Z1 b j = Z b j) (N s : Nat) (hx : x = nI s) (hN : (N : Int) = m_ce Z 10) (hs : s < m_ns Z) (hen : ∀ e j, e < 4 → j < N → I 15 (64 * e + j) = r_ans (e_n Z set e j)) (h0 : ∀ j, j < 64 → (Z1 42 (64 * s + j)).toInt = 0) (hK : ∀ (I' Z2 : x_I), c_R fa bd Z2 S P I' J n → x_ex cC I I' J J → (∀ j, I' 15 j = I 15 j) → (∀ b j, b ≠ 42 → Z2 b j = Z b j) → g_co Z2 → (∀ j, j < (m_ce Z s).toNat → Z2 42 (64 * s + j) = v_pa Z set (64 * s + j)) → (∀ t j, t ≠ s → j < 64 → Z2 42 (64 * t + j) = Z1 42 (64 * t + j)) → K none S P I' J n) : x_Call f_X2_paintWall [.ref 8, .int x] K S P I J n := by
  subst hx
  have hS := hR.hS
  have hP := hR.hP
  have hn := mi.hn
  have hfo := mi.fo
  have h9 : m_ns Z = (Z 39 2).toInt.toNat := rfl
  have hmc := m_ce_in (hfo s hs)
  have hs1 : s < m_ns Z1 := by unfold m_ns; rw [hz 39 2 (by decide)]; exact hs
  have hw := hR.w hs1
  have ekd : Z1 40 s = Z 40 s := hz 40 s (by decide)
  refine x_intro (by decide) 4 (ls := [_, _, _, _, _, _]) rfl (Nat.le_of_ble_eq_true rfl) ?_
  refine v_aload_n d_X2_paintWall_0 rfl ?_
  refine v_gr d_X2_paintWall_1 lf_X2_42_2 rfl (hS _ _ rfl) (hP _ _ _ rfl) ?_
  refine v_iload_n d_X2_paintWall_4 rfl ?_
  refine v_cv (as := [_]) (rest := []) d_X2_paintWall_5 lv_X2_121_8 (hS _ _ rfl) rfl ⟨by decide, by decide⟩ rfl (Nat.le_of_ble_eq_true rfl) (by decide) (by decide) ?_
  refine t_X8_wallS hR mi1 s rfl hs1 ?_
  refine v_astore_n (ls' := [_, _, _, _, _, _]) d_X2_paintWall_8 (by decide) rfl ?_
  refine v_aload_n d_X2_paintWall_9 rfl ?_
  refine v_ifnull d_X2_paintWall_10 ?_
  refine v_aload_n d_X2_paintWall_13 rfl ?_
  refine sv_X2_paintWall_14 hw (mi1.kd s hs1) (fun zk => ?_) (fun zk => ?_)
  · refine w_if_ne d_X2_paintWall_17 (fun _ => ?_) (fun h17 => absurd h17 (by decide))
    refine v_aload_n d_X2_paintWall_21 rfl ?_
    refine v_gr d_X2_paintWall_22 lf_X2_23_2 rfl (hS _ _ rfl) (hP _ _ _ rfl) ?_
    refine v_iconst (v := nI 0) d_X2_paintWall_25 x_ic_0 ?_
    refine v_cs (as := [_, _]) (rest := []) d_X2_paintWall_26 ls_X2_57 rfl ⟨by decide, by decide⟩ rfl (Nat.le_of_ble_eq_true rfl) (by decide) (by decide) ?_
    refine t_fill 640 (hS _ _ rfl) (by decide) ?_
    refine v_iconst (v := nI 0) d_X2_paintWall_29 x_ic_0 ?_
    refine v_istore_n (ls' := [_, _, _, _, _, _]) d_X2_paintWall_30 (by decide) rfl ?_
    have hexf : x_ex cF I (x_fi I 16 0 640 (nI 0)) J J := x_ex.fi_ x_ex.rf (fun _ => rfl)
    refine l_X2_pw_o I hR mi1 mi hnb hz N s hN hs hen ?_ 4 0 (by omega) _ hexf (fun _ => rfl) (fun c v hc1 hv1 => x_fi_in _ _ (by omega) (by omega))
    intro I2 hex2 h152 hv2
    refine v_iconst (v := nI 0) d_X2_paintWall_118 x_ic_0 ?_
    refine v_istore_n (ls' := [_, _, _, _, _, _]) d_X2_paintWall_119 (by decide) rfl ?_
    exact l_X2_pw_c I Z1 mi hnb s hs hK (m_ce Z s).toNat 0 (by omega) I2 Z1 (hR.cgF hex2 p_ex.rf) hex2.FC h152 hz mi1.co (fun j hj => absurd hj (Nat.not_lt_zero _)) (fun _ _ _ _ => rfl) hv2
  · refine w_if_ne d_X2_paintWall_17 (fun h17 => absurd h17 (by decide)) (fun _ => ?_)
    refine v_ret (v := none) d_X2_paintWall_20 rfl ⟨rfl, rfl⟩ (by decide) (by decide) ?_
    refine hK I Z1 hR x_ex.rf (fun _ => rfl) hz mi1.co (fun j hj => ?_) (fun _ _ _ _ => rfl)
    rw [v_pa_mir mi hnb (by omega) (by rw [← ekd]; exact zk)]
    exact Int32.toInt_inj.mp ((h0 j (by omega)).trans (by decide))

