def n_h (m c d : Nat) : Bool := (decide (d < c) && decide (f_bi m (c - d) = 1)) || decide (f_bi m (c + d) = 1)
def n_d (m c : Nat) : Nat → Nat → Nat
  | 0, d => d
  | k + 1, d => if n_h m c d = true then d else n_d m c k (d + 1)
theorem n_all : ∀ m : Fin 1024, m.1 % 2 = 0 → ∀ c : Fin 10, 1 ≤ c.1 → n_d m.1 c.1 10 0 = f_d m.1 c.1 9 := by decide +kernel

set_option maxRecDepth 100000 in
set_option maxHeartbeats 4000000 in
theorem l_X2_near {K : x_K} {S : x_S} {P : x_P} {I : x_I} {J : x_J} {n : Nat} (m c : Nat) (hm : m < 1024) (hc : c < 10) : ∀ k d : Nat, d + k = 10 → K (some (.int (nI (n_d m c k d)))) S P I J n → x_V f_X2_nearestDifference K 2 [some (.int (nI m)), some (.int (nI c)), some (.int (nI d)), none, none] [] S P I J n 0 0 := by
  intro k
  induction k with
  | zero =>
    intro d hd hK
    refine v_iload_n d_X2_nearestDifference_2 rfl ?_
    refine v_bipush (v := nI 10) d_X2_nearestDifference_3 x_bp_10 ?_
    refine w_icmp_ge d_X2_nearestDifference_5 (fun h5 => ?_) (fun h5 => False.elim (by (try simp (disch := omega) only [x_ti, x_tm1] at h5); omega))
    refine v_iload_n d_X2_nearestDifference_56 rfl ?_
    refine v_ret (v := some (.int _)) d_X2_nearestDifference_57 rfl ⟨rfl, _, rfl, rfl⟩ (by decide) (by decide) ?_
    have e1 : d = 10 := by omega
    subst e1
    exact hK
  | succ k ih =>
    intro d hd hK
    refine v_iload_n d_X2_nearestDifference_2 rfl ?_
    refine v_bipush (v := nI 10) d_X2_nearestDifference_3 x_bp_10 ?_
    refine w_icmp_ge d_X2_nearestDifference_5 (fun h5 => False.elim (by (try simp (disch := omega) only [x_ti, x_tm1] at h5); omega)) (fun h5 => ?_)
    refine v_iload_n d_X2_nearestDifference_8 rfl ?_
    refine v_iload_n d_X2_nearestDifference_9 rfl ?_
    refine v_isub d_X2_nearestDifference_10 ?_
    refine v_istore_n (ls' := [_, _, _, _, _]) d_X2_nearestDifference_11 (by decide) rfl ?_
    refine v_iload_n d_X2_nearestDifference_12 rfl ?_
    have ex : (nI c - nI d).toInt = (c : Int) - (d : Int) := by rw [x_sub (by rw [x_ti (by omega), x_ti (by omega)]; omega) (by rw [x_ti (by omega), x_ti (by omega)]; omega), x_ti (by omega), x_ti (by omega)]
    refine w_if_le d_X2_nearestDifference_13 (fun a13 => ?_) (fun a13 => ?_)
    · try rw [ex] at a13
      refine v_iconst (v := nI 0) d_X2_nearestDifference_29 x_ic_0 ?_
      refine v_istore (ls' := [_, _, _, _, _]) d_X2_nearestDifference_30 (by decide) rfl ?_
      refine v_iload d_X2_nearestDifference_32 rfl ?_
      refine w_if_ne d_X2_nearestDifference_34 (fun h34 => absurd h34 (by decide)) (fun _ => ?_)
      refine v_iload_n d_X2_nearestDifference_37 rfl ?_
      refine v_iload_n d_X2_nearestDifference_38 rfl ?_
      refine v_iload_n d_X2_nearestDifference_39 rfl ?_
      refine v_iaddN d_X2_nearestDifference_40 ?_
      refine v_ishr d_X2_nearestDifference_41 ?_
      refine v_iconst (v := nI 1) d_X2_nearestDifference_42 x_ic_1 ?_
      refine v_iand d_X2_nearestDifference_43 ?_
      rw [x_sh (by omega) (by omega)]
      refine v_iconst (v := nI 1) d_X2_nearestDifference_44 x_ic_1 ?_
      refine w_icmp_ne d_X2_nearestDifference_45 (fun a45 => ?_) (fun a45 => ?_)
      · try simp (disch := omega) only [x_ti, x_tm1] at a45
        first | refine v_iinc (ls' := [_, _, _, _, _]) d_X2_nearestDifference_50 rfl (x_inc_1 _) (by decide) rfl ?_ | refine v_iinc (ls' := [_, _, _, _, _]) d_X2_nearestDifference_50 rfl rfl (by decide) rfl ?_
        refine v_goto d_X2_nearestDifference_53 ?_
        refine x_V.fg1 3 (ls' := [_, _, _, _, _]) rfl ?_
        refine x_V.fg1 4 (ls' := [_, _, _, _, _]) rfl ?_
        have zh : ¬ n_h m c d = true := by
          unfold n_h
          simp only [Bool.or_eq_true, Bool.and_eq_true, decide_eq_true_eq]
          unfold f_bi
          omega
        rw [n_d, if_neg zh] at hK
        exact ih (d + 1) (by omega) hK
      · try simp (disch := omega) only [x_ti, x_tm1] at a45
        refine v_iload_n d_X2_nearestDifference_48 rfl ?_
        refine v_ret (v := some (.int _)) d_X2_nearestDifference_49 rfl ⟨rfl, _, rfl, rfl⟩ (by decide) (by decide) ?_
        first
          | (have zh : n_h m c d = true := by unfold n_h; rw [decide_eq_true (show d < c by omega), decide_eq_true (show f_bi m (c - d) = 1 by unfold f_bi; omega)]; rfl
             rw [n_d, if_pos zh] at hK
             exact hK)
          | (have zh : n_h m c d = true := by unfold n_h; rw [decide_eq_true (show f_bi m (c + d) = 1 by unfold f_bi; omega), Bool.or_true]
             rw [n_d, if_pos zh] at hK
             exact hK)
    · rw [ex] at a13
      rw [x_subN (show d ≤ c by omega)]
      refine v_iload_n d_X2_nearestDifference_16 rfl ?_
      refine v_iload_n d_X2_nearestDifference_17 rfl ?_
      refine v_ishr d_X2_nearestDifference_18 ?_
      refine v_iconst (v := nI 1) d_X2_nearestDifference_19 x_ic_1 ?_
      refine v_iand d_X2_nearestDifference_20 ?_
      rw [x_sh (by omega) (by omega)]
      refine v_iconst (v := nI 1) d_X2_nearestDifference_21 x_ic_1 ?_
      refine w_icmp_ne d_X2_nearestDifference_22 (fun a22 => ?_) (fun a22 => ?_)
      · try simp (disch := omega) only [x_ti, x_tm1] at a22
        try rw [ex] at a13
        refine v_iconst (v := nI 0) d_X2_nearestDifference_29 x_ic_0 ?_
        refine v_istore (ls' := [_, _, _, _, _]) d_X2_nearestDifference_30 (by decide) rfl ?_
        refine v_iload d_X2_nearestDifference_32 rfl ?_
        refine w_if_ne d_X2_nearestDifference_34 (fun h34 => absurd h34 (by decide)) (fun _ => ?_)
        refine v_iload_n d_X2_nearestDifference_37 rfl ?_
        refine v_iload_n d_X2_nearestDifference_38 rfl ?_
        refine v_iload_n d_X2_nearestDifference_39 rfl ?_
        refine v_iaddN d_X2_nearestDifference_40 ?_
        refine v_ishr d_X2_nearestDifference_41 ?_
        refine v_iconst (v := nI 1) d_X2_nearestDifference_42 x_ic_1 ?_
        refine v_iand d_X2_nearestDifference_43 ?_
        rw [x_sh (by omega) (by omega)]
        refine v_iconst (v := nI 1) d_X2_nearestDifference_44 x_ic_1 ?_
        refine w_icmp_ne d_X2_nearestDifference_45 (fun a45 => ?_) (fun a45 => ?_)
        · try simp (disch := omega) only [x_ti, x_tm1] at a45
          first | refine v_iinc (ls' := [_, _, _, _, _]) d_X2_nearestDifference_50 rfl (x_inc_1 _) (by decide) rfl ?_ | refine v_iinc (ls' := [_, _, _, _, _]) d_X2_nearestDifference_50 rfl rfl (by decide) rfl ?_
          refine v_goto d_X2_nearestDifference_53 ?_
          refine x_V.fg1 3 (ls' := [_, _, _, _, _]) rfl ?_
          refine x_V.fg1 4 (ls' := [_, _, _, _, _]) rfl ?_
          have zh : ¬ n_h m c d = true := by
            unfold n_h
            simp only [Bool.or_eq_true, Bool.and_eq_true, decide_eq_true_eq]
            unfold f_bi
            omega
          rw [n_d, if_neg zh] at hK
          exact ih (d + 1) (by omega) hK
        · try simp (disch := omega) only [x_ti, x_tm1] at a45
          refine v_iload_n d_X2_nearestDifference_48 rfl ?_
          refine v_ret (v := some (.int _)) d_X2_nearestDifference_49 rfl ⟨rfl, _, rfl, rfl⟩ (by decide) (by decide) ?_
          first
            | (have zh : n_h m c d = true := by unfold n_h; rw [decide_eq_true (show d < c by omega), decide_eq_true (show f_bi m (c - d) = 1 by unfold f_bi; omega)]; rfl
               rw [n_d, if_pos zh] at hK
               exact hK)
            | (have zh : n_h m c d = true := by unfold n_h; rw [decide_eq_true (show f_bi m (c + d) = 1 by unfold f_bi; omega), Bool.or_true]
               rw [n_d, if_pos zh] at hK
               exact hK)
      · try simp (disch := omega) only [x_ti, x_tm1] at a22
        refine v_iconst (v := nI 1) d_X2_nearestDifference_25 x_ic_1 ?_
        refine v_goto d_X2_nearestDifference_26 ?_
        refine v_istore (ls' := [_, _, _, _, _]) d_X2_nearestDifference_30 (by decide) rfl ?_
        refine v_iload d_X2_nearestDifference_32 rfl ?_
        refine w_if_ne d_X2_nearestDifference_34 (fun _ => ?_) (fun h34 => absurd h34 (by decide))
        refine v_iload_n d_X2_nearestDifference_48 rfl ?_
        refine v_ret (v := some (.int _)) d_X2_nearestDifference_49 rfl ⟨rfl, _, rfl, rfl⟩ (by decide) (by decide) ?_
        first
          | (have zh : n_h m c d = true := by unfold n_h; rw [decide_eq_true (show d < c by omega), decide_eq_true (show f_bi m (c - d) = 1 by unfold f_bi; omega)]; rfl
             rw [n_d, if_pos zh] at hK
             exact hK)
          | (have zh : n_h m c d = true := by unfold n_h; rw [decide_eq_true (show f_bi m (c + d) = 1 by unfold f_bi; omega), Bool.or_true]
             rw [n_d, if_pos zh] at hK
             exact hK)

set_option maxRecDepth 100000 in
set_option maxHeartbeats 4000000 in
theorem t_X2_near {K : x_K} {S : x_S} {P : x_P} {I : x_I} {J : x_J} {n : Nat} {x y : Int32} (m c : Nat) (hx : x = nI m) (hy : y = nI c) (hm : m < 1024) (hm2 : m % 2 = 0) (hc : c < 10) (hc1 : 1 ≤ c) (hK : K (some (.int (nI (f_d m c 9)))) S P I J n) : x_Call f_X2_nearestDifference [.int x, .int y] K S P I J n := by
  subst hx hy
  have hna := n_all ⟨m, hm⟩ hm2 ⟨c, hc⟩ hc1
  have hna : n_d m c 10 0 = f_d m c 9 := hna
  rw [← hna] at hK
  refine x_intro (by decide) 3 (ls := [_, _, _, _, _]) rfl (Nat.le_of_ble_eq_true rfl) ?_
  refine v_iconst (v := nI 0) d_X2_nearestDifference_0 x_ic_0 ?_
  refine v_istore_n (ls' := [_, _, _, _, _]) d_X2_nearestDifference_1 (by decide) rfl ?_
  exact l_X2_near m c hm hc 10 0 (by omega) hK

set_option maxRecDepth 100000 in
set_option maxHeartbeats 4000000 in
theorem l_X2_sum {K : x_K} {S : x_S} {P : x_P} {I : x_I} {J : x_J} {n : Nat} (m : Nat) (hm : m < 1024) (hm2 : m % 2 = 0) (of : Nat → Nat) (hof : ∀ c, of c ≤ 256) (hI : ∀ c, 1 ≤ c → c < 10 → I 18 c = nI (of c)) (hS : x_hS S) (hP : x_hP P) (hK : K (some (.int (nI (f_su of m 9)))) S P I J n) : ∀ d k : Nat, k + d = 9 → x_V f_X2_sumOfDifferences K 4 [some (.ref 8), some (.int (nI m)), some (.int (nI (f_su of m k))), some (.int (nI (k + 1)))] [] S P I J n 0 0 := by
  intro d
  induction d with
  | zero =>
    intro k hd
    refine v_iload_n d_X2_sumOfDifferences_4 rfl ?_
    refine v_bipush (v := nI 9) d_X2_sumOfDifferences_5 x_bp_9 ?_
    refine w_icmp_gt d_X2_sumOfDifferences_7 (fun h7 => ?_) (fun h7 => False.elim (by (try simp (disch := omega) only [x_ti, x_tm1] at h7); omega))
    refine v_iload_n d_X2_sumOfDifferences_40 rfl ?_
    refine v_ret (v := some (.int _)) d_X2_sumOfDifferences_41 rfl ⟨rfl, _, rfl, rfl⟩ (by decide) (by decide) ?_
    have e1 : k = 9 := by omega
    subst e1
    exact hK
  | succ d ih =>
    intro k hd
    have hof1 := hof (k + 1)
    refine v_iload_n d_X2_sumOfDifferences_4 rfl ?_
    refine v_bipush (v := nI 9) d_X2_sumOfDifferences_5 x_bp_9 ?_
    refine w_icmp_gt d_X2_sumOfDifferences_7 (fun h7 => False.elim (by (try simp (disch := omega) only [x_ti, x_tm1] at h7); omega)) (fun h7 => ?_)
    refine v_aload_n d_X2_sumOfDifferences_10 rfl ?_
    refine v_gr d_X2_sumOfDifferences_11 lf_X2_30_2 rfl (hS _ _ rfl) (hP _ _ _ rfl) ?_
    refine v_iload_n d_X2_sumOfDifferences_14 rfl ?_
    refine v_iald _ d_X2_sumOfDifferences_15 (rfl) (hS _ _ rfl) (⟨by omega, by omega⟩) (hI (k + 1) (by omega) (by omega)) ?_
    refine w_if_eq d_X2_sumOfDifferences_16 (fun a16 => ?_) (fun a16 => ?_)
    · try simp (disch := omega) only [x_ti, x_tm1] at a16
      first | refine v_iinc (ls' := [_, _, _, _]) d_X2_sumOfDifferences_34 rfl (x_inc_1 _) (by decide) rfl ?_ | refine v_iinc (ls' := [_, _, _, _]) d_X2_sumOfDifferences_34 rfl rfl (by decide) rfl ?_
      refine v_goto d_X2_sumOfDifferences_37 ?_
      first
        | (rw [show f_su of m k + of (k + 1) * f_d m (k + 1) 9 = f_su of m (k + 1) by unfold f_su; rw [x_sm_s, Nat.mul_comm]]
           exact ih (k + 1) (by omega))
        | (have zo : of (k + 1) = 0 := by omega
           have zs : f_su of m (k + 1) = f_su of m k := by unfold f_su; rw [x_sm_s]; simp only [zo, Nat.mul_zero, Nat.add_zero]
           have hi := ih (k + 1) (by omega)
           rw [zs] at hi
           exact hi)
    · try simp (disch := omega) only [x_ti, x_tm1] at a16
      refine v_iload_n d_X2_sumOfDifferences_19 rfl ?_
      refine v_aload_n d_X2_sumOfDifferences_20 rfl ?_
      refine v_gr d_X2_sumOfDifferences_21 lf_X2_30_2 rfl (hS _ _ rfl) (hP _ _ _ rfl) ?_
      refine v_iload_n d_X2_sumOfDifferences_24 rfl ?_
      refine v_iald _ d_X2_sumOfDifferences_25 (rfl) (hS _ _ rfl) (⟨by omega, by omega⟩) (hI (k + 1) (by omega) (by omega)) ?_
      refine v_iload_n d_X2_sumOfDifferences_26 rfl ?_
      refine v_iload_n d_X2_sumOfDifferences_27 rfl ?_
      refine v_cs (as := [_, _]) (rest := [_, _]) d_X2_sumOfDifferences_28 ls_X2_191 rfl ⟨by decide, by decide⟩ rfl (Nat.le_of_ble_eq_true rfl) (by decide) (by decide) ?_
      refine t_X2_near m (k + 1) rfl rfl hm hm2 (by omega) (by omega) ?_
      refine v_imulN d_X2_sumOfDifferences_31 ?_
      refine v_iaddN d_X2_sumOfDifferences_32 ?_
      refine v_istore_n (ls' := [_, _, _, _]) d_X2_sumOfDifferences_33 (by decide) rfl ?_
      first | refine v_iinc (ls' := [_, _, _, _]) d_X2_sumOfDifferences_34 rfl (x_inc_1 _) (by decide) rfl ?_ | refine v_iinc (ls' := [_, _, _, _]) d_X2_sumOfDifferences_34 rfl rfl (by decide) rfl ?_
      refine v_goto d_X2_sumOfDifferences_37 ?_
      first
        | (rw [show f_su of m k + of (k + 1) * f_d m (k + 1) 9 = f_su of m (k + 1) by unfold f_su; rw [x_sm_s, Nat.mul_comm]]
           exact ih (k + 1) (by omega))
        | (have zo : of (k + 1) = 0 := by omega
           have zs : f_su of m (k + 1) = f_su of m k := by unfold f_su; rw [x_sm_s]; simp only [zo, Nat.mul_zero, Nat.add_zero]
           have hi := ih (k + 1) (by omega)
           rw [zs] at hi
           exact hi)

set_option maxRecDepth 100000 in
set_option maxHeartbeats 4000000 in
theorem t_X2_sum {K : x_K} {S : x_S} {P : x_P} {I : x_I} {J : x_J} {n : Nat} {x : Int32} (m : Nat) (hx : x = nI m) (hm : m < 1024) (hm2 : m % 2 = 0) (of : Nat → Nat) (hof : ∀ c, of c ≤ 256) (hI : ∀ c, 1 ≤ c → c < 10 → I 18 c = nI (of c)) (hS : x_hS S) (hP : x_hP P) (hK : K (some (.int (nI (f_su of m 9)))) S P I J n) : x_Call f_X2_sumOfDifferences [.ref 8, .int x] K S P I J n := by
  subst hx
  refine x_intro (by decide) 2 (ls := [_, _, _, _]) rfl (Nat.le_of_ble_eq_true rfl) ?_
  refine v_iconst (v := nI 0) d_X2_sumOfDifferences_0 x_ic_0 ?_
  refine v_istore_n (ls' := [_, _, _, _]) d_X2_sumOfDifferences_1 (by decide) rfl ?_
  refine v_iconst (v := nI 1) d_X2_sumOfDifferences_2 x_ic_1 ?_
  refine v_istore_n (ls' := [_, _, _, _]) d_X2_sumOfDifferences_3 (by decide) rfl ?_
  exact l_X2_sum m hm hm2 of hof hI hS hP hK 9 0 (by omega)

theorem x_ct_ab (p : Nat → Bool) (a : Nat) : ∀ b, x_ct p (a + b) = x_ct p a + x_ct (fun j => p (a + j)) b
  | 0 => rfl
  | b + 1 => by rw [← Nat.add_assoc, x_ct, x_ct, x_ct_ab p a b]; omega
def t_y (Z : x_I) (c e j : Nat) : Bool := decide ((Z 44 (64 * e + j)).toInt = (c : Int))
theorem t_y_of {Z : x_I} (mi : m_I Z) {N c : Nat} (hN : (N : Int) = m_ce (m_nb Z) 10) (hc : 1 ≤ c) : x_sm (fun e => x_ct (t_y Z c e) N) 4 = f_of Z c := by
  have hbm := m_ce_in mi.bo
  have h1 : ∀ e, e < 4 → x_ct (t_y Z c e) 64 = x_ct (t_y Z c e) N := fun e he => x_ct_ex 64 (by omega) (fun k q1 q2 => by
    unfold t_y
    have := mi.pz e k he q2 (by omega)
    exact decide_eq_false (by omega))
  unfold f_of
  rw [show 256 = 64 + (64 + (64 + 64)) by decide, x_ct_ab, x_ct_ab, x_ct_ab]
  have e0 : x_ct (fun k => decide ((Z 44 k).toInt = (c : Int))) 64 = x_ct (t_y Z c 0) 64 := x_ct_cg 64 (fun k _ => by unfold t_y; rw [show 64 * 0 + k = k by omega])
  have e1 : x_ct (fun j => decide ((Z 44 (64 + j)).toInt = (c : Int))) 64 = x_ct (t_y Z c 1) 64 := x_ct_cg 64 (fun k _ => by unfold t_y; rfl)
  have e2 : x_ct (fun j => decide ((Z 44 (64 + (64 + j))).toInt = (c : Int))) 64 = x_ct (t_y Z c 2) 64 := x_ct_cg 64 (fun k _ => by unfold t_y; rw [show 64 * 2 + k = 64 + (64 + k) by omega])
  have e3 : x_ct (fun j => decide ((Z 44 (64 + (64 + (64 + j)))).toInt = (c : Int))) 64 = x_ct (t_y Z c 3) 64 := x_ct_cg 64 (fun k _ => by unfold t_y; rw [show 64 * 3 + k = 64 + (64 + (64 + k)) by omega])
  simp only [e0, e1, e2, e3, h1 0 (by omega), h1 1 (by omega), h1 2 (by omega), h1 3 (by omega), x_sm]
  omega

set_option maxRecDepth 100000 in
set_option maxHeartbeats 4000000 in
theorem l_X2_cc_i {K : x_K} {S : x_S} {P : x_P} {J : x_J} {n : Nat} {fa : Nat → Nat} {bd : Nat} {Z : x_I} (I0 : x_I) (hR0 : c_R fa bd Z S P I0 J n) (mi : m_I Z) (N : Nat) (hN : (N : Int) = m_ce (m_nb Z) 10) (e : Nat) (he : e < 4) (hc : ∀ I : x_I, x_ex cF I0 I J J →  (∀ c, c < 10 → I 18 c = nI (x_sm (fun e => x_ct (t_y Z c e) N) e + x_ct (t_y Z c e) N)) → x_V f_X2_countColours K 51 [some (.ref 8), some (.int (nI e)), some (.int (nI N))] [] S P I J n 0 0) :
    ∀ d k : Nat, k + d = N → ∀ I : x_I, x_ex cF I0 I J J →  (∀ c, c < 10 → I 18 c = nI (x_sm (fun e => x_ct (t_y Z c e) N) e + x_ct (t_y Z c e) k)) → x_V f_X2_countColours K 17 [some (.ref 8), some (.int (nI e)), some (.int (nI k))] [] S P I J n 0 0 := by
  have hbm := m_ce_in mi.bo
  intro d
  induction d with
  | zero =>
    intro k hd I hex hv
    have hR := hR0.cgF hex p_ex.rf
    have hS := hR.hS
    have hP := hR.hP
    have hceN := hR.fb.ce.trans (x_of' (k := N) (by unfold m_ce at hN; omega))
    refine v_iload_n d_X2_countColours_17 rfl ?_
    refine v_aload_n d_X2_countColours_18 rfl ?_
    refine v_gr d_X2_countColours_19 lf_X2_38_2 rfl (hS _ _ rfl) (hR.pb) ?_
    refine v_gie d_X2_countColours_22 lf_X2_63_1 rfl (hR.sb) (hceN) ?_
    refine w_icmp_ge d_X2_countColours_25 (fun h25 => ?_) (fun h25 => False.elim (by (try simp (disch := omega) only [x_ti, x_tm1] at h25); omega))
    have e1 : k = N := by omega
    subst e1
    exact hc I hex hv
  | succ d ih =>
    intro k hd I hex hv
    have hR := hR0.cgF hex p_ex.rf
    have hS := hR.hS
    have hP := hR.hP
    have hceN := hR.fb.ce.trans (x_of' (k := N) (by unfold m_ce at hN; omega))
    have zpc := mi.pc (64 * e + k) (by omega)
    obtain ⟨pk, zpk0, zpk1, zpt, zpk3⟩ := x_ex1 (s := Z 44 (64 * e + k)) zpc.1
    have zpk : pk < 10 := by omega
    have zpic : I (11 + e) k = nI pk := (hR.Pi e k he (by omega)).trans zpk0
    refine v_iload_n d_X2_countColours_17 rfl ?_
    refine v_aload_n d_X2_countColours_18 rfl ?_
    refine v_gr d_X2_countColours_19 lf_X2_38_2 rfl (hS _ _ rfl) (hR.pb) ?_
    refine v_gie d_X2_countColours_22 lf_X2_63_1 rfl (hR.sb) (hceN) ?_
    refine w_icmp_ge d_X2_countColours_25 (fun h25 => False.elim (by (try simp (disch := omega) only [x_ti, x_tm1] at h25); omega)) (fun h25 => ?_)
    refine v_aload_n d_X2_countColours_28 rfl ?_
    refine v_gr d_X2_countColours_29 lf_X2_30_2 rfl (hS _ _ rfl) (hP _ _ _ rfl) ?_
    refine v_aload_n d_X2_countColours_32 rfl ?_
    refine v_gr d_X2_countColours_33 lf_X2_17_2 rfl (hS _ _ rfl) (hP _ _ _ rfl) ?_
    refine v_iload_n d_X2_countColours_36 rfl ?_
    refine v_aald _ d_X2_countColours_37 (rfl) (hS _ _ rfl) (by decide) (⟨by omega, by omega⟩) (c_pp hP he) ?_
    refine v_iload_n d_X2_countColours_38 rfl ?_
    refine v_iald _ d_X2_countColours_39 (rfl) (c_sp hS he) (⟨by omega, by omega⟩) (zpic) ?_
    refine v_dup2 d_X2_countColours_40 rfl rfl ?_
    refine v_iald _ d_X2_countColours_41 (rfl) (hS _ _ rfl) (⟨by omega, by omega⟩) (hv pk zpk) ?_
    refine v_iconst (v := nI 1) d_X2_countColours_42 x_ic_1 ?_
    refine v_iaddN d_X2_countColours_43 ?_
    refine v_iast _ d_X2_countColours_44 (rfl) (hS _ _ rfl) (⟨by omega, by omega⟩) ?_
    first | refine v_iinc (ls' := [_, _, _]) d_X2_countColours_45 rfl (x_inc_1 _) (by decide) rfl ?_ | refine v_iinc (ls' := [_, _, _]) d_X2_countColours_45 rfl rfl (by decide) rfl ?_
    refine v_goto d_X2_countColours_48 ?_
    refine ih (k + 1) (by omega) _ (hex.ui (a := 18) (k := pk) rfl) (fun c hc1 => ?_)
    rw [x_u2_at]
    by_cases w : c = pk
    · subst w
      rw [if_pos ⟨rfl, rfl⟩, Nat.add_assoc, x_ct_y (show t_y Z c e k = true by unfold t_y; exact decide_eq_true zpt)]
    · rw [if_neg (fun q => w q.2), hv c hc1, ← x_ct_n (show t_y Z c e k = false by unfold t_y; exact decide_eq_false (by omega)), Nat.add_zero]

set_option maxRecDepth 100000 in
set_option maxHeartbeats 4000000 in
theorem l_X2_cc_o {K : x_K} {S : x_S} {P : x_P} {J : x_J} {n : Nat} {fa : Nat → Nat} {bd : Nat} {Z : x_I} (I0 : x_I) (hR0 : c_R fa bd Z S P I0 J n) (mi : m_I Z) (N : Nat) (hN : (N : Int) = m_ce (m_nb Z) 10) (hK : ∀ I : x_I, x_ex cF I0 I J J →  (∀ c, c < 10 → I 18 c = nI (x_sm (fun e => x_ct (t_y Z c e) N) 4)) → K none S P I J n) :
    ∀ d e : Nat, e + d = 4 → ∀ I : x_I, x_ex cF I0 I J J →  (∀ c, c < 10 → I 18 c = nI (x_sm (fun e => x_ct (t_y Z c e) N) e)) → x_V f_X2_countColours K 10 [some (.ref 8), some (.int (nI e)), none] [] S P I J n 0 0 := by
  intro d
  induction d with
  | zero =>
    intro e hd I hex hv
    refine v_iload_n d_X2_countColours_10 rfl ?_
    refine v_iconst (v := nI 4) d_X2_countColours_11 x_ic_4 ?_
    refine w_icmp_ge d_X2_countColours_12 (fun h12 => ?_) (fun h12 => False.elim (by (try simp (disch := omega) only [x_ti, x_tm1] at h12); omega))
    refine v_ret (v := none) d_X2_countColours_57 rfl ⟨rfl, rfl⟩ (by decide) (by decide) ?_
    have e1 : e = 4 := by omega
    subst e1
    exact hK I hex hv
  | succ d ih =>
    intro e hd I hex hv
    refine v_iload_n d_X2_countColours_10 rfl ?_
    refine v_iconst (v := nI 4) d_X2_countColours_11 x_ic_4 ?_
    refine w_icmp_ge d_X2_countColours_12 (fun h12 => False.elim (by (try simp (disch := omega) only [x_ti, x_tm1] at h12); omega)) (fun h12 => ?_)
    refine v_iconst (v := nI 0) d_X2_countColours_15 x_ic_0 ?_
    refine v_istore_n (ls' := [_, _, _]) d_X2_countColours_16 (by decide) rfl ?_
    refine l_X2_cc_i I0 hR0 mi N hN e (by omega) (fun I hex hv => ?_) N 0 (by omega) I hex (fun c hc1 => by rw [hv c hc1]; rfl)
    first | refine v_iinc (ls' := [_, _, _]) d_X2_countColours_51 rfl (x_inc_1 _) (by decide) rfl ?_ | refine v_iinc (ls' := [_, _, _]) d_X2_countColours_51 rfl rfl (by decide) rfl ?_
    refine v_goto d_X2_countColours_54 ?_
    refine x_V.fg1 2 (ls' := [_, _, _]) rfl ?_
    exact ih (e + 1) (by omega) I hex hv

set_option maxRecDepth 100000 in
set_option maxHeartbeats 4000000 in
theorem t_X2_countColours {K : x_K} {S : x_S} {P : x_P} {I : x_I} {J : x_J} {n : Nat} {fa : Nat → Nat} {bd : Nat} {Z : x_I} (hR : c_R fa bd Z S P I J n) (mi : m_I Z) (N : Nat) (hN : (N : Int) = m_ce (m_nb Z) 10) (hK : ∀ I' : x_I, x_ex cF I I' J J → (∀ c, 1 ≤ c → c < 10 → I' 18 c = nI (f_of Z c)) → K none S P I' J n) : x_Call f_X2_countColours [.ref 8] K S P I J n := by
  have hS := hR.hS
  have hP := hR.hP
  have hn := mi.hn
  have hfo := mi.fo
  have h9 : m_ns Z = (Z 39 2).toInt.toNat := rfl
  refine x_intro (by decide) 2 (ls := [_, _, _]) rfl (Nat.le_of_ble_eq_true rfl) ?_
  refine v_aload_n d_X2_countColours_0 rfl ?_
  refine v_gr d_X2_countColours_1 lf_X2_30_2 rfl (hS _ _ rfl) (hP _ _ _ rfl) ?_
  refine v_iconst (v := nI 0) d_X2_countColours_4 x_ic_0 ?_
  refine v_cs (as := [_, _]) (rest := []) d_X2_countColours_5 ls_X2_57 rfl ⟨by decide, by decide⟩ rfl (Nat.le_of_ble_eq_true rfl) (by decide) (by decide) ?_
  refine t_fill 10 (hS _ _ rfl) (by decide) ?_
  refine v_iconst (v := nI 0) d_X2_countColours_8 x_ic_0 ?_
  refine v_istore_n (ls' := [_, _, _]) d_X2_countColours_9 (by decide) rfl ?_
  refine l_X2_cc_o I hR mi N hN (fun I' hex hv => hK I' hex (fun c h1 h2 => by rw [hv c h2, t_y_of mi hN h1])) 4 0 (by omega) _ (x_ex.fi_ x_ex.rf (fun _ => rfl)) (fun c hc1 => x_fi_in _ _ (Nat.zero_le _) (by omega))

def f_rl (o : Option (Nat × Nat)) (a b : Int32) : Prop := match o with
  | none => a = nI 0
  | some w => a = nI w.1 ∧ b = nI w.2 ∧ 0 < w.1 ∧ w.1 < 1024 ∧ w.2 ≤ 23040
theorem f_be_so {of : Nat → Nat} {q : Nat} : ∀ k, (∃ i, i < k ∧ f_sz (2 * (i + 1)) = q) → ∃ w, f_be of q k = some w
  | 0, ⟨i, h, _⟩ => absurd h (Nat.not_lt_zero _)
  | k + 1, ⟨i, h1, h2⟩ => by
    rw [f_be]
    by_cases e : f_sz (2 * (k + 1)) = q
    · rw [if_pos e]
      cases f_be of q k with
      | none => exact ⟨_, rfl⟩
      | some w => unfold f_up; simp only; split <;> exact ⟨_, rfl⟩
    · rw [if_neg e]
      exact f_be_so k ⟨i, Nat.lt_of_le_of_ne (by omega) (fun z => e (by rw [← z]; exact h2)), h2⟩
theorem f_be_9 (of : Nat → Nat) {q : Nat} (h1 : 1 ≤ q) (h2 : q ≤ 9) : ∃ w, f_be of q 511 = some w := by
  have : ∀ q : Fin 10, 1 ≤ q.1 → 2 ^ q.1 - 2 < 511 ∧ f_sz (2 * (2 ^ q.1 - 2 + 1)) = q.1 := by decide +kernel
  exact f_be_so 511 ⟨2 ^ q - 2, this ⟨q, by omega⟩ h1⟩

theorem f_sz_le (m : Nat) : f_sz m ≤ 9 := x_sm_le 9 (fun k _ => f_bi_le m (k + 1))

set_option maxRecDepth 100000 in
set_option maxHeartbeats 4000000 in
theorem l_X2_few {K : x_K} {S : x_S} {P : x_P} {J : x_J} {n : Nat} (I0 : x_I) (q : Nat) (hq : q < 10) (of : Nat → Nat) (hof : ∀ c, of c ≤ 256) (hS : x_hS S) (hP : x_hP P) (hK : ∀ I : x_I, x_ex cF I0 I J J → (∀ c, 1 ≤ c → c < 10 → I 18 c = nI (of c)) → f_rl (f_be of q 511) (I 8 13) (I 8 14) →  K none S P I J n) :
    ∀ d k : Nat, k + d = 511 → ∀ I : x_I, x_ex cF I0 I J J → (∀ c, 1 ≤ c → c < 10 → I 18 c = nI (of c)) → f_rl (f_be of q k) (I 8 13) (I 8 14) →  x_V f_X2_findFew K 16 [some (.ref 8), some (.int (nI q)), some (.int (nI (2 * (k + 1)))), none] [] S P I J n 0 0 := by
  intro d
  induction d with
  | zero =>
    intro k hd I hex hI hr
    refine v_iload_n d_X2_findFew_16 rfl ?_
    refine v_sipush (v := nI 1024) d_X2_findFew_17 x_sp_1024 ?_
    refine w_icmp_ge d_X2_findFew_20 (fun h20 => ?_) (fun h20 => False.elim (by (try simp (disch := omega) only [x_ti, x_tm1] at h20); omega))
    refine v_ret (v := none) d_X2_findFew_68 rfl ⟨rfl, rfl⟩ (by decide) (by decide) ?_
    have e1 : k = 511 := by omega
    subst e1
    exact hK I hex hI hr
  | succ d ih =>
    intro k hd I hex hI hr
    have hsz := f_sz_le (2 * (k + 1))
    have hsu : f_su of (2 * (k + 1)) 9 ≤ 23040 := f_su_le hof 9
    cases ho : f_be of q k with
    | none =>
      rw [ho] at hr
      have hr : I 8 13 = nI 0 := hr
      refine v_iload_n d_X2_findFew_16 rfl ?_
      refine v_sipush (v := nI 1024) d_X2_findFew_17 x_sp_1024 ?_
      refine w_icmp_ge d_X2_findFew_20 (fun h20 => False.elim (by (try simp (disch := omega) only [x_ti, x_tm1] at h20); omega)) (fun h20 => ?_)
      refine v_iload_n d_X2_findFew_23 rfl ?_
      refine v_cs (as := [_]) (rest := []) d_X2_findFew_24 ls_X2_184 rfl ⟨by decide, by decide⟩ rfl (Nat.le_of_ble_eq_true rfl) (by decide) (by decide) ?_
      refine t_bitI (2 * (k + 1)) rfl (by omega) ?_
      rw [show f_sz (2 * (k + 1)) + 2 * (k + 1) % 2 = f_sz (2 * (k + 1)) by omega]
      refine v_iload_n d_X2_findFew_27 rfl ?_
      refine w_icmp_ne d_X2_findFew_28 (fun a28 => ?_) (fun a28 => ?_)
      · try simp (disch := omega) only [x_ti, x_tm1] at a28
        first | refine v_iinc (ls' := [_, _, _, _]) d_X2_findFew_62 rfl (x_inc_2 _) (by decide) rfl ?_ | refine v_iinc (ls' := [_, _, _, _]) d_X2_findFew_62 rfl rfl (by decide) rfl ?_
        refine v_goto d_X2_findFew_65 ?_
        first
          | (refine x_V.fg1 3 (ls' := [_, _, _, _]) rfl ?_
             refine ih (k + 1) (by omega) _ ((hex.ui (a := 8) (k := 13) rfl).ui (a := 8) (k := 14) rfl) hI ?_
             rw [f_be, if_pos (by omega), ho]
             exact ⟨rfl, rfl, by omega, by omega, hsu⟩)
          | (refine ih (k + 1) (by omega) I hex hI ?_
             rw [f_be, if_neg (by omega), ho]
             exact hr)
          | (refine x_V.fg1 3 (ls' := [_, _, _, _]) rfl ?_
             refine ih (k + 1) (by omega) I hex hI ?_
             rw [f_be, if_neg (by omega), ho]
             exact hr)
      · try simp (disch := omega) only [x_ti, x_tm1] at a28
        refine v_aload_n d_X2_findFew_31 rfl ?_
        refine v_iload_n d_X2_findFew_32 rfl ?_
        refine v_cv (as := [_]) (rest := []) d_X2_findFew_33 lv_X2_188_2 (hS _ _ rfl) rfl ⟨by decide, by decide⟩ rfl (Nat.le_of_ble_eq_true rfl) (by decide) (by decide) ?_
        refine t_X2_sum (2 * (k + 1)) rfl (by omega) (by omega) of hof hI hS hP ?_
        refine v_istore_n (ls' := [_, _, _, _]) d_X2_findFew_36 (by decide) rfl ?_
        refine v_aload_n d_X2_findFew_37 rfl ?_
        refine v_gie d_X2_findFew_38 lf_X2_178_2 rfl (hS _ _ rfl) (hr) ?_
        refine w_if_eq d_X2_findFew_41 (fun a41 => ?_) (fun a41 => False.elim (by (try simp (disch := omega) only [x_ti, x_tm1] at a41); omega))
        refine v_aload_n d_X2_findFew_52 rfl ?_
        refine v_iload_n d_X2_findFew_53 rfl ?_
        refine v_pi d_X2_findFew_54 (lp_X2_178_2 _) rfl (hS _ _ rfl) (rfl) rfl ?_
        refine v_aload_n d_X2_findFew_57 rfl ?_
        refine v_iload_n d_X2_findFew_58 rfl ?_
        refine v_pi d_X2_findFew_59 (lp_X2_181_2 _) rfl (hS _ _ rfl) (rfl) rfl ?_
        first | refine v_iinc (ls' := [_, _, _, _]) d_X2_findFew_62 rfl (x_inc_2 _) (by decide) rfl ?_ | refine v_iinc (ls' := [_, _, _, _]) d_X2_findFew_62 rfl rfl (by decide) rfl ?_
        refine v_goto d_X2_findFew_65 ?_
        first
          | (refine x_V.fg1 3 (ls' := [_, _, _, _]) rfl ?_
             refine ih (k + 1) (by omega) _ ((hex.ui (a := 8) (k := 13) rfl).ui (a := 8) (k := 14) rfl) hI ?_
             rw [f_be, if_pos (by omega), ho]
             exact ⟨rfl, rfl, by omega, by omega, hsu⟩)
          | (refine ih (k + 1) (by omega) I hex hI ?_
             rw [f_be, if_neg (by omega), ho]
             exact hr)
          | (refine x_V.fg1 3 (ls' := [_, _, _, _]) rfl ?_
             refine ih (k + 1) (by omega) I hex hI ?_
             rw [f_be, if_neg (by omega), ho]
             exact hr)
    | some w =>
      rw [ho] at hr
      obtain ⟨zw1, zw2, zw3⟩ := hr.2.2
      refine v_iload_n d_X2_findFew_16 rfl ?_
      refine v_sipush (v := nI 1024) d_X2_findFew_17 x_sp_1024 ?_
      refine w_icmp_ge d_X2_findFew_20 (fun h20 => False.elim (by (try simp (disch := omega) only [x_ti, x_tm1] at h20); omega)) (fun h20 => ?_)
      refine v_iload_n d_X2_findFew_23 rfl ?_
      refine v_cs (as := [_]) (rest := []) d_X2_findFew_24 ls_X2_184 rfl ⟨by decide, by decide⟩ rfl (Nat.le_of_ble_eq_true rfl) (by decide) (by decide) ?_
      refine t_bitI (2 * (k + 1)) rfl (by omega) ?_
      rw [show f_sz (2 * (k + 1)) + 2 * (k + 1) % 2 = f_sz (2 * (k + 1)) by omega]
      refine v_iload_n d_X2_findFew_27 rfl ?_
      refine w_icmp_ne d_X2_findFew_28 (fun a28 => ?_) (fun a28 => ?_)
      · try simp (disch := omega) only [x_ti, x_tm1] at a28
        first | refine v_iinc (ls' := [_, _, _, _]) d_X2_findFew_62 rfl (x_inc_2 _) (by decide) rfl ?_ | refine v_iinc (ls' := [_, _, _, _]) d_X2_findFew_62 rfl rfl (by decide) rfl ?_
        refine v_goto d_X2_findFew_65 ?_
        first
          | (refine x_V.fg1 3 (ls' := [_, _, _, _]) rfl ?_
             refine ih (k + 1) (by omega) _ ((hex.ui (a := 8) (k := 13) rfl).ui (a := 8) (k := 14) rfl) hI ?_
             rw [f_be, if_pos (by omega), ho]
             show f_rl (if f_su of (2 * (k + 1)) 9 < w.2 then some _ else some _) _ _
             rw [if_pos (by omega)]
             exact ⟨rfl, rfl, by omega, by omega, hsu⟩)
          | (refine x_V.fg1 3 (ls' := [_, _, _, _]) rfl ?_
             refine ih (k + 1) (by omega) I hex hI ?_
             rw [f_be, if_pos (by omega), ho]
             show f_rl (if f_su of (2 * (k + 1)) 9 < w.2 then some _ else some _) _ _
             rw [if_neg (by omega)]
             exact hr)
          | (refine ih (k + 1) (by omega) I hex hI ?_
             rw [f_be, if_neg (by omega), ho]
             exact hr)
      · try simp (disch := omega) only [x_ti, x_tm1] at a28
        refine v_aload_n d_X2_findFew_31 rfl ?_
        refine v_iload_n d_X2_findFew_32 rfl ?_
        refine v_cv (as := [_]) (rest := []) d_X2_findFew_33 lv_X2_188_2 (hS _ _ rfl) rfl ⟨by decide, by decide⟩ rfl (Nat.le_of_ble_eq_true rfl) (by decide) (by decide) ?_
        refine t_X2_sum (2 * (k + 1)) rfl (by omega) (by omega) of hof hI hS hP ?_
        refine v_istore_n (ls' := [_, _, _, _]) d_X2_findFew_36 (by decide) rfl ?_
        refine v_aload_n d_X2_findFew_37 rfl ?_
        refine v_gie d_X2_findFew_38 lf_X2_178_2 rfl (hS _ _ rfl) (hr.1) ?_
        refine w_if_eq d_X2_findFew_41 (fun a41 => False.elim (by (try simp (disch := omega) only [x_ti, x_tm1] at a41); omega)) (fun a41 => ?_)
        refine v_iload_n d_X2_findFew_44 rfl ?_
        refine v_aload_n d_X2_findFew_45 rfl ?_
        refine v_gie d_X2_findFew_46 lf_X2_181_2 rfl (hS _ _ rfl) (hr.2.1) ?_
        refine w_icmp_ge d_X2_findFew_49 (fun a49 => ?_) (fun a49 => ?_)
        · try simp (disch := omega) only [x_ti, x_tm1] at a49
          first | refine v_iinc (ls' := [_, _, _, _]) d_X2_findFew_62 rfl (x_inc_2 _) (by decide) rfl ?_ | refine v_iinc (ls' := [_, _, _, _]) d_X2_findFew_62 rfl rfl (by decide) rfl ?_
          refine v_goto d_X2_findFew_65 ?_
          first
            | (refine x_V.fg1 3 (ls' := [_, _, _, _]) rfl ?_
               refine ih (k + 1) (by omega) _ ((hex.ui (a := 8) (k := 13) rfl).ui (a := 8) (k := 14) rfl) hI ?_
               rw [f_be, if_pos (by omega), ho]
               show f_rl (if f_su of (2 * (k + 1)) 9 < w.2 then some _ else some _) _ _
               rw [if_pos (by omega)]
               exact ⟨rfl, rfl, by omega, by omega, hsu⟩)
            | (refine x_V.fg1 3 (ls' := [_, _, _, _]) rfl ?_
               refine ih (k + 1) (by omega) I hex hI ?_
               rw [f_be, if_pos (by omega), ho]
               show f_rl (if f_su of (2 * (k + 1)) 9 < w.2 then some _ else some _) _ _
               rw [if_neg (by omega)]
               exact hr)
            | (refine ih (k + 1) (by omega) I hex hI ?_
               rw [f_be, if_neg (by omega), ho]
               exact hr)
        · try simp (disch := omega) only [x_ti, x_tm1] at a49
          refine v_aload_n d_X2_findFew_52 rfl ?_
          refine v_iload_n d_X2_findFew_53 rfl ?_
          refine v_pi d_X2_findFew_54 (lp_X2_178_2 _) rfl (hS _ _ rfl) (rfl) rfl ?_
          refine v_aload_n d_X2_findFew_57 rfl ?_
          refine v_iload_n d_X2_findFew_58 rfl ?_
          refine v_pi d_X2_findFew_59 (lp_X2_181_2 _) rfl (hS _ _ rfl) (rfl) rfl ?_
          first | refine v_iinc (ls' := [_, _, _, _]) d_X2_findFew_62 rfl (x_inc_2 _) (by decide) rfl ?_ | refine v_iinc (ls' := [_, _, _, _]) d_X2_findFew_62 rfl rfl (by decide) rfl ?_
          refine v_goto d_X2_findFew_65 ?_
          first
            | (refine x_V.fg1 3 (ls' := [_, _, _, _]) rfl ?_
               refine ih (k + 1) (by omega) _ ((hex.ui (a := 8) (k := 13) rfl).ui (a := 8) (k := 14) rfl) hI ?_
               rw [f_be, if_pos (by omega), ho]
               show f_rl (if f_su of (2 * (k + 1)) 9 < w.2 then some _ else some _) _ _
               rw [if_pos (by omega)]
               exact ⟨rfl, rfl, by omega, by omega, hsu⟩)
            | (refine x_V.fg1 3 (ls' := [_, _, _, _]) rfl ?_
               refine ih (k + 1) (by omega) I hex hI ?_
               rw [f_be, if_pos (by omega), ho]
               show f_rl (if f_su of (2 * (k + 1)) 9 < w.2 then some _ else some _) _ _
               rw [if_neg (by omega)]
               exact hr)
            | (refine ih (k + 1) (by omega) I hex hI ?_
               rw [f_be, if_neg (by omega), ho]
               exact hr)

set_option maxRecDepth 100000 in
set_option maxHeartbeats 4000000 in
theorem t_X2_findFew {K : x_K} {S : x_S} {P : x_P} {I : x_I} {J : x_J} {n : Nat} {x : Int32} {fa : Nat → Nat} {bd : Nat} {Z : x_I} (hR : c_R fa bd Z S P I J n) (mi : m_I Z) (q : Nat) (hx : x = nI q) (hq : q < 10) (N : Nat) (hN : (N : Int) = m_ce (m_nb Z) 10) (hK : ∀ I' : x_I, x_ex cF I I' J J → f_rl (f_be (f_of Z) q 511) (I' 8 13) (I' 8 14) → K none S P I' J n) : x_Call f_X2_findFew [.ref 8, .int x] K S P I J n := by
  have hS := hR.hS
  have hP := hR.hP
  have hn := mi.hn
  have hfo := mi.fo
  have h9 : m_ns Z = (Z 39 2).toInt.toNat := rfl
  subst hx
  refine x_intro (by decide) 2 (ls := [_, _, _, _]) rfl (Nat.le_of_ble_eq_true rfl) ?_
  refine v_aload_n d_X2_findFew_0 rfl ?_
  refine v_cv (as := []) (rest := []) d_X2_findFew_1 lv_X2_175_2 (hS _ _ rfl) rfl ⟨by decide, by decide⟩ rfl (Nat.le_of_ble_eq_true rfl) (by decide) (by decide) ?_
  refine t_X2_countColours hR mi N hN (fun I' hex hof => ?_)
  refine v_aload_n d_X2_findFew_4 rfl ?_
  refine v_iconst (v := nI 0) d_X2_findFew_5 x_ic_0 ?_
  refine v_pi d_X2_findFew_6 (lp_X2_178_2 _) rfl (hS _ _ rfl) (rfl) rfl ?_
  refine v_aload_n d_X2_findFew_9 rfl ?_
  refine v_iconst (v := nI 0) d_X2_findFew_10 x_ic_0 ?_
  refine v_pi d_X2_findFew_11 (lp_X2_181_2 _) rfl (hS _ _ rfl) (rfl) rfl ?_
  refine v_iconst (v := nI 2) d_X2_findFew_14 x_ic_2 ?_
  refine v_istore_n (ls' := [_, _, _, _]) d_X2_findFew_15 (by decide) rfl ?_
  exact l_X2_few I q hq (f_of Z) (f_of_le Z) hS hP (fun I hex _ hr => hK I hex hr) 511 0 (by omega) _ ((hex.ui (a := 8) (k := 13) rfl).ui (a := 8) (k := 14) rfl) hof rfl

set_option maxRecDepth 100000 in
set_option maxHeartbeats 4000000 in
theorem t_X11_few {K : x_K} {S : x_S} {P : x_P} {I : x_I} {J : x_J} {n : Nat} {k what : Int32} {fa : Nat → Nat} {bd : Nat} {Z : x_I} (hR : c_R fa bd Z S P I J n) (mi : m_I Z) (hK : c_K K (Z) I J n (.int (q_few Z k what))) : x_Call f_X11_few [.ref 1, .int k, .int what] K S P I J n := by
  have hS := hR.hS
  have hP := hR.hP
  have hn := mi.hn
  have hfo := mi.fo
  have h9 : m_ns Z = (Z 39 2).toInt.toNat := rfl
  have hbm := m_ce_in mi.bo
  refine x_intro (by decide) 0 (ls := [_, _, _]) rfl (Nat.le_of_ble_eq_true rfl) ?_
  refine v_iload_n d_X11_few_0 rfl ?_
  refine v_iconst (v := nI 1) d_X11_few_1 x_ic_1 ?_
  refine v_bipush (v := nI 9) d_X11_few_2 x_bp_9 ?_
  refine v_cs (as := [_, _, _]) (rest := []) d_X11_few_4 ls_X11_57 rfl ⟨by decide, by decide⟩ rfl (Nat.le_of_ble_eq_true rfl) (by decide) (by decide) ?_
  refine t_X11_within (x_ti (k := 1) (by decide)) (x_ti (k := 9) (by decide)) (fun zq1 => ?_) (fun zq1 => ?_)
  · obtain ⟨j, rfl, hk_j, t_j, y_j⟩ := x_ex1 (s := k) (by omega)
    have zq1b := zq1
    rw [t_j] at zq1b
    refine w_if_eq d_X11_few_7 (fun h7 => absurd h7 (by decide)) (fun _ => ?_)
    refine v_iload_n d_X11_few_10 rfl ?_
    refine v_iconst (v := nI 0) d_X11_few_11 x_ic_0 ?_
    refine v_iconst (v := nI 1) d_X11_few_12 x_ic_1 ?_
    refine v_cs (as := [_, _, _]) (rest := []) d_X11_few_13 ls_X11_57 rfl ⟨by decide, by decide⟩ rfl (Nat.le_of_ble_eq_true rfl) (by decide) (by decide) ?_
    refine t_X11_within (x_ti (k := 0) (by decide)) (x_ti (k := 1) (by decide)) (fun zq2 => ?_) (fun zq2 => ?_)
    · refine w_if_ne d_X11_few_16 (fun _ => ?_) (fun h16 => absurd h16 (by decide))
      refine v_aload_n d_X11_few_22 rfl ?_
      refine v_gr d_X11_few_23 lf_X11_39_11 rfl (hS _ _ rfl) (hP _ _ _ rfl) ?_
      refine v_iload_n d_X11_few_26 rfl ?_
      refine v_cv (as := [_]) (rest := []) d_X11_few_27 lv_X11_277_2 (hS _ _ rfl) rfl ⟨by decide, by decide⟩ rfl (Nat.le_of_ble_eq_true rfl) (by decide) (by decide) ?_
      refine t_X2_findFew hR mi j rfl (by omega) (m_ce (m_nb Z) 10).toNat (by omega) (fun I' h2 hr => ?_)
      obtain ⟨w, zw⟩ := f_be_9 (f_of Z) (show 1 ≤ j by omega) (show j ≤ 9 by omega)
      rw [zw] at hr
      refine v_iload_n d_X11_few_30 rfl ?_
      refine w_if_ne d_X11_few_31 (fun a31 => ?_) (fun a31 => ?_)
      · try simp (disch := omega) only [x_ti, x_tm1] at a31
        refine v_aload_n d_X11_few_44 rfl ?_
        refine v_gr d_X11_few_45 lf_X11_39_11 rfl (hS _ _ rfl) (hP _ _ _ rfl) ?_
        refine v_gie d_X11_few_48 lf_X11_283_2 rfl (hS _ _ rfl) (hr.2.1) ?_
        refine v_ret (v := some (.int _)) d_X11_few_51 rfl ⟨rfl, _, rfl, rfl⟩ (by decide) (by decide) ?_
        first
          | (have ec0 : ¬ (¬ ((1 ≤ (nI j).toInt ∧ (nI j).toInt ≤ 9) ∧ 0 ≤ what.toInt ∧ what.toInt ≤ 1)) := fun z => z ⟨zq1, zq2⟩
             simp only [q_few, x_if_f ec0, y_j, zw, f_fin, x_if_t (show what.toInt = 0 by omega)] at hK
             exact hK _ _ _ _ _ ⟨fa, bd, hR.cgF h2 p_ex.rf⟩ h2.FC (by omega))
          | (have ec0 : ¬ (¬ ((1 ≤ (nI j).toInt ∧ (nI j).toInt ≤ 9) ∧ 0 ≤ what.toInt ∧ what.toInt ≤ 1)) := fun z => z ⟨zq1, zq2⟩
             simp only [q_few, x_if_f ec0, y_j, zw, f_fin, x_if_f (show ¬ what.toInt = 0 by omega)] at hK
             exact hK _ _ _ _ _ ⟨fa, bd, hR.cgF h2 p_ex.rf⟩ h2.FC (by omega))
      · try simp (disch := omega) only [x_ti, x_tm1] at a31
        refine v_aload_n d_X11_few_34 rfl ?_
        refine v_gr d_X11_few_35 lf_X11_39_11 rfl (hS _ _ rfl) (hP _ _ _ rfl) ?_
        refine v_gie d_X11_few_38 lf_X11_280_2 rfl (hS _ _ rfl) (hr.1) ?_
        refine v_goto d_X11_few_41 ?_
        refine v_ret (v := some (.int _)) d_X11_few_51 rfl ⟨rfl, _, rfl, rfl⟩ (by decide) (by decide) ?_
        first
          | (have ec0 : ¬ (¬ ((1 ≤ (nI j).toInt ∧ (nI j).toInt ≤ 9) ∧ 0 ≤ what.toInt ∧ what.toInt ≤ 1)) := fun z => z ⟨zq1, zq2⟩
             simp only [q_few, x_if_f ec0, y_j, zw, f_fin, x_if_t (show what.toInt = 0 by omega)] at hK
             exact hK _ _ _ _ _ ⟨fa, bd, hR.cgF h2 p_ex.rf⟩ h2.FC (by omega))
          | (have ec0 : ¬ (¬ ((1 ≤ (nI j).toInt ∧ (nI j).toInt ≤ 9) ∧ 0 ≤ what.toInt ∧ what.toInt ≤ 1)) := fun z => z ⟨zq1, zq2⟩
             simp only [q_few, x_if_f ec0, y_j, zw, f_fin, x_if_f (show ¬ what.toInt = 0 by omega)] at hK
             exact hK _ _ _ _ _ ⟨fa, bd, hR.cgF h2 p_ex.rf⟩ h2.FC (by omega))
    · refine w_if_ne d_X11_few_16 (fun h16 => absurd h16 (by decide)) (fun _ => ?_)
      refine v_bipush (v := (-2)) d_X11_few_19 x_bp_m2 ?_
      refine v_ret (v := some (.int _)) d_X11_few_21 rfl ⟨rfl, _, rfl, rfl⟩ (by decide) (by decide) ?_
      first
        | (have ec0 : ¬ ((1 ≤ k.toInt ∧ k.toInt ≤ 9) ∧ 0 ≤ what.toInt ∧ what.toInt ≤ 1) := fun z => zq1 z.1
           simp only [q_few, x_if_t ec0] at hK
           exact hK _ _ _ _ _ ⟨fa, bd, hR⟩ (x_ex.rf) (by omega))
        | (have ec0 : ¬ ((1 ≤ (nI j).toInt ∧ (nI j).toInt ≤ 9) ∧ 0 ≤ what.toInt ∧ what.toInt ≤ 1) := fun z => zq2 z.2
           simp only [q_few, x_if_t ec0] at hK
           exact hK _ _ _ _ _ ⟨fa, bd, hR⟩ (x_ex.rf) (by omega))
  · refine w_if_eq d_X11_few_7 (fun _ => ?_) (fun h7 => absurd h7 (by decide))
    refine v_bipush (v := (-2)) d_X11_few_19 x_bp_m2 ?_
    refine v_ret (v := some (.int _)) d_X11_few_21 rfl ⟨rfl, _, rfl, rfl⟩ (by decide) (by decide) ?_
    first
      | (have ec0 : ¬ ((1 ≤ k.toInt ∧ k.toInt ≤ 9) ∧ 0 ≤ what.toInt ∧ what.toInt ≤ 1) := fun z => zq1 z.1
         simp only [q_few, x_if_t ec0] at hK
         exact hK _ _ _ _ _ ⟨fa, bd, hR⟩ (x_ex.rf) (by omega))
      | (have ec0 : ¬ ((1 ≤ (nI j).toInt ∧ (nI j).toInt ≤ 9) ∧ 0 ≤ what.toInt ∧ what.toInt ≤ 1) := fun z => zq2 z.2
         simp only [q_few, x_if_t ec0] at hK
         exact hK _ _ _ _ _ ⟨fa, bd, hR⟩ (x_ex.rf) (by omega))

