set_option maxRecDepth 100000 in
set_option maxHeartbeats 4000000 in
theorem t_X7_begin {K : x_K} {S : x_S} {P : x_P} {I : x_I} {J : x_J} {n : Nat} (hS : x_hS S) (hP : x_hP P) (hK : K none S P (x_u2 I 31 3 (nI 0)) J n) : x_Call f_X7_begin [.ref 31] K S P I J n := by
  refine x_intro (by decide) 0 (ls := [_]) rfl (Nat.le_of_ble_eq_true rfl) ?_
  refine v_aload_n d_X7_begin_0 rfl ?_
  refine v_iconst (v := nI 0) d_X7_begin_1 x_ic_0 ?_
  refine v_pi d_X7_begin_2 (lp_X7_27_7 _) rfl (hS _ _ rfl) (rfl) rfl ?_
  refine v_ret (v := none) d_X7_begin_5 rfl ⟨rfl, rfl⟩ (by decide) (by decide) ?_
  exact hK

set_option maxRecDepth 100000 in
set_option maxHeartbeats 4000000 in
theorem t_X7_failBy {K : x_K} {S : x_S} {P : x_P} {I : x_I} {J : x_J} {n : Nat} {x : Int32} (hS : x_hS S) (hP : x_hP P) (hK : K (some (.int (-10 - x))) S P (x_u2 I 31 3 x) J n) : x_Call f_X7_failBy [.ref 31, .int x] K S P I J n := by
  refine x_intro (by decide) 0 (ls := [_, _]) rfl (Nat.le_of_ble_eq_true rfl) ?_
  refine v_aload_n d_X7_failBy_0 rfl ?_
  refine v_iload_n d_X7_failBy_1 rfl ?_
  refine v_pi d_X7_failBy_2 (lp_X7_27_7 _) rfl (hS _ _ rfl) (rfl) rfl ?_
  refine v_bipush (v := (-10)) d_X7_failBy_5 x_bp_m10 ?_
  refine v_iload_n d_X7_failBy_7 rfl ?_
  refine v_isub d_X7_failBy_8 ?_
  refine v_ret (v := some (.int _)) d_X7_failBy_9 rfl ⟨rfl, _, rfl, rfl⟩ (by decide) (by decide) ?_
  exact hK

set_option maxRecDepth 100000 in
set_option maxHeartbeats 4000000 in
theorem t_X7_laneOf {K : x_K} {S : x_S} {P : x_P} {I : x_I} {J : x_J} {n : Nat} {x : Int32} (k : Nat) (hx : x = nI k) (hk : k < 4) (hS : x_hS S) (hP : x_hP P) (hK : K (some (.int (I 37 k))) S P I J n) : x_Call f_X7_laneOf [.ref 31, .int x] K S P I J n := by
  subst hx
  refine x_intro (by decide) 0 (ls := [_, _]) rfl (Nat.le_of_ble_eq_true rfl) ?_
  refine v_aload_n d_X7_laneOf_0 rfl ?_
  refine v_gr d_X7_laneOf_1 lf_X7_16_7 rfl (hS _ _ rfl) (hP _ _ _ rfl) ?_
  refine v_iload_n d_X7_laneOf_4 rfl ?_
  refine v_iald _ d_X7_laneOf_5 (rfl) (hS _ _ rfl) (⟨by omega, by omega⟩) (rfl) ?_
  refine v_ret (v := some (.int _)) d_X7_laneOf_6 rfl ⟨rfl, _, rfl, rfl⟩ (by decide) (by decide) ?_
  exact hK

set_option maxRecDepth 100000 in
set_option maxHeartbeats 4000000 in
theorem t_X7_read {K : x_K} {S : x_S} {P : x_P} {I : x_I} {J : x_J} {n : Nat} {x y : Int32} (k i : Nat) (hx : x = nI k) (hk : k < 4) (hy : y = nI i) (hi : i < 64) (hS : x_hS S) (hP : x_hP P) (hK : K (some (.int (I (33 + k) i))) S P I J n) : x_Call f_X7_read [.ref 31, .int x, .int y] K S P I J n := by
  subst hx hy
  refine x_intro (by decide) 0 (ls := [_, _, _]) rfl (Nat.le_of_ble_eq_true rfl) ?_
  refine v_aload_n d_X7_read_0 rfl ?_
  refine v_gr d_X7_read_1 lf_X7_11_7 rfl (hS _ _ rfl) (hP _ _ _ rfl) ?_
  refine v_iload_n d_X7_read_4 rfl ?_
  refine v_aald _ d_X7_read_5 (rfl) (hS _ _ rfl) (by decide) (⟨by omega, by omega⟩) (c_pr hP hk) ?_
  refine v_iload_n d_X7_read_6 rfl ?_
  refine v_iald _ d_X7_read_7 (rfl) (c_sr hS hk) (⟨by omega, by omega⟩) (rfl) ?_
  refine v_ret (v := some (.int _)) d_X7_read_8 rfl ⟨rfl, _, rfl, rfl⟩ (by decide) (by decide) ?_
  exact hK

set_option maxRecDepth 100000 in
set_option maxHeartbeats 4000000 in
theorem t_X7_renew {K : x_K} {S : x_S} {P : x_P} {I : x_I} {J : x_J} {n : Nat} {x l m : Int32} (k : Nat) (hx : x = nI k) (hk : k < 4) (hS : x_hS S) (hP : x_hP P) (hK : K none S P (x_fi (x_u2 (x_u2 I 37 k l) 38 k m) (33 + k) 0 64 (nI 0)) J n) : x_Call f_X7_renew [.ref 31, .int x, .int l, .int m] K S P I J n := by
  subst hx
  refine x_intro (by decide) 0 (ls := [_, _, _, _]) rfl (Nat.le_of_ble_eq_true rfl) ?_
  refine v_aload_n d_X7_renew_0 rfl ?_
  refine v_gr d_X7_renew_1 lf_X7_16_7 rfl (hS _ _ rfl) (hP _ _ _ rfl) ?_
  refine v_iload_n d_X7_renew_4 rfl ?_
  refine v_iload_n d_X7_renew_5 rfl ?_
  refine v_iast _ d_X7_renew_6 (rfl) (hS _ _ rfl) (⟨by omega, by omega⟩) ?_
  refine v_aload_n d_X7_renew_7 rfl ?_
  refine v_gr d_X7_renew_8 lf_X7_20_7 rfl (hS _ _ rfl) (hP _ _ _ rfl) ?_
  refine v_iload_n d_X7_renew_11 rfl ?_
  refine v_iload_n d_X7_renew_12 rfl ?_
  refine v_iast _ d_X7_renew_13 (rfl) (hS _ _ rfl) (⟨by omega, by omega⟩) ?_
  refine v_aload_n d_X7_renew_14 rfl ?_
  refine v_gr d_X7_renew_15 lf_X7_11_7 rfl (hS _ _ rfl) (hP _ _ _ rfl) ?_
  refine v_iload_n d_X7_renew_18 rfl ?_
  refine v_aald _ d_X7_renew_19 (rfl) (hS _ _ rfl) (by decide) (⟨by omega, by omega⟩) (c_pr hP hk) ?_
  refine v_iconst (v := nI 0) d_X7_renew_20 x_ic_0 ?_
  refine v_cs (as := [_, _]) (rest := []) d_X7_renew_21 ls_X7_31 rfl ⟨by decide, by decide⟩ rfl (Nat.le_of_ble_eq_true rfl) (by decide) (by decide) ?_
  refine t_fill 64 (c_sr hS hk) (by decide) ?_
  refine v_ret (v := none) d_X7_renew_24 rfl ⟨rfl, rfl⟩ (by decide) (by decide) ?_
  exact hK

set_option maxRecDepth 100000 in
set_option maxHeartbeats 4000000 in
theorem t_X7_drop {K : x_K} {S : x_S} {P : x_P} {I : x_I} {J : x_J} {n : Nat} {x : Int32} (k : Nat) (hx : x = nI k) (hk : k < 4) (hS : x_hS S) (hP : x_hP P) (hK : K (some (.int (if (I 37 k).toInt = -1 then nI 0 else nI 1))) S P (x_u2 (x_u2 I 37 k (-1)) 38 k (nI 0)) J n) : x_Call f_X7_drop [.ref 31, .int x] K S P I J n := by
  subst hx
  refine x_intro (by decide) 1 (ls := [_, _, _]) rfl (Nat.le_of_ble_eq_true rfl) ?_
  refine v_aload_n d_X7_drop_0 rfl ?_
  refine v_gr d_X7_drop_1 lf_X7_16_7 rfl (hS _ _ rfl) (hP _ _ _ rfl) ?_
  refine v_iload_n d_X7_drop_4 rfl ?_
  refine v_iald _ d_X7_drop_5 (rfl) (hS _ _ rfl) (⟨by omega, by omega⟩) (rfl) ?_
  refine v_iconst (v := (-1)) d_X7_drop_6 x_ic_m1 ?_
  refine w_icmp_eq d_X7_drop_7 (fun a7 => ?_) (fun a7 => ?_)
  · try simp (disch := omega) only [x_ti, x_tm1] at a7
    refine v_iconst (v := nI 0) d_X7_drop_14 x_ic_0 ?_
    refine v_istore_n (ls' := [_, _, _]) d_X7_drop_15 (by decide) rfl ?_
    refine v_aload_n d_X7_drop_16 rfl ?_
    refine v_gr d_X7_drop_17 lf_X7_16_7 rfl (hS _ _ rfl) (hP _ _ _ rfl) ?_
    refine v_iload_n d_X7_drop_20 rfl ?_
    refine v_iconst (v := (-1)) d_X7_drop_21 x_ic_m1 ?_
    refine v_iast _ d_X7_drop_22 (rfl) (hS _ _ rfl) (⟨by omega, by omega⟩) ?_
    refine v_aload_n d_X7_drop_23 rfl ?_
    refine v_gr d_X7_drop_24 lf_X7_20_7 rfl (hS _ _ rfl) (hP _ _ _ rfl) ?_
    refine v_iload_n d_X7_drop_27 rfl ?_
    refine v_iconst (v := nI 0) d_X7_drop_28 x_ic_0 ?_
    refine v_iast _ d_X7_drop_29 (rfl) (hS _ _ rfl) (⟨by omega, by omega⟩) ?_
    refine v_iload_n d_X7_drop_30 rfl ?_
    refine v_ret (v := some (.int _)) d_X7_drop_31 rfl ⟨rfl, _, rfl, rfl⟩ (by decide) (by decide) ?_
    first | (rw [if_pos (by omega)] at hK; exact hK) | (rw [if_neg (by omega)] at hK; exact hK)
  · try simp (disch := omega) only [x_ti, x_tm1] at a7
    refine v_iconst (v := nI 1) d_X7_drop_10 x_ic_1 ?_
    refine v_goto d_X7_drop_11 ?_
    refine v_istore_n (ls' := [_, _, _]) d_X7_drop_15 (by decide) rfl ?_
    refine v_aload_n d_X7_drop_16 rfl ?_
    refine v_gr d_X7_drop_17 lf_X7_16_7 rfl (hS _ _ rfl) (hP _ _ _ rfl) ?_
    refine v_iload_n d_X7_drop_20 rfl ?_
    refine v_iconst (v := (-1)) d_X7_drop_21 x_ic_m1 ?_
    refine v_iast _ d_X7_drop_22 (rfl) (hS _ _ rfl) (⟨by omega, by omega⟩) ?_
    refine v_aload_n d_X7_drop_23 rfl ?_
    refine v_gr d_X7_drop_24 lf_X7_20_7 rfl (hS _ _ rfl) (hP _ _ _ rfl) ?_
    refine v_iload_n d_X7_drop_27 rfl ?_
    refine v_iconst (v := nI 0) d_X7_drop_28 x_ic_0 ?_
    refine v_iast _ d_X7_drop_29 (rfl) (hS _ _ rfl) (⟨by omega, by omega⟩) ?_
    refine v_iload_n d_X7_drop_30 rfl ?_
    refine v_ret (v := some (.int _)) d_X7_drop_31 rfl ⟨rfl, _, rfl, rfl⟩ (by decide) (by decide) ?_
    first | (rw [if_pos (by omega)] at hK; exact hK) | (rw [if_neg (by omega)] at hK; exact hK)

set_option maxRecDepth 100000 in
set_option maxHeartbeats 4000000 in
theorem t_X7_write {K : x_K} {S : x_S} {P : x_P} {I : x_I} {J : x_J} {n : Nat} {x y v : Int32} (k i : Nat) (hx : x = nI k) (hk : k < 4) (hy : y = nI i) (hi : i < 64) (hS : x_hS S) (hP : x_hP P) (hK : K none S P (x_u2 I (33 + k) i (q_cut (I 37 k) v)) J n) : x_Call f_X7_write [.ref 31, .int x, .int y, .int v] K S P I J n := by
  subst hx hy
  refine x_intro (by decide) 1 (ls := [_, _, _, _, _]) rfl (Nat.le_of_ble_eq_true rfl) ?_
  refine v_aload_n d_X7_write_0 rfl ?_
  refine v_gr d_X7_write_1 lf_X7_16_7 rfl (hS _ _ rfl) (hP _ _ _ rfl) ?_
  refine v_iload_n d_X7_write_4 rfl ?_
  refine v_iald _ d_X7_write_5 (rfl) (hS _ _ rfl) (⟨by omega, by omega⟩) (rfl) ?_
  refine v_istore (ls' := [_, _, _, _, _]) d_X7_write_6 (by decide) rfl ?_
  refine v_aload_n d_X7_write_8 rfl ?_
  refine v_gr d_X7_write_9 lf_X7_11_7 rfl (hS _ _ rfl) (hP _ _ _ rfl) ?_
  refine v_iload_n d_X7_write_12 rfl ?_
  refine v_aald _ d_X7_write_13 (rfl) (hS _ _ rfl) (by decide) (⟨by omega, by omega⟩) (c_pr hP hk) ?_
  refine v_iload_n d_X7_write_14 rfl ?_
  refine v_iload d_X7_write_15 rfl ?_
  refine w_if_ne d_X7_write_17 (fun a17 => ?_) (fun a17 => ?_)
  · try simp (disch := omega) only [x_ti, x_tm1] at a17
    refine v_iload d_X7_write_25 rfl ?_
    refine v_iconst (v := nI 1) d_X7_write_27 x_ic_1 ?_
    refine w_icmp_ne d_X7_write_28 (fun a28 => ?_) (fun a28 => ?_)
    · try simp (disch := omega) only [x_ti, x_tm1] at a28
      refine v_iload_n d_X7_write_36 rfl ?_
      refine v_iast _ d_X7_write_37 (rfl) (c_sr hS hk) (⟨by omega, by omega⟩) ?_
      refine v_ret (v := none) d_X7_write_38 rfl ⟨rfl, rfl⟩ (by decide) (by decide) ?_
      first
        | (rw [q_cut, x_if_t (by omega)] at hK; exact hK)
        | (rw [q_cut, x_if_f (by omega), x_if_t (by omega)] at hK; exact hK)
        | (rw [q_cut, x_if_f (by omega), x_if_f (by omega)] at hK; exact hK)
    · try simp (disch := omega) only [x_ti, x_tm1] at a28
      refine v_iload_n d_X7_write_31 rfl ?_
      refine v_i2s d_X7_write_32 ?_
      refine v_goto d_X7_write_33 ?_
      refine v_iast _ d_X7_write_37 (rfl) (c_sr hS hk) (⟨by omega, by omega⟩) ?_
      refine v_ret (v := none) d_X7_write_38 rfl ⟨rfl, rfl⟩ (by decide) (by decide) ?_
      first
        | (rw [q_cut, x_if_t (by omega)] at hK; exact hK)
        | (rw [q_cut, x_if_f (by omega), x_if_t (by omega)] at hK; exact hK)
        | (rw [q_cut, x_if_f (by omega), x_if_f (by omega)] at hK; exact hK)
  · try simp (disch := omega) only [x_ti, x_tm1] at a17
    refine v_iload_n d_X7_write_20 rfl ?_
    refine v_i2b d_X7_write_21 ?_
    refine v_goto d_X7_write_22 ?_
    refine v_iast _ d_X7_write_37 (rfl) (c_sr hS hk) (⟨by omega, by omega⟩) ?_
    refine v_ret (v := none) d_X7_write_38 rfl ⟨rfl, rfl⟩ (by decide) (by decide) ?_
    first
      | (rw [q_cut, x_if_t (by omega)] at hK; exact hK)
      | (rw [q_cut, x_if_f (by omega), x_if_t (by omega)] at hK; exact hK)
      | (rw [q_cut, x_if_f (by omega), x_if_f (by omega)] at hK; exact hK)

theorem c_pn1 {z : Int32} (h : z.toInt = -9 ∨ (0 ≤ z.toInt ∧ z.toInt ≤ 2)) : ((c_pn z).toInt = -1 ↔ z.toInt = -9) ∧ (¬ z.toInt = -9 → c_pn z = z) := by
  unfold c_pn
  by_cases e : z.toInt = -9
  · rw [if_pos e, x_tm1]; exact ⟨⟨fun _ => e, fun _ => rfl⟩, fun q => absurd e q⟩
  · rw [if_neg e]; exact ⟨⟨fun q => by omega, fun q => absurd q e⟩, fun _ => rfl⟩
def m_ag3 (la lo lane i m : Int) : Nat := if la = -9 then 1 else if la ≠ lane then 2 else if m < 0 then 4 else if i < 0 ∨ lo < i + m then 3 else 0
theorem m_ag3_1 (la lo lane i n e : Int) (he : e = 1 ∨ e = 2) : m_ag3 la lo lane i (n * e) = m_ag la lo lane i n e := by
  unfold m_ag3 m_ag
  rcases he with rfl | rfl
  · rw [Int.mul_one]; repeat' split
    all_goals omega
  · repeat' split
    all_goals omega

set_option maxRecDepth 100000 in
set_option maxHeartbeats 4000000 in
theorem t_X7_faultOfTaking {K : x_K} {S : x_S} {P : x_P} {I : x_I} {J : x_J} {n : Nat} {x lane i : Int32} {m : Int64} {Z : x_I} (k : Nat) (hx : x = nI k) (hk : k < 4) (hla : (Z 45 k).toInt = -9 ∨ (0 ≤ (Z 45 k).toInt ∧ (Z 45 k).toInt ≤ 2)) (hlo : 0 ≤ (Z 46 k).toInt ∧ (Z 46 k).toInt ≤ 64) (e1 : I 37 k = c_pn (Z 45 k)) (e2 : ¬ (Z 45 k).toInt = -9 → I 38 k = Z 46 k) (hm : -4294967296 ≤ m.toInt ∧ m.toInt ≤ 4294967296) (hS : x_hS S) (hP : x_hP P) (hK : K (some (.int (nI (m_ag3 (Z 45 k).toInt (Z 46 k).toInt lane.toInt i.toInt m.toInt)))) S P I J n) : x_Call f_X7_faultOfTaking [.ref 31, .int x, .int lane, .int i, .long m] K S P I J n := by
  subst hx
  obtain ⟨c1, c2⟩ := c_pn1 hla
  have hi := x_32 i
  have t0 : (0 : Int64).toInt = 0 := by decide
  refine x_intro (by decide) 0 (ls := [_, _, _, _, _, _]) rfl (Nat.le_of_ble_eq_true rfl) ?_
  refine v_aload_n d_X7_faultOfTaking_0 rfl ?_
  refine v_gr d_X7_faultOfTaking_1 lf_X7_16_7 rfl (hS _ _ rfl) (hP _ _ _ rfl) ?_
  refine v_iload_n d_X7_faultOfTaking_4 rfl ?_
  refine v_iald _ d_X7_faultOfTaking_5 (rfl) (hS _ _ rfl) (⟨by omega, by omega⟩) (e1) ?_
  refine v_iconst (v := (-1)) d_X7_faultOfTaking_6 x_ic_m1 ?_
  refine w_icmp_ne d_X7_faultOfTaking_7 (fun a7 => ?_) (fun a7 => ?_)
  · try simp (disch := omega) only [x_ti, x_tm1] at a7
    have hz : ¬ (Z 45 k).toInt = -9 := by omega
    rw [c2 hz] at e1
    have e3 := e2 hz
    refine v_aload_n d_X7_faultOfTaking_12 rfl ?_
    refine v_gr d_X7_faultOfTaking_13 lf_X7_16_7 rfl (hS _ _ rfl) (hP _ _ _ rfl) ?_
    refine v_iload_n d_X7_faultOfTaking_16 rfl ?_
    refine v_iald _ d_X7_faultOfTaking_17 (rfl) (hS _ _ rfl) (⟨by omega, by omega⟩) (e1) ?_
    refine v_iload_n d_X7_faultOfTaking_18 rfl ?_
    refine w_icmp_eq d_X7_faultOfTaking_19 (fun a19 => ?_) (fun a19 => ?_)
    · try simp (disch := omega) only [x_ti, x_tm1] at a19
      refine v_lload d_X7_faultOfTaking_24 rfl ?_
      refine v_lconst (v := 0) d_X7_faultOfTaking_26 rfl ?_
      refine w_lc_ge d_X7_faultOfTaking_27 d_X7_faultOfTaking_28 (fun a28 => ?_) (fun a28 => ?_)
      · try simp (disch := omega) only [x_ti, x_tm1] at a28
        refine v_iload_n d_X7_faultOfTaking_33 rfl ?_
        refine w_if_lt d_X7_faultOfTaking_34 (fun a34 => ?_) (fun a34 => ?_)
        · try simp (disch := omega) only [x_ti, x_tm1] at a34
          refine v_iconst (v := nI 3) d_X7_faultOfTaking_53 x_ic_3 ?_
          refine v_goto d_X7_faultOfTaking_54 ?_
          refine v_ret (v := some (.int _)) d_X7_faultOfTaking_58 rfl ⟨rfl, _, rfl, rfl⟩ (by decide) (by decide) ?_
          rw [m_ag3, if_neg (by omega), if_neg (by omega), if_neg (by omega), if_pos (by first | omega | (rw [x_addL (by rw [x_il]; omega) (by rw [x_il]; omega), x_il, x_il] at a50; omega))] at hK
          exact hK
        · try simp (disch := omega) only [x_ti, x_tm1] at a34
          refine v_iload_n d_X7_faultOfTaking_37 rfl ?_
          refine v_i2l d_X7_faultOfTaking_38 ?_
          refine v_lload d_X7_faultOfTaking_39 rfl ?_
          refine v_ladd d_X7_faultOfTaking_41 ?_
          refine v_aload_n d_X7_faultOfTaking_42 rfl ?_
          refine v_gr d_X7_faultOfTaking_43 lf_X7_20_7 rfl (hS _ _ rfl) (hP _ _ _ rfl) ?_
          refine v_iload_n d_X7_faultOfTaking_46 rfl ?_
          refine v_iald _ d_X7_faultOfTaking_47 (rfl) (hS _ _ rfl) (⟨by omega, by omega⟩) (e3) ?_
          refine v_i2l d_X7_faultOfTaking_48 ?_
          refine w_lc_le d_X7_faultOfTaking_49 d_X7_faultOfTaking_50 (fun a50 => ?_) (fun a50 => ?_)
          · try simp (disch := omega) only [x_ti, x_tm1] at a50
            refine v_iconst (v := nI 0) d_X7_faultOfTaking_57 x_ic_0 ?_
            refine v_ret (v := some (.int _)) d_X7_faultOfTaking_58 rfl ⟨rfl, _, rfl, rfl⟩ (by decide) (by decide) ?_
            rw [m_ag3, if_neg (by omega), if_neg (by omega), if_neg (by omega), if_neg (by rw [x_addL (by rw [x_il]; omega) (by rw [x_il]; omega), x_il, x_il] at a50; omega)] at hK
            exact hK
          · try simp (disch := omega) only [x_ti, x_tm1] at a50
            refine v_iconst (v := nI 3) d_X7_faultOfTaking_53 x_ic_3 ?_
            refine v_goto d_X7_faultOfTaking_54 ?_
            refine v_ret (v := some (.int _)) d_X7_faultOfTaking_58 rfl ⟨rfl, _, rfl, rfl⟩ (by decide) (by decide) ?_
            rw [m_ag3, if_neg (by omega), if_neg (by omega), if_neg (by omega), if_pos (by first | omega | (rw [x_addL (by rw [x_il]; omega) (by rw [x_il]; omega), x_il, x_il] at a50; omega))] at hK
            exact hK
      · try simp (disch := omega) only [x_ti, x_tm1] at a28
        refine v_iconst (v := nI 4) d_X7_faultOfTaking_31 x_ic_4 ?_
        refine v_ret (v := some (.int _)) d_X7_faultOfTaking_32 rfl ⟨rfl, _, rfl, rfl⟩ (by decide) (by decide) ?_
        rw [m_ag3, if_neg (by omega), if_neg (by omega), if_pos (by omega)] at hK
        exact hK
    · try simp (disch := omega) only [x_ti, x_tm1] at a19
      refine v_iconst (v := nI 2) d_X7_faultOfTaking_22 x_ic_2 ?_
      refine v_ret (v := some (.int _)) d_X7_faultOfTaking_23 rfl ⟨rfl, _, rfl, rfl⟩ (by decide) (by decide) ?_
      rw [m_ag3, if_neg (by omega), if_pos (by omega)] at hK
      exact hK
  · try simp (disch := omega) only [x_ti, x_tm1] at a7
    refine v_iconst (v := nI 1) d_X7_faultOfTaking_10 x_ic_1 ?_
    refine v_ret (v := some (.int _)) d_X7_faultOfTaking_11 rfl ⟨rfl, _, rfl, rfl⟩ (by decide) (by decide) ?_
    rw [m_ag3, if_pos (by omega)] at hK
    exact hK

set_option maxRecDepth 100000 in
set_option maxHeartbeats 4000000 in
theorem t_X4_hasHour {K : x_K} {S : x_S} {P : x_P} {I : x_I} {J : x_J} {n : Nat} {t : Int32} {fa : Nat → Nat} {bd : Nat} {Z : x_I} (hR : c_R fa bd Z S P I J n) (mi : m_I Z) (ht : g_hr Z t → K (some (.int (nI 1))) S P I J n) (hf : ¬ (g_hr Z t) → K (some (.int (nI 0))) S P I J n) : x_Call f_X4_hasHour [.ref 20, .int t] K S P I J n := by
  have hS := hR.hS
  have hP := hR.hP
  have hn := mi.hn
  have hfo := mi.fo
  have h9 : m_ns Z = (Z 39 2).toInt.toNat := rfl
  refine x_intro (by decide) 0 (ls := [_, _]) rfl (Nat.le_of_ble_eq_true rfl) ?_
  refine v_iload_n d_X4_hasHour_0 rfl ?_
  refine w_if_lt d_X4_hasHour_1 (fun h1 => ?_) (fun h1 => ?_)
  · try simp (disch := omega) only [x_ti, x_tm1] at h1
    refine v_iconst (v := nI 0) d_X4_hasHour_16 x_ic_0 ?_
    refine v_ret (v := some (.int _)) d_X4_hasHour_17 rfl ⟨rfl, _, rfl, rfl⟩ (by decide) (by decide) ?_
    exact hf (by unfold g_hr; omega)
  · try simp (disch := omega) only [x_ti, x_tm1] at h1
    refine v_iload_n d_X4_hasHour_4 rfl ?_
    refine v_aload_n d_X4_hasHour_5 rfl ?_
    refine v_gie d_X4_hasHour_6 lf_X4_41_4 rfl (hS _ _ rfl) (hR.Li.1) ?_
    refine w_icmp_ge d_X4_hasHour_9 (fun h9 => ?_) (fun h9 => ?_)
    · try simp (disch := omega) only [x_ti, x_tm1] at h9
      refine v_iconst (v := nI 0) d_X4_hasHour_16 x_ic_0 ?_
      refine v_ret (v := some (.int _)) d_X4_hasHour_17 rfl ⟨rfl, _, rfl, rfl⟩ (by decide) (by decide) ?_
      exact hf (by unfold g_hr; omega)
    · try simp (disch := omega) only [x_ti, x_tm1] at h9
      refine v_iconst (v := nI 1) d_X4_hasHour_12 x_ic_1 ?_
      refine v_goto d_X4_hasHour_13 ?_
      refine v_ret (v := some (.int _)) d_X4_hasHour_17 rfl ⟨rfl, _, rfl, rfl⟩ (by decide) (by decide) ?_
      exact ht (by unfold g_hr; omega)

theorem c_pl {Z : x_I} (mi : m_I Z) : (g_sf Z (c_pn (Z 39 26)) ↔ ¬ (Z 39 26).toInt = -9) ∧ (¬ (Z 39 26).toInt = -9 → c_pn (Z 39 26) = Z 39 26) := by
  have hp := mi.pt
  unfold c_pn
  by_cases e : (Z 39 26).toInt = -9
  · rw [if_pos e]
    refine ⟨⟨fun q => ?_, fun q => absurd e q⟩, fun q => absurd e q⟩
    have := q.1
    rw [x_tm1] at this; omega
  · rw [if_neg e]
    exact ⟨⟨fun _ => e, fun _ => hp.resolve_left e⟩, fun _ => rfl⟩

set_option maxRecDepth 100000 in
set_option maxHeartbeats 4000000 in
theorem t_X4_hasPlate {K : x_K} {S : x_S} {P : x_P} {I : x_I} {J : x_J} {n : Nat} {fa : Nat → Nat} {bd : Nat} {Z : x_I} (hR : c_R fa bd Z S P I J n) (mi : m_I Z) (ht : ¬ (Z 39 26).toInt = -9 → K (some (.int (nI 1))) S P I J n) (hf : ¬ (¬ (Z 39 26).toInt = -9) → K (some (.int (nI 0))) S P I J n) : x_Call f_X4_hasPlate [.ref 20] K S P I J n := by
  have hS := hR.hS
  have hP := hR.hP
  have hn := mi.hn
  have hfo := mi.fo
  have h9 : m_ns Z = (Z 39 2).toInt.toNat := rfl
  have cp := c_pl mi
  refine x_intro (by decide) 0 (ls := [_]) rfl (Nat.le_of_ble_eq_true rfl) ?_
  refine v_aload_n d_X4_hasPlate_0 rfl ?_
  refine v_gr d_X4_hasPlate_1 lf_X4_33_4 rfl (hS _ _ rfl) (hP _ _ _ rfl) ?_
  refine v_aload_n d_X4_hasPlate_4 rfl ?_
  refine v_gie d_X4_hasPlate_5 lf_X4_29_4 rfl (hS _ _ rfl) (hR.Li.2.1) ?_
  refine v_cv (as := [_]) (rest := []) d_X4_hasPlate_8 lv_X4_44_8 (hS _ _ rfl) rfl ⟨by decide, by decide⟩ rfl (Nat.le_of_ble_eq_true rfl) (by decide) (by decide) ?_
  refine t_X8_wall hR mi (fun q => ?_) (fun k e hk hk10 => ?_)
  · refine v_ifnullN d_X4_hasPlate_11 ?_
    refine v_iconst (v := nI 0) d_X4_hasPlate_18 x_ic_0 ?_
    refine v_ret (v := some (.int _)) d_X4_hasPlate_19 rfl ⟨rfl, _, rfl, rfl⟩ (by decide) (by decide) ?_
    exact hf (fun z => q (cp.1.mpr z))
  · refine v_ifnull d_X4_hasPlate_11 ?_
    refine v_iconst (v := nI 1) d_X4_hasPlate_14 x_ic_1 ?_
    refine v_goto d_X4_hasPlate_15 ?_
    refine v_ret (v := some (.int _)) d_X4_hasPlate_19 rfl ⟨rfl, _, rfl, rfl⟩ (by decide) (by decide) ?_
    exact ht (cp.1.mp (by unfold g_sf; rw [e, x_ti (by omega)]; omega))

set_option maxRecDepth 100000 in
set_option maxHeartbeats 4000000 in
theorem t_X4_addHour {K : x_K} {S : x_S} {P : x_P} {I : x_I} {J : x_J} {n : Nat} {a b c : Int32} {fa : Nat → Nat} {bd : Nat} {Z : x_I} (hR : c_R fa bd Z S P I J n) (mi : m_I Z) (h6 : ¬ (Z 39 24).toInt = 6) (hK : K (some (.int (nI (m_nh Z)))) S P (x_u2 (x_u2 (x_u2 (x_u2 I 21 (3 * m_nh Z) a) 21 (3 * m_nh Z + 1) b) 21 (3 * m_nh Z + 2) c) 20 6 (nI (m_nh Z + 1))) J n) : x_Call f_X4_addHour [.ref 20, .int a, .int b, .int c] K S P I J n := by
  have hS := hR.hS
  have hP := hR.hP
  have hn := mi.hn
  have hfo := mi.fo
  have h9 : m_ns Z = (Z 39 2).toInt.toNat := rfl
  have hh := mi.hh
  have e0 : I 20 6 = nI (m_nh Z) := hR.Li.1.trans (x_of hh.1)
  have e7 : m_nh Z = (Z 39 24).toInt.toNat := rfl
  refine x_intro (by decide) 1 (ls := [_, _, _, _, _]) rfl (Nat.le_of_ble_eq_true rfl) ?_
  refine v_aload_n d_X4_addHour_0 rfl ?_
  refine v_gie d_X4_addHour_1 lf_X4_41_4 rfl (hS _ _ rfl) (e0) ?_
  refine v_istore (ls' := [_, _, _, _, _]) d_X4_addHour_4 (by decide) rfl ?_
  refine v_aload_n d_X4_addHour_6 rfl ?_
  refine v_gr d_X4_addHour_7 lf_X4_9_4 rfl (hS _ _ rfl) (hP _ _ _ rfl) ?_
  refine v_iconst (v := nI 3) d_X4_addHour_10 x_ic_3 ?_
  refine v_iload d_X4_addHour_11 rfl ?_
  first | refine v_imulN d_X4_addHour_13 ?_ | refine v_imul d_X4_addHour_13 ?_
  refine v_iload_n d_X4_addHour_14 rfl ?_
  refine v_iast _ d_X4_addHour_15 (rfl) (hS _ _ rfl) (⟨by omega, by omega⟩) ?_
  refine v_aload_n d_X4_addHour_16 rfl ?_
  refine v_gr d_X4_addHour_17 lf_X4_9_4 rfl (hS _ _ rfl) (hP _ _ _ rfl) ?_
  refine v_iconst (v := nI 3) d_X4_addHour_20 x_ic_3 ?_
  refine v_iload d_X4_addHour_21 rfl ?_
  first | refine v_imulN d_X4_addHour_23 ?_ | refine v_imul d_X4_addHour_23 ?_
  refine v_iconst (v := nI 1) d_X4_addHour_24 x_ic_1 ?_
  first | refine v_iaddN d_X4_addHour_25 ?_ | refine v_iadd d_X4_addHour_25 ?_
  refine v_iload_n d_X4_addHour_26 rfl ?_
  refine v_iast _ d_X4_addHour_27 (rfl) (hS _ _ rfl) (⟨by omega, by omega⟩) ?_
  refine v_aload_n d_X4_addHour_28 rfl ?_
  refine v_gr d_X4_addHour_29 lf_X4_9_4 rfl (hS _ _ rfl) (hP _ _ _ rfl) ?_
  refine v_iconst (v := nI 3) d_X4_addHour_32 x_ic_3 ?_
  refine v_iload d_X4_addHour_33 rfl ?_
  first | refine v_imulN d_X4_addHour_35 ?_ | refine v_imul d_X4_addHour_35 ?_
  refine v_iconst (v := nI 2) d_X4_addHour_36 x_ic_2 ?_
  first | refine v_iaddN d_X4_addHour_37 ?_ | refine v_iadd d_X4_addHour_37 ?_
  refine v_iload_n d_X4_addHour_38 rfl ?_
  refine v_iast _ d_X4_addHour_39 (rfl) (hS _ _ rfl) (⟨by omega, by omega⟩) ?_
  refine v_aload_n d_X4_addHour_40 rfl ?_
  refine v_dup d_X4_addHour_41 rfl ?_
  refine v_gie d_X4_addHour_42 lf_X4_41_4 rfl (hS _ _ rfl) (e0) ?_
  refine v_iconst (v := nI 1) d_X4_addHour_45 x_ic_1 ?_
  refine v_iaddN d_X4_addHour_46 ?_
  refine v_pi d_X4_addHour_47 (lp_X4_41_4 _) rfl (hS _ _ rfl) (rfl) rfl ?_
  refine v_iload d_X4_addHour_50 rfl ?_
  refine v_ret (v := some (.int _)) d_X4_addHour_52 rfl ⟨rfl, _, rfl, rfl⟩ (by decide) (by decide) ?_
  exact hK

set_option maxRecDepth 100000 in
set_option maxHeartbeats 4000000 in
theorem t_X4_isWanted {K : x_K} {S : x_S} {P : x_P} {I : x_I} {J : x_J} {n : Nat} {x y z : Int32} {fa : Nat → Nat} {bd : Nat} {Z : x_I} (hR : c_R fa bd Z S P I J n) (mi : m_I Z) (t s c : Nat) (hx : x = nI t) (ht6 : t < 6) (hy : y = nI s) (hs : s < 10) (hz : z = nI c) (hc : c < 64) (ht : ¬ (Z 54 (640 * t + 64 * s + c)).toInt = 0 → K (some (.int (nI 1))) S P I J n) (hf : ¬ (¬ (Z 54 (640 * t + 64 * s + c)).toInt = 0) → K (some (.int (nI 0))) S P I J n) : x_Call f_X4_isWanted [.ref 20, .int x, .int y, .int z] K S P I J n := by
  have hS := hR.hS
  have hP := hR.hP
  have hn := mi.hn
  have hfo := mi.fo
  have h9 : m_ns Z = (Z 39 2).toInt.toNat := rfl
  subst hx hy hz
  have hw := hR.Wa t s c ht6 hs hc
  refine x_intro (by decide) 0 (ls := [_, _, _, _]) rfl (Nat.le_of_ble_eq_true rfl) ?_
  refine v_aload_n d_X4_isWanted_0 rfl ?_
  refine v_gr d_X4_isWanted_1 lf_X4_15_4 rfl (hS _ _ rfl) (hP _ _ _ rfl) ?_
  refine v_iload_n d_X4_isWanted_4 rfl ?_
  refine v_bipush (v := nI 10) d_X4_isWanted_5 x_bp_10 ?_
  first | refine v_imulN d_X4_isWanted_7 ?_ | refine v_imul d_X4_isWanted_7 ?_
  refine v_iload_n d_X4_isWanted_8 rfl ?_
  first | refine v_iaddN d_X4_isWanted_9 ?_ | refine v_iadd d_X4_isWanted_9 ?_
  refine v_lald (10 * t + s) d_X4_isWanted_10 (by rw [Nat.mul_comm]) (hS _ _ rfl) (⟨by omega, by omega⟩) (rfl) ?_
  refine v_iload_n d_X4_isWanted_11 rfl ?_
  refine v_lshr d_X4_isWanted_12 ?_
  refine v_lconst (v := 1) d_X4_isWanted_13 rfl ?_
  refine v_land d_X4_isWanted_14 ?_
  refine v_lconst (v := 1) d_X4_isWanted_15 rfl ?_
  refine w_lc_ne d_X4_isWanted_16 d_X4_isWanted_17 (fun a16 => ?_) (fun a16 => ?_)
  · refine v_iconst (v := nI 0) d_X4_isWanted_24 x_ic_0 ?_
    refine v_ret (v := some (.int _)) d_X4_isWanted_25 rfl ⟨rfl, _, rfl, rfl⟩ (by decide) (by decide) ?_
    exact hf (fun z => a16 (congrArg Int64.toInt ((x_lb_on hc).mpr (hw.trans (decide_eq_true z)))))
  · refine v_iconst (v := nI 1) d_X4_isWanted_20 x_ic_1 ?_
    refine v_goto d_X4_isWanted_21 ?_
    refine v_ret (v := some (.int _)) d_X4_isWanted_25 rfl ⟨rfl, _, rfl, rfl⟩ (by decide) (by decide) ?_
    exact ht (of_decide_eq_true (hw.symm.trans ((x_lb_on hc).mp (Int64.toInt_inj.mp a16))))

set_option maxRecDepth 100000 in
set_option maxHeartbeats 4000000 in
theorem t_X4_turnWanted {K : x_K} {S : x_S} {P : x_P} {I : x_I} {J : x_J} {n : Nat} {x y z : Int32} (t s c : Nat) (hx : x = nI t) (ht6 : t < 6) (hy : y = nI s) (hs : s < 10) (hz : z = nI c) (hc : c < 64) (hS : x_hS S) (hP : x_hP P) (hK : K none S P I (x_u2 J 22 (10 * t + s) (J 22 (10 * t + s) ^^^ 1 <<< ((nI c).toInt64 &&& 63))) n) : x_Call f_X4_turnWanted [.ref 20, .int x, .int y, .int z] K S P I J n := by
  subst hx hy hz
  refine x_intro (by decide) 0 (ls := [_, _, _, _]) rfl (Nat.le_of_ble_eq_true rfl) ?_
  refine v_aload_n d_X4_turnWanted_0 rfl ?_
  refine v_gr d_X4_turnWanted_1 lf_X4_15_4 rfl (hS _ _ rfl) (hP _ _ _ rfl) ?_
  refine v_iload_n d_X4_turnWanted_4 rfl ?_
  refine v_bipush (v := nI 10) d_X4_turnWanted_5 x_bp_10 ?_
  first | refine v_imulN d_X4_turnWanted_7 ?_ | refine v_imul d_X4_turnWanted_7 ?_
  refine v_iload_n d_X4_turnWanted_8 rfl ?_
  first | refine v_iaddN d_X4_turnWanted_9 ?_ | refine v_iadd d_X4_turnWanted_9 ?_
  refine v_dup2 d_X4_turnWanted_10 rfl rfl ?_
  refine v_lald (10 * t + s) d_X4_turnWanted_11 (by rw [Nat.mul_comm]) (hS _ _ rfl) (⟨by omega, by omega⟩) (rfl) ?_
  refine v_lconst (v := 1) d_X4_turnWanted_12 rfl ?_
  refine v_iload_n d_X4_turnWanted_13 rfl ?_
  refine v_lshl d_X4_turnWanted_14 ?_
  refine v_lxor d_X4_turnWanted_15 ?_
  refine v_last (10 * t + s) d_X4_turnWanted_16 (by rw [Nat.mul_comm]) (hS _ _ rfl) (⟨by omega, by omega⟩) ?_
  refine v_ret (v := none) d_X4_turnWanted_17 rfl ⟨rfl, rfl⟩ (by decide) (by decide) ?_
  exact hK

set_option maxRecDepth 100000 in
set_option maxHeartbeats 4000000 in
theorem t_X11_isDirection {K : x_K} {S : x_S} {P : x_P} {I : x_I} {J : x_J} {n : Nat} {a b c x : Int32} (m : Nat) (hx : x = nI m) (hm : m ≤ 99) (ht : g_dr a b c (m : Int) → K (some (.int (nI 1))) S P I J n) (hf : ¬ (g_dr a b c (m : Int)) → K (some (.int (nI 0))) S P I J n) : x_Call f_X11_isDirection [.int a, .int b, .int c, .int x] K S P I J n := by
  subst hx
  have e1 : (-(nI m)).toInt = -(m : Int) := by rw [x_neg (by rw [x_ti (by omega)]; omega), x_ti (by omega)]
  have e2 : (nI m).toInt = (m : Int) := x_ti (by omega)
  refine x_intro (by decide) 1 (ls := [_, _, _, _, _]) rfl (Nat.le_of_ble_eq_true rfl) ?_
  refine v_iload_n d_X11_isDirection_0 rfl ?_
  refine v_iload_n d_X11_isDirection_1 rfl ?_
  refine v_ineg d_X11_isDirection_2 ?_
  refine v_iload_n d_X11_isDirection_3 rfl ?_
  refine v_cs (as := [_, _, _]) (rest := []) d_X11_isDirection_4 ls_X11_57 rfl ⟨by decide, by decide⟩ rfl (Nat.le_of_ble_eq_true rfl) (by decide) (by decide) ?_
  refine t_X11_within e1 e2 (fun q1 => ?_) (fun q1 => ?_)
  · refine w_if_eq d_X11_isDirection_7 (fun h7 => absurd h7 (by decide)) (fun _ => ?_)
    refine v_iload_n d_X11_isDirection_10 rfl ?_
    refine v_iload_n d_X11_isDirection_11 rfl ?_
    refine v_ineg d_X11_isDirection_12 ?_
    refine v_iload_n d_X11_isDirection_13 rfl ?_
    refine v_cs (as := [_, _, _]) (rest := []) d_X11_isDirection_14 ls_X11_57 rfl ⟨by decide, by decide⟩ rfl (Nat.le_of_ble_eq_true rfl) (by decide) (by decide) ?_
    refine t_X11_within e1 e2 (fun q2 => ?_) (fun q2 => ?_)
    · refine w_if_eq d_X11_isDirection_17 (fun h17 => absurd h17 (by decide)) (fun _ => ?_)
      refine v_iload_n d_X11_isDirection_20 rfl ?_
      refine v_iload_n d_X11_isDirection_21 rfl ?_
      refine v_ineg d_X11_isDirection_22 ?_
      refine v_iload_n d_X11_isDirection_23 rfl ?_
      refine v_cs (as := [_, _, _]) (rest := []) d_X11_isDirection_24 ls_X11_57 rfl ⟨by decide, by decide⟩ rfl (Nat.le_of_ble_eq_true rfl) (by decide) (by decide) ?_
      refine t_X11_within e1 e2 (fun q3 => ?_) (fun q3 => ?_)
      · refine w_if_eq d_X11_isDirection_27 (fun h27 => absurd h27 (by decide)) (fun _ => ?_)
        refine v_iconst (v := nI 1) d_X11_isDirection_30 x_ic_1 ?_
        refine v_goto d_X11_isDirection_31 ?_
        refine v_istore (ls' := [_, _, _, _, _]) d_X11_isDirection_35 (by decide) rfl ?_
        refine v_iload d_X11_isDirection_37 rfl ?_
        refine w_if_eq d_X11_isDirection_39 (fun h39 => absurd h39 (by decide)) (fun _ => ?_)
        refine v_iload_n d_X11_isDirection_42 rfl ?_
        refine w_if_ne d_X11_isDirection_43 (fun a43 => ?_) (fun a43 => ?_)
        · try simp (disch := omega) only [x_ti, x_tm1] at a43
          refine v_iconst (v := nI 1) d_X11_isDirection_54 x_ic_1 ?_
          refine v_goto d_X11_isDirection_55 ?_
          refine v_ret (v := some (.int _)) d_X11_isDirection_59 rfl ⟨rfl, _, rfl, rfl⟩ (by decide) (by decide) ?_
          exact ht (by unfold g_dr; omega)
        · try simp (disch := omega) only [x_ti, x_tm1] at a43
          refine v_iload_n d_X11_isDirection_46 rfl ?_
          refine w_if_ne d_X11_isDirection_47 (fun a47 => ?_) (fun a47 => ?_)
          · try simp (disch := omega) only [x_ti, x_tm1] at a47
            refine v_iconst (v := nI 1) d_X11_isDirection_54 x_ic_1 ?_
            refine v_goto d_X11_isDirection_55 ?_
            refine v_ret (v := some (.int _)) d_X11_isDirection_59 rfl ⟨rfl, _, rfl, rfl⟩ (by decide) (by decide) ?_
            exact ht (by unfold g_dr; omega)
          · try simp (disch := omega) only [x_ti, x_tm1] at a47
            refine v_iload_n d_X11_isDirection_50 rfl ?_
            refine w_if_eq d_X11_isDirection_51 (fun a51 => ?_) (fun a51 => ?_)
            · try simp (disch := omega) only [x_ti, x_tm1] at a51
              refine v_iconst (v := nI 0) d_X11_isDirection_58 x_ic_0 ?_
              refine v_ret (v := some (.int _)) d_X11_isDirection_59 rfl ⟨rfl, _, rfl, rfl⟩ (by decide) (by decide) ?_
              exact hf (by unfold g_dr; omega)
            · try simp (disch := omega) only [x_ti, x_tm1] at a51
              refine v_iconst (v := nI 1) d_X11_isDirection_54 x_ic_1 ?_
              refine v_goto d_X11_isDirection_55 ?_
              refine v_ret (v := some (.int _)) d_X11_isDirection_59 rfl ⟨rfl, _, rfl, rfl⟩ (by decide) (by decide) ?_
              exact ht (by unfold g_dr; omega)
      · refine w_if_eq d_X11_isDirection_27 (fun _ => ?_) (fun h27 => absurd h27 (by decide))
        refine v_iconst (v := nI 0) d_X11_isDirection_34 x_ic_0 ?_
        refine v_istore (ls' := [_, _, _, _, _]) d_X11_isDirection_35 (by decide) rfl ?_
        refine v_iload d_X11_isDirection_37 rfl ?_
        refine w_if_eq d_X11_isDirection_39 (fun _ => ?_) (fun h39 => absurd h39 (by decide))
        refine v_iconst (v := nI 0) d_X11_isDirection_58 x_ic_0 ?_
        refine v_ret (v := some (.int _)) d_X11_isDirection_59 rfl ⟨rfl, _, rfl, rfl⟩ (by decide) (by decide) ?_
        exact hf (by unfold g_dr; omega)
    · refine w_if_eq d_X11_isDirection_17 (fun _ => ?_) (fun h17 => absurd h17 (by decide))
      refine v_iconst (v := nI 0) d_X11_isDirection_34 x_ic_0 ?_
      refine v_istore (ls' := [_, _, _, _, _]) d_X11_isDirection_35 (by decide) rfl ?_
      refine v_iload d_X11_isDirection_37 rfl ?_
      refine w_if_eq d_X11_isDirection_39 (fun _ => ?_) (fun h39 => absurd h39 (by decide))
      refine v_iconst (v := nI 0) d_X11_isDirection_58 x_ic_0 ?_
      refine v_ret (v := some (.int _)) d_X11_isDirection_59 rfl ⟨rfl, _, rfl, rfl⟩ (by decide) (by decide) ?_
      exact hf (by unfold g_dr; omega)
  · refine w_if_eq d_X11_isDirection_7 (fun _ => ?_) (fun h7 => absurd h7 (by decide))
    refine v_iconst (v := nI 0) d_X11_isDirection_34 x_ic_0 ?_
    refine v_istore (ls' := [_, _, _, _, _]) d_X11_isDirection_35 (by decide) rfl ?_
    refine v_iload d_X11_isDirection_37 rfl ?_
    refine w_if_eq d_X11_isDirection_39 (fun _ => ?_) (fun h39 => absurd h39 (by decide))
    refine v_iconst (v := nI 0) d_X11_isDirection_58 x_ic_0 ?_
    refine v_ret (v := some (.int _)) d_X11_isDirection_59 rfl ⟨rfl, _, rfl, rfl⟩ (by decide) (by decide) ?_
    exact hf (by unfold g_dr; omega)

set_option maxRecDepth 100000 in
set_option maxHeartbeats 4000000 in
theorem t_X2_moveEye {K : x_K} {S : x_S} {P : x_P} {I : x_I} {J : x_J} {n : Nat} {w x y z : Int32} (e : Nat) (hw : w = nI e) (he : e < 4) (hS : x_hS S) (hP : x_hP P) (hK : K none S P (x_u2 (x_u2 (x_u2 I 9 (3 * e) x) 9 (3 * e + 1) y) 9 (3 * e + 2) z) J n) : x_Call f_X2_moveEye [.ref 8, .int w, .int x, .int y, .int z] K S P I J n := by
  subst hw
  refine x_intro (by decide) 0 (ls := [_, _, _, _, _]) rfl (Nat.le_of_ble_eq_true rfl) ?_
  refine v_aload_n d_X2_moveEye_0 rfl ?_
  refine v_gr d_X2_moveEye_1 lf_X2_9_2 rfl (hS _ _ rfl) (hP _ _ _ rfl) ?_
  refine v_iconst (v := nI 3) d_X2_moveEye_4 x_ic_3 ?_
  refine v_iload_n d_X2_moveEye_5 rfl ?_
  first | refine v_imulN d_X2_moveEye_6 ?_ | refine v_imul d_X2_moveEye_6 ?_
  refine v_iload_n d_X2_moveEye_7 rfl ?_
  refine v_iast _ d_X2_moveEye_8 (rfl) (hS _ _ rfl) (⟨by omega, by omega⟩) ?_
  refine v_aload_n d_X2_moveEye_9 rfl ?_
  refine v_gr d_X2_moveEye_10 lf_X2_9_2 rfl (hS _ _ rfl) (hP _ _ _ rfl) ?_
  refine v_iconst (v := nI 3) d_X2_moveEye_13 x_ic_3 ?_
  refine v_iload_n d_X2_moveEye_14 rfl ?_
  first | refine v_imulN d_X2_moveEye_15 ?_ | refine v_imul d_X2_moveEye_15 ?_
  refine v_iconst (v := nI 1) d_X2_moveEye_16 x_ic_1 ?_
  first | refine v_iaddN d_X2_moveEye_17 ?_ | refine v_iadd d_X2_moveEye_17 ?_
  refine v_iload_n d_X2_moveEye_18 rfl ?_
  refine v_iast _ d_X2_moveEye_19 (rfl) (hS _ _ rfl) (⟨by omega, by omega⟩) ?_
  refine v_aload_n d_X2_moveEye_20 rfl ?_
  refine v_gr d_X2_moveEye_21 lf_X2_9_2 rfl (hS _ _ rfl) (hP _ _ _ rfl) ?_
  refine v_iconst (v := nI 3) d_X2_moveEye_24 x_ic_3 ?_
  refine v_iload_n d_X2_moveEye_25 rfl ?_
  first | refine v_imulN d_X2_moveEye_26 ?_ | refine v_imul d_X2_moveEye_26 ?_
  refine v_iconst (v := nI 2) d_X2_moveEye_27 x_ic_2 ?_
  first | refine v_iaddN d_X2_moveEye_28 ?_ | refine v_iadd d_X2_moveEye_28 ?_
  refine v_iload d_X2_moveEye_29 rfl ?_
  refine v_iast _ d_X2_moveEye_31 (rfl) (hS _ _ rfl) (⟨by omega, by omega⟩) ?_
  refine v_ret (v := none) d_X2_moveEye_32 rfl ⟨rfl, rfl⟩ (by decide) (by decide) ?_
  exact hK

