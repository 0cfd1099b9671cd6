def c_f6 (I : x_I) (a : Nat) (x c u v w h : Int32) : Prop := I a 0 = x ∧ I a 1 = c ∧ I a 2 = u ∧ I a 3 = v ∧ I a 4 = w ∧ I a 5 = h ∧ I a 6 = nI (r_o1 (x_k x)) ∧ I a 7 = nI (r_o2 (x_k x)) ∧ I a 8 = w * h
theorem x_mx {N : Nat} (h : N < 2147483648) : (if (nI 0) < (nI N) then nI N else nI 0) = nI N := by
  by_cases e : N = 0
  · subst e; rfl
  · rw [if_pos]
    rw [Int32.lt_iff_toInt_lt, x_ti (by decide), x_ti h]
    omega

set_option maxRecDepth 100000 in
set_option maxHeartbeats 4000000 in
theorem t_X1_init {K : x_K} {S : x_S} {P : x_P} {I : x_I} {J : x_J} {n : Nat} {x c u v w h : Int32} {a : Nat} (hs : S a = .inl 1) (hx : 0 ≤ x.toInt ∧ x.toInt ≤ 2) (hK : ∀ I' : x_I, (∀ b k, b ≠ a → I' b k = I b k) → c_f6 I' a x c u v w h → K none S P I' J n) : x_Call f_X1_init [.ref a, .int x, .int c, .int u, .int v, .int w, .int h] K S P I J n := by
  refine x_intro (by decide) 0 (ls := [_, _, _, _, _, _, _]) rfl (Nat.le_of_ble_eq_true rfl) ?_
  refine v_aload_n d_X1_init_0 rfl ?_
  refine v_obj d_X1_init_1 lo_X1_3 lo_in lo_cd (by decide) (Nat.le_of_ble_eq_true rfl) ?_
  refine v_aload_n d_X1_init_4 rfl ?_
  refine v_iload_n d_X1_init_5 rfl ?_
  refine v_pi d_X1_init_6 (lp_X1_9_1) rfl (hs) (rfl) rfl ?_
  refine v_aload_n d_X1_init_9 rfl ?_
  refine v_iload_n d_X1_init_10 rfl ?_
  refine v_pi d_X1_init_11 (lp_X1_15_1) rfl (hs) (rfl) rfl ?_
  refine v_aload_n d_X1_init_14 rfl ?_
  refine v_iload_n d_X1_init_15 rfl ?_
  refine v_pi d_X1_init_16 (lp_X1_18_1) rfl (hs) (rfl) rfl ?_
  refine v_aload_n d_X1_init_19 rfl ?_
  refine v_iload d_X1_init_20 rfl ?_
  refine v_pi d_X1_init_22 (lp_X1_21_1) rfl (hs) (rfl) rfl ?_
  refine v_aload_n d_X1_init_25 rfl ?_
  refine v_iload d_X1_init_26 rfl ?_
  refine v_pi d_X1_init_28 (lp_X1_24_1) rfl (hs) (rfl) rfl ?_
  refine v_aload_n d_X1_init_31 rfl ?_
  refine v_iload d_X1_init_32 rfl ?_
  refine v_pi d_X1_init_34 (lp_X1_27_1) rfl (hs) (rfl) rfl ?_
  refine v_aload_n d_X1_init_37 rfl ?_
  refine v_iload_n d_X1_init_38 rfl ?_
  refine w_if_ne d_X1_init_39 (fun a39 => ?_) (fun a39 => ?_)
  · try simp (disch := omega) only [x_ti, x_tm1] at a39
    refine v_iconst (v := nI 0) d_X1_init_46 x_ic_0 ?_
    refine v_pi d_X1_init_47 (lp_X1_30_1) rfl (hs) (rfl) rfl ?_
    refine v_aload_n d_X1_init_50 rfl ?_
    refine v_iload_n d_X1_init_51 rfl ?_
    refine v_iconst (v := nI 2) d_X1_init_52 x_ic_2 ?_
    refine w_icmp_ne d_X1_init_53 (fun a53 => ?_) (fun a53 => ?_)
    · try simp (disch := omega) only [x_ti, x_tm1] at a53
      refine v_iconst (v := nI 2) d_X1_init_60 x_ic_2 ?_
      refine v_pi d_X1_init_61 (lp_X1_33_1) rfl (hs) (rfl) rfl ?_
      refine v_aload_n d_X1_init_64 rfl ?_
      refine v_iload d_X1_init_65 rfl ?_
      refine v_iload d_X1_init_67 rfl ?_
      refine v_imul d_X1_init_69 ?_
      refine v_pi d_X1_init_70 (lp_X1_36_1) rfl (hs) (rfl) rfl ?_
      refine v_ret (v := none) d_X1_init_73 rfl ⟨rfl, rfl⟩ (by decide) (by decide) ?_
      refine hK _ (fun b k hb => by simp only [x_u2_at, hb, false_and, if_false]) ⟨by simp [x_u2_at], by simp [x_u2_at], by simp [x_u2_at], by simp [x_u2_at], by simp [x_u2_at], by simp [x_u2_at], ?_, ?_, by simp [x_u2_at]⟩
      · simp only [x_u2_at, true_and]
        rw [if_neg (by decide), if_neg (by decide), if_pos trivial]
        unfold r_o1 x_k
        first | rw [if_pos (by omega)] | rw [if_neg (by omega)]
      · simp only [x_u2_at, true_and]
        rw [if_neg (by decide), if_pos trivial]
        unfold r_o2 x_k
        first | rw [if_pos (by omega)] | rw [if_neg (by omega)]
    · try simp (disch := omega) only [x_ti, x_tm1] at a53
      refine v_iconst (v := nI 1) d_X1_init_56 x_ic_1 ?_
      refine v_goto d_X1_init_57 ?_
      refine v_pi d_X1_init_61 (lp_X1_33_1) rfl (hs) (rfl) rfl ?_
      refine v_aload_n d_X1_init_64 rfl ?_
      refine v_iload d_X1_init_65 rfl ?_
      refine v_iload d_X1_init_67 rfl ?_
      refine v_imul d_X1_init_69 ?_
      refine v_pi d_X1_init_70 (lp_X1_36_1) rfl (hs) (rfl) rfl ?_
      refine v_ret (v := none) d_X1_init_73 rfl ⟨rfl, rfl⟩ (by decide) (by decide) ?_
      refine hK _ (fun b k hb => by simp only [x_u2_at, hb, false_and, if_false]) ⟨by simp [x_u2_at], by simp [x_u2_at], by simp [x_u2_at], by simp [x_u2_at], by simp [x_u2_at], by simp [x_u2_at], ?_, ?_, by simp [x_u2_at]⟩
      · simp only [x_u2_at, true_and]
        rw [if_neg (by decide), if_neg (by decide), if_pos trivial]
        unfold r_o1 x_k
        first | rw [if_pos (by omega)] | rw [if_neg (by omega)]
      · simp only [x_u2_at, true_and]
        rw [if_neg (by decide), if_pos trivial]
        unfold r_o2 x_k
        first | rw [if_pos (by omega)] | rw [if_neg (by omega)]
  · try simp (disch := omega) only [x_ti, x_tm1] at a39
    refine v_iconst (v := nI 1) d_X1_init_42 x_ic_1 ?_
    refine v_goto d_X1_init_43 ?_
    refine v_pi d_X1_init_47 (lp_X1_30_1) rfl (hs) (rfl) rfl ?_
    refine v_aload_n d_X1_init_50 rfl ?_
    refine v_iload_n d_X1_init_51 rfl ?_
    refine v_iconst (v := nI 2) d_X1_init_52 x_ic_2 ?_
    refine w_icmp_ne d_X1_init_53 (fun a53 => ?_) (fun a53 => ?_)
    · try simp (disch := omega) only [x_ti, x_tm1] at a53
      refine v_iconst (v := nI 2) d_X1_init_60 x_ic_2 ?_
      refine v_pi d_X1_init_61 (lp_X1_33_1) rfl (hs) (rfl) rfl ?_
      refine v_aload_n d_X1_init_64 rfl ?_
      refine v_iload d_X1_init_65 rfl ?_
      refine v_iload d_X1_init_67 rfl ?_
      refine v_imul d_X1_init_69 ?_
      refine v_pi d_X1_init_70 (lp_X1_36_1) rfl (hs) (rfl) rfl ?_
      refine v_ret (v := none) d_X1_init_73 rfl ⟨rfl, rfl⟩ (by decide) (by decide) ?_
      refine hK _ (fun b k hb => by simp only [x_u2_at, hb, false_and, if_false]) ⟨by simp [x_u2_at], by simp [x_u2_at], by simp [x_u2_at], by simp [x_u2_at], by simp [x_u2_at], by simp [x_u2_at], ?_, ?_, by simp [x_u2_at]⟩
      · simp only [x_u2_at, true_and]
        rw [if_neg (by decide), if_neg (by decide), if_pos trivial]
        unfold r_o1 x_k
        first | rw [if_pos (by omega)] | rw [if_neg (by omega)]
      · simp only [x_u2_at, true_and]
        rw [if_neg (by decide), if_pos trivial]
        unfold r_o2 x_k
        first | rw [if_pos (by omega)] | rw [if_neg (by omega)]
    · try simp (disch := omega) only [x_ti, x_tm1] at a53
      refine v_iconst (v := nI 1) d_X1_init_56 x_ic_1 ?_
      refine v_goto d_X1_init_57 ?_
      refine v_pi d_X1_init_61 (lp_X1_33_1) rfl (hs) (rfl) rfl ?_
      refine v_aload_n d_X1_init_64 rfl ?_
      refine v_iload d_X1_init_65 rfl ?_
      refine v_iload d_X1_init_67 rfl ?_
      refine v_imul d_X1_init_69 ?_
      refine v_pi d_X1_init_70 (lp_X1_36_1) rfl (hs) (rfl) rfl ?_
      refine v_ret (v := none) d_X1_init_73 rfl ⟨rfl, rfl⟩ (by decide) (by decide) ?_
      refine hK _ (fun b k hb => by simp only [x_u2_at, hb, false_and, if_false]) ⟨by simp [x_u2_at], by simp [x_u2_at], by simp [x_u2_at], by simp [x_u2_at], by simp [x_u2_at], by simp [x_u2_at], ?_, ?_, by simp [x_u2_at]⟩
      · simp only [x_u2_at, true_and]
        rw [if_neg (by decide), if_neg (by decide), if_pos trivial]
        unfold r_o1 x_k
        first | rw [if_pos (by omega)] | rw [if_neg (by omega)]
      · simp only [x_u2_at, true_and]
        rw [if_neg (by decide), if_pos trivial]
        unfold r_o2 x_k
        first | rw [if_pos (by omega)] | rw [if_neg (by omega)]

set_option maxRecDepth 100000 in
set_option maxHeartbeats 4000000 in
theorem t_X10_init_10 {K : x_K} {S : x_S} {P : x_P} {I : x_I} {J : x_J} {n : Nat} {y : Int32} {a f N : Nat} (ha : a ≤ n) (hfa : f ≠ a) (hsf : S f = .inl 1) (hce : I f 8 = nI N) (hN : N ≤ 64) (hs : S a = .inl 10) (hK : K none (x_u1 S (n + 1) (.inr (0, N))) (x_u2 (x_u1 (x_u2 P a 1 (some f)) (n + 1) (fun _ => none)) a 2 (some (n + 1))) (x_u1 (x_u2 I a 0 y) (n + 1) (fun _ => 0)) (x_u1 J (n + 1) (fun _ => 0)) (n + 1)) : x_Call f_X10_init [.ref a, .int y, .ref f] K S P I J n := by
  refine x_intro (by decide) 0 (ls := [_, _, _]) rfl (Nat.le_of_ble_eq_true rfl) ?_
  refine v_aload_n d_X10_init_0 rfl ?_
  refine v_obj d_X10_init_1 lo_X10_3 lo_in lo_cd (by decide) (Nat.le_of_ble_eq_true rfl) ?_
  refine v_aload_n d_X10_init_4 rfl ?_
  refine v_iload_n d_X10_init_5 rfl ?_
  refine v_pi d_X10_init_6 (lp_X10_9_10) rfl (hs) (rfl) rfl ?_
  refine v_aload_n d_X10_init_9 rfl ?_
  refine v_aload_n d_X10_init_10 rfl ?_
  refine v_pr d_X10_init_11 (lp_X10_15_10) rfl (hs) (fun _ => rfl) (fun _ => rfl) ?_
  refine v_aload_n d_X10_init_14 rfl ?_
  refine v_iconst (v := nI 0) d_X10_init_15 x_ic_0 ?_
  refine v_aload_n d_X10_init_16 rfl ?_
  refine v_gie d_X10_init_17 lf_X10_19_1 rfl (hsf) ((x_u2_na _ _ _ _ hfa).trans hce) ?_
  refine v_max d_X10_init_20 lm_X10_24 lm_st lm_in lm_cd (by decide) (Nat.le_of_ble_eq_true rfl) (by decide) (by decide) ?_
  rw [x_mx (by omega)]
  refine v_newa (t := 0) d_X10_init_23 rfl (by decide) la_int (rfl) (by omega) (by show N * 4 ≤ _; omega) (by decide) (by show 0 + N ≤ 64; omega) ?_
  refine v_pr d_X10_init_25 (lp_X10_30_10) rfl ((x_u1_n _ _ (by omega)).trans hs) (fun _ => rfl) (fun _ => rfl) ?_
  refine v_ret (v := none) d_X10_init_28 rfl ⟨rfl, rfl⟩ (by decide) (by show 0 + N ≤ 64; omega) ?_
  exact hK

set_option maxRecDepth 100000 in
set_option maxHeartbeats 4000000 in
theorem t_X10_init_5 {K : x_K} {S : x_S} {P : x_P} {I : x_I} {J : x_J} {n : Nat} {y : Int32} {a f N : Nat} (ha : a ≤ n) (hfa : f ≠ a) (hsf : S f = .inl 1) (hce : I f 8 = nI N) (hN : N ≤ 64) (hs : S a = .inl 5) (hK : K none (x_u1 S (n + 1) (.inr (0, N))) (x_u2 (x_u1 (x_u2 P a 1 (some f)) (n + 1) (fun _ => none)) a 2 (some (n + 1))) (x_u1 (x_u2 I a 0 y) (n + 1) (fun _ => 0)) (x_u1 J (n + 1) (fun _ => 0)) (n + 1)) : x_Call f_X10_init [.ref a, .int y, .ref f] K S P I J n := by
  refine x_intro (by decide) 0 (ls := [_, _, _]) rfl (Nat.le_of_ble_eq_true rfl) ?_
  refine v_aload_n d_X10_init_0 rfl ?_
  refine v_obj d_X10_init_1 lo_X10_3 lo_in lo_cd (by decide) (Nat.le_of_ble_eq_true rfl) ?_
  refine v_aload_n d_X10_init_4 rfl ?_
  refine v_iload_n d_X10_init_5 rfl ?_
  refine v_pi d_X10_init_6 (lp_X10_9_5) rfl (hs) (rfl) rfl ?_
  refine v_aload_n d_X10_init_9 rfl ?_
  refine v_aload_n d_X10_init_10 rfl ?_
  refine v_pr d_X10_init_11 (lp_X10_15_5) rfl (hs) (fun _ => rfl) (fun _ => rfl) ?_
  refine v_aload_n d_X10_init_14 rfl ?_
  refine v_iconst (v := nI 0) d_X10_init_15 x_ic_0 ?_
  refine v_aload_n d_X10_init_16 rfl ?_
  refine v_gie d_X10_init_17 lf_X10_19_1 rfl (hsf) ((x_u2_na _ _ _ _ hfa).trans hce) ?_
  refine v_max d_X10_init_20 lm_X10_24 lm_st lm_in lm_cd (by decide) (Nat.le_of_ble_eq_true rfl) (by decide) (by decide) ?_
  rw [x_mx (by omega)]
  refine v_newa (t := 0) d_X10_init_23 rfl (by decide) la_int (rfl) (by omega) (by show N * 4 ≤ _; omega) (by decide) (by show 0 + N ≤ 64; omega) ?_
  refine v_pr d_X10_init_25 (lp_X10_30_5) rfl ((x_u1_n _ _ (by omega)).trans hs) (fun _ => rfl) (fun _ => rfl) ?_
  refine v_ret (v := none) d_X10_init_28 rfl ⟨rfl, rfl⟩ (by decide) (by show 0 + N ≤ 64; omega) ?_
  exact hK

set_option maxRecDepth 100000 in
set_option maxHeartbeats 4000000 in
theorem t_X10_init_0 {K : x_K} {S : x_S} {P : x_P} {I : x_I} {J : x_J} {n : Nat} {y : Int32} {a f N : Nat} (ha : a ≤ n) (hfa : f ≠ a) (hsf : S f = .inl 1) (hce : I f 8 = nI N) (hN : N ≤ 64) (hs : S a = .inl 0) (hK : K none (x_u1 S (n + 1) (.inr (0, N))) (x_u2 (x_u1 (x_u2 P a 1 (some f)) (n + 1) (fun _ => none)) a 2 (some (n + 1))) (x_u1 (x_u2 I a 0 y) (n + 1) (fun _ => 0)) (x_u1 J (n + 1) (fun _ => 0)) (n + 1)) : x_Call f_X10_init [.ref a, .int y, .ref f] K S P I J n := by
  refine x_intro (by decide) 0 (ls := [_, _, _]) rfl (Nat.le_of_ble_eq_true rfl) ?_
  refine v_aload_n d_X10_init_0 rfl ?_
  refine v_obj d_X10_init_1 lo_X10_3 lo_in lo_cd (by decide) (Nat.le_of_ble_eq_true rfl) ?_
  refine v_aload_n d_X10_init_4 rfl ?_
  refine v_iload_n d_X10_init_5 rfl ?_
  refine v_pi d_X10_init_6 (lp_X10_9_0) rfl (hs) (rfl) rfl ?_
  refine v_aload_n d_X10_init_9 rfl ?_
  refine v_aload_n d_X10_init_10 rfl ?_
  refine v_pr d_X10_init_11 (lp_X10_15_0) rfl (hs) (fun _ => rfl) (fun _ => rfl) ?_
  refine v_aload_n d_X10_init_14 rfl ?_
  refine v_iconst (v := nI 0) d_X10_init_15 x_ic_0 ?_
  refine v_aload_n d_X10_init_16 rfl ?_
  refine v_gie d_X10_init_17 lf_X10_19_1 rfl (hsf) ((x_u2_na _ _ _ _ hfa).trans hce) ?_
  refine v_max d_X10_init_20 lm_X10_24 lm_st lm_in lm_cd (by decide) (Nat.le_of_ble_eq_true rfl) (by decide) (by decide) ?_
  rw [x_mx (by omega)]
  refine v_newa (t := 0) d_X10_init_23 rfl (by decide) la_int (rfl) (by omega) (by show N * 4 ≤ _; omega) (by decide) (by show 0 + N ≤ 64; omega) ?_
  refine v_pr d_X10_init_25 (lp_X10_30_0) rfl ((x_u1_n _ _ (by omega)).trans hs) (fun _ => rfl) (fun _ => rfl) ?_
  refine v_ret (v := none) d_X10_init_28 rfl ⟨rfl, rfl⟩ (by decide) (by show 0 + N ≤ 64; omega) ?_
  exact hK

set_option maxRecDepth 100000 in
set_option maxHeartbeats 4000000 in
theorem t_X5_init_5 {K : x_K} {S : x_S} {P : x_P} {I : x_I} {J : x_J} {n : Nat} {y : Int32} {a f N : Nat} (ha : a ≤ n) (hfa : f ≠ a) (hsf : S f = .inl 1) (hce : I f 8 = nI N) (hN : N ≤ 64) (hs : S a = .inl 5) (hK : K none (x_u1 S (n + 1) (.inr (0, N))) (x_u2 (x_u1 (x_u2 P a 1 (some f)) (n + 1) (fun _ => none)) a 2 (some (n + 1))) (x_u1 (x_u2 I a 0 y) (n + 1) (fun _ => 0)) (x_u1 J (n + 1) (fun _ => 0)) (n + 1)) : x_Call f_X5_init [.ref a, .int y, .ref f] K S P I J n := by
  refine x_intro (by decide) 0 (ls := [_, _, _]) rfl (Nat.le_of_ble_eq_true rfl) ?_
  refine v_aload_n d_X5_init_0 rfl ?_
  refine v_iload_n d_X5_init_1 rfl ?_
  refine v_aload_n d_X5_init_2 rfl ?_
  refine v_ci (as := [_, _]) (rest := []) d_X5_init_3 li_X5_3 rfl ⟨by decide, by decide⟩ rfl (Nat.le_of_ble_eq_true rfl) (by decide) (by decide) ?_
  refine t_X10_init_5 ha hfa hsf hce hN hs ?_
  refine v_ret (v := none) d_X5_init_6 rfl ⟨rfl, rfl⟩ (by decide) (by decide) ?_
  exact hK

set_option maxRecDepth 100000 in
set_option maxHeartbeats 4000000 in
theorem t_X5_init_0 {K : x_K} {S : x_S} {P : x_P} {I : x_I} {J : x_J} {n : Nat} {y : Int32} {a f N : Nat} (ha : a ≤ n) (hfa : f ≠ a) (hsf : S f = .inl 1) (hce : I f 8 = nI N) (hN : N ≤ 64) (hs : S a = .inl 0) (hK : K none (x_u1 S (n + 1) (.inr (0, N))) (x_u2 (x_u1 (x_u2 P a 1 (some f)) (n + 1) (fun _ => none)) a 2 (some (n + 1))) (x_u1 (x_u2 I a 0 y) (n + 1) (fun _ => 0)) (x_u1 J (n + 1) (fun _ => 0)) (n + 1)) : x_Call f_X5_init [.ref a, .int y, .ref f] K S P I J n := by
  refine x_intro (by decide) 0 (ls := [_, _, _]) rfl (Nat.le_of_ble_eq_true rfl) ?_
  refine v_aload_n d_X5_init_0 rfl ?_
  refine v_iload_n d_X5_init_1 rfl ?_
  refine v_aload_n d_X5_init_2 rfl ?_
  refine v_ci (as := [_, _]) (rest := []) d_X5_init_3 li_X5_3 rfl ⟨by decide, by decide⟩ rfl (Nat.le_of_ble_eq_true rfl) (by decide) (by decide) ?_
  refine t_X10_init_0 ha hfa hsf hce hN hs ?_
  refine v_ret (v := none) d_X5_init_6 rfl ⟨rfl, rfl⟩ (by decide) (by decide) ?_
  exact hK

set_option maxRecDepth 100000 in
set_option maxHeartbeats 4000000 in
theorem t_X0_init_0 {K : x_K} {S : x_S} {P : x_P} {I : x_I} {J : x_J} {n : Nat} {y : Int32} {a f N : Nat} (ha : a ≤ n) (hfa : f ≠ a) (hsf : S f = .inl 1) (hce : I f 8 = nI N) (hN : N ≤ 64) (hs : S a = .inl 0) (hK : K none (x_u1 S (n + 1) (.inr (0, N))) (x_u2 (x_u1 (x_u2 P a 1 (some f)) (n + 1) (fun _ => none)) a 2 (some (n + 1))) (x_u1 (x_u2 I a 0 y) (n + 1) (fun _ => 0)) (x_u1 J (n + 1) (fun _ => 0)) (n + 1)) : x_Call f_X0_init [.ref a, .int y, .ref f] K S P I J n := by
  refine x_intro (by decide) 0 (ls := [_, _, _]) rfl (Nat.le_of_ble_eq_true rfl) ?_
  refine v_aload_n d_X0_init_0 rfl ?_
  refine v_iload_n d_X0_init_1 rfl ?_
  refine v_aload_n d_X0_init_2 rfl ?_
  refine v_ci (as := [_, _]) (rest := []) d_X0_init_3 li_X0_3 rfl ⟨by decide, by decide⟩ rfl (Nat.le_of_ble_eq_true rfl) (by decide) (by decide) ?_
  refine t_X5_init_0 ha hfa hsf hce hN hs ?_
  refine v_ret (v := none) d_X0_init_6 rfl ⟨rfl, rfl⟩ (by decide) (by decide) ?_
  exact hK

set_option maxRecDepth 100000 in
set_option maxHeartbeats 4000000 in
theorem t_X8_add {K : x_K} {S : x_S} {P : x_P} {I : x_I} {J : x_J} {n : Nat} {kd : Int32} {f N q : Nat} (hkd : 0 ≤ kd.toInt ∧ kd.toInt ≤ 2) (hn62 : 62 ≤ n) (hf : f ≤ n) (hsf : S f = .inl 1) (hce : I f 8 = nI N) (hN : N ≤ 64) (hns : I 3 1 = nI q) (hq : q < 10) (hS : x_hS S) (hP : x_hP P) (hK : ∀ (S' : x_S) (P' : x_P) (I' : x_I) (J' : x_J), S' (n + 1) = .inl (c_kc kd) → S' (n + 2) = .inr (0, N) → (∀ b, b ≤ n → S' b = S b) → P' 4 q = some (n + 1) → P' (n + 1) 1 = some f → P' (n + 1) 2 = some (n + 2) → (∀ b j, b ≤ n → ¬ (b = 4 ∧ j = q) → P' b j = P b j) → I' (n + 1) 0 = nI q → (∀ j, I' (n + 2) j = 0) → I' 3 1 = nI (q + 1) → (∀ b j, b ≤ n → ¬ (b = 3 ∧ j = 1) → I' b j = I b j) → (∀ b j, b ≤ n → J' b j = J b j) → K (some (.int (nI q))) S' P' I' J' (n + 2)) : x_Call f_X8_add [.ref 3, .int kd, .ref f] K S P I J n := by
  refine x_intro (by decide) 1 (ls := [_, _, _, _]) rfl (Nat.le_of_ble_eq_true rfl) ?_
  rcases (show kd.toInt = 0 ∨ kd.toInt = 1 ∨ kd.toInt = 2 by omega) with e | e | e
  · refine v_aload_n d_X8_add_0 rfl ?_
    refine v_gie d_X8_add_1 lf_X8_17_8 rfl (hS _ _ rfl) (hns) ?_
    refine v_istore_n (ls' := [_, _, _, _]) d_X8_add_4 (by decide) rfl ?_
    refine v_iload_n d_X8_add_5 rfl ?_
    refine w_if_ne d_X8_add_6 (fun a6 => False.elim (by (try simp (disch := omega) only [x_ti, x_tm1] at a6); omega)) (fun a6 => ?_)
    refine v_aload_n d_X8_add_9 rfl ?_
    refine v_gr d_X8_add_10 lf_X8_11_8 rfl (hS _ _ rfl) (hP _ _ _ rfl) ?_
    refine v_iload_n d_X8_add_13 rfl ?_
    refine v_new d_X8_add_14 ln_X8_9 (by decide) (by decide) ?_
    refine v_dup d_X8_add_17 rfl ?_
    refine v_iload_n d_X8_add_18 rfl ?_
    refine v_aload_n d_X8_add_19 rfl ?_
    refine v_ci (as := [_, _]) (rest := [_, _, _]) d_X8_add_20 li_X8_21 rfl ⟨by decide, by decide⟩ rfl (Nat.le_of_ble_eq_true rfl) (by decide) (by decide) ?_
    refine t_X10_init_10 (a := n + 1) (f := f) (N := N) (by omega) (by omega) ((x_u1_n _ _ (by omega)).trans hsf) ((congrFun (x_u1_n I (fun _ => 0) (show f ≠ n + 1 by omega)) 8).trans hce) hN (x_u1_s _ _ _) ?_
    refine v_aast _ d_X8_add_23 (rfl) ((x_u1_n _ _ (by omega)).trans ((x_u1_n _ _ (by omega)).trans (hS _ _ rfl))) (⟨by omega, by omega⟩) ((x_u1_n _ _ (by omega)).trans (x_u1_s _ _ _)) rfl (Or.inl rfl) ?_
    refine v_goto d_X8_add_24 ?_
    have e31 : x_u1 (x_u2 (x_u1 I (n + 1) (fun _ => 0)) (n + 1) 0 (nI q)) (n + 1 + 1) (fun _ => 0) 3 1 = nI q := by
      rw [x_u1_n _ _ (by omega), x_u2_na _ _ _ _ (by omega), x_u1_n _ _ (by omega)]; exact hns
    refine v_aload_n d_X8_add_65 rfl ?_
    refine v_dup d_X8_add_66 rfl ?_
    refine v_gie d_X8_add_67 lf_X8_17_8 rfl ((x_u1_n _ _ (by omega)).trans ((x_u1_n _ _ (by omega)).trans (hS _ _ rfl))) (e31) ?_
    refine v_iconst (v := nI 1) d_X8_add_70 x_ic_1 ?_
    refine v_iaddN d_X8_add_71 ?_
    refine v_pi d_X8_add_72 (lp_X8_17_8 _) rfl ((x_u1_n _ _ (by omega)).trans ((x_u1_n _ _ (by omega)).trans (hS _ _ rfl))) (rfl) rfl ?_
    refine v_iload_n d_X8_add_75 rfl ?_
    refine v_ret (v := some (.int _)) d_X8_add_76 rfl ⟨rfl, _, rfl, rfl⟩ (by decide) (by decide) ?_
    refine hK _ _ _ _ ?_ ?_ ?_ ?_ ?_ ?_ ?_ ?_ ?_ ?_ ?_ ?_
    · rw [x_u1_n _ _ (by omega), x_u1_s]; unfold c_kc; rw [if_pos (by omega)]
    · rw [x_u1_s]
    · intro b hb; rw [x_u1_n _ _ (by omega), x_u1_n _ _ (by omega)]
    · rw [x_u2_s]
    · simp [x_u1_at, x_u2_at]
      omega
    · simp [x_u1_at, x_u2_at]
      omega
    · intro b j hb hbj
      rw [x_u2_at, if_neg hbj]
      simp [x_u1_at, x_u2_at, show ¬ b = n + 1 by omega, show ¬ b = n + 1 + 1 by omega]
    · rw [x_u2_na _ _ _ _ (by omega)]
      simp [x_u1_at, x_u2_at]
    · intro j
      rw [x_u2_na _ _ _ _ (by omega), x_u1_s]
    · rw [x_u2_s]
    · intro b j hb hbj
      rw [x_u2_at, if_neg hbj]
      simp [x_u1_at, x_u2_at, show ¬ b = n + 1 by omega, show ¬ b = n + 1 + 1 by omega]
    · intro b j hb
      rw [x_u1_n _ _ (by omega), x_u1_n _ _ (by omega)]
  · refine v_aload_n d_X8_add_0 rfl ?_
    refine v_gie d_X8_add_1 lf_X8_17_8 rfl (hS _ _ rfl) (hns) ?_
    refine v_istore_n (ls' := [_, _, _, _]) d_X8_add_4 (by decide) rfl ?_
    refine v_iload_n d_X8_add_5 rfl ?_
    refine w_if_ne d_X8_add_6 (fun a6 => ?_) (fun a6 => False.elim (by (try simp (disch := omega) only [x_ti, x_tm1] at a6); omega))
    refine v_iload_n d_X8_add_27 rfl ?_
    refine v_iconst (v := nI 1) d_X8_add_28 x_ic_1 ?_
    refine w_icmp_ne d_X8_add_29 (fun a29 => False.elim (by (try simp (disch := omega) only [x_ti, x_tm1] at a29); omega)) (fun a29 => ?_)
    refine v_aload_n d_X8_add_32 rfl ?_
    refine v_gr d_X8_add_33 lf_X8_11_8 rfl (hS _ _ rfl) (hP _ _ _ rfl) ?_
    refine v_iload_n d_X8_add_36 rfl ?_
    refine v_new d_X8_add_37 ln_X8_24 (by decide) (by decide) ?_
    refine v_dup d_X8_add_40 rfl ?_
    refine v_iload_n d_X8_add_41 rfl ?_
    refine v_aload_n d_X8_add_42 rfl ?_
    refine v_ci (as := [_, _]) (rest := [_, _, _]) d_X8_add_43 li_X8_26 rfl ⟨by decide, by decide⟩ rfl (Nat.le_of_ble_eq_true rfl) (by decide) (by decide) ?_
    refine t_X5_init_5 (a := n + 1) (f := f) (N := N) (by omega) (by omega) ((x_u1_n _ _ (by omega)).trans hsf) ((congrFun (x_u1_n I (fun _ => 0) (show f ≠ n + 1 by omega)) 8).trans hce) hN (x_u1_s _ _ _) ?_
    refine v_aast _ d_X8_add_46 (rfl) ((x_u1_n _ _ (by omega)).trans ((x_u1_n _ _ (by omega)).trans (hS _ _ rfl))) (⟨by omega, by omega⟩) ((x_u1_n _ _ (by omega)).trans (x_u1_s _ _ _)) rfl (Or.inr (List.mem_of_getElem? (i := 1413) (by decide +kernel))) ?_
    refine v_goto d_X8_add_47 ?_
    have e31 : x_u1 (x_u2 (x_u1 I (n + 1) (fun _ => 0)) (n + 1) 0 (nI q)) (n + 1 + 1) (fun _ => 0) 3 1 = nI q := by
      rw [x_u1_n _ _ (by omega), x_u2_na _ _ _ _ (by omega), x_u1_n _ _ (by omega)]; exact hns
    refine v_aload_n d_X8_add_65 rfl ?_
    refine v_dup d_X8_add_66 rfl ?_
    refine v_gie d_X8_add_67 lf_X8_17_8 rfl ((x_u1_n _ _ (by omega)).trans ((x_u1_n _ _ (by omega)).trans (hS _ _ rfl))) (e31) ?_
    refine v_iconst (v := nI 1) d_X8_add_70 x_ic_1 ?_
    refine v_iaddN d_X8_add_71 ?_
    refine v_pi d_X8_add_72 (lp_X8_17_8 _) rfl ((x_u1_n _ _ (by omega)).trans ((x_u1_n _ _ (by omega)).trans (hS _ _ rfl))) (rfl) rfl ?_
    refine v_iload_n d_X8_add_75 rfl ?_
    refine v_ret (v := some (.int _)) d_X8_add_76 rfl ⟨rfl, _, rfl, rfl⟩ (by decide) (by decide) ?_
    refine hK _ _ _ _ ?_ ?_ ?_ ?_ ?_ ?_ ?_ ?_ ?_ ?_ ?_ ?_
    · rw [x_u1_n _ _ (by omega), x_u1_s]; unfold c_kc; rw [if_neg (by omega), if_pos (by omega)]
    · rw [x_u1_s]
    · intro b hb; rw [x_u1_n _ _ (by omega), x_u1_n _ _ (by omega)]
    · rw [x_u2_s]
    · simp [x_u1_at, x_u2_at]
      omega
    · simp [x_u1_at, x_u2_at]
      omega
    · intro b j hb hbj
      rw [x_u2_at, if_neg hbj]
      simp [x_u1_at, x_u2_at, show ¬ b = n + 1 by omega, show ¬ b = n + 1 + 1 by omega]
    · rw [x_u2_na _ _ _ _ (by omega)]
      simp [x_u1_at, x_u2_at]
    · intro j
      rw [x_u2_na _ _ _ _ (by omega), x_u1_s]
    · rw [x_u2_s]
    · intro b j hb hbj
      rw [x_u2_at, if_neg hbj]
      simp [x_u1_at, x_u2_at, show ¬ b = n + 1 by omega, show ¬ b = n + 1 + 1 by omega]
    · intro b j hb
      rw [x_u1_n _ _ (by omega), x_u1_n _ _ (by omega)]
  · refine v_aload_n d_X8_add_0 rfl ?_
    refine v_gie d_X8_add_1 lf_X8_17_8 rfl (hS _ _ rfl) (hns) ?_
    refine v_istore_n (ls' := [_, _, _, _]) d_X8_add_4 (by decide) rfl ?_
    refine v_iload_n d_X8_add_5 rfl ?_
    refine w_if_ne d_X8_add_6 (fun a6 => ?_) (fun a6 => False.elim (by (try simp (disch := omega) only [x_ti, x_tm1] at a6); omega))
    refine v_iload_n d_X8_add_27 rfl ?_
    refine v_iconst (v := nI 1) d_X8_add_28 x_ic_1 ?_
    refine w_icmp_ne d_X8_add_29 (fun a29 => ?_) (fun a29 => False.elim (by (try simp (disch := omega) only [x_ti, x_tm1] at a29); omega))
    refine v_aload_n d_X8_add_50 rfl ?_
    refine v_gr d_X8_add_51 lf_X8_11_8 rfl (hS _ _ rfl) (hP _ _ _ rfl) ?_
    refine v_iload_n d_X8_add_54 rfl ?_
    refine v_new d_X8_add_55 ln_X8_27 (by decide) (by decide) ?_
    refine v_dup d_X8_add_58 rfl ?_
    refine v_iload_n d_X8_add_59 rfl ?_
    refine v_aload_n d_X8_add_60 rfl ?_
    refine v_ci (as := [_, _]) (rest := [_, _, _]) d_X8_add_61 li_X8_29 rfl ⟨by decide, by decide⟩ rfl (Nat.le_of_ble_eq_true rfl) (by decide) (by decide) ?_
    refine t_X0_init_0 (a := n + 1) (f := f) (N := N) (by omega) (by omega) ((x_u1_n _ _ (by omega)).trans hsf) ((congrFun (x_u1_n I (fun _ => 0) (show f ≠ n + 1 by omega)) 8).trans hce) hN (x_u1_s _ _ _) ?_
    refine v_aast _ d_X8_add_64 (rfl) ((x_u1_n _ _ (by omega)).trans ((x_u1_n _ _ (by omega)).trans (hS _ _ rfl))) (⟨by omega, by omega⟩) ((x_u1_n _ _ (by omega)).trans (x_u1_s _ _ _)) rfl (Or.inr (List.mem_of_getElem? (i := 1414) (by decide +kernel))) ?_
    have e31 : x_u1 (x_u2 (x_u1 I (n + 1) (fun _ => 0)) (n + 1) 0 (nI q)) (n + 1 + 1) (fun _ => 0) 3 1 = nI q := by
      rw [x_u1_n _ _ (by omega), x_u2_na _ _ _ _ (by omega), x_u1_n _ _ (by omega)]; exact hns
    refine v_aload_n d_X8_add_65 rfl ?_
    refine v_dup d_X8_add_66 rfl ?_
    refine v_gie d_X8_add_67 lf_X8_17_8 rfl ((x_u1_n _ _ (by omega)).trans ((x_u1_n _ _ (by omega)).trans (hS _ _ rfl))) (e31) ?_
    refine v_iconst (v := nI 1) d_X8_add_70 x_ic_1 ?_
    refine v_iaddN d_X8_add_71 ?_
    refine v_pi d_X8_add_72 (lp_X8_17_8 _) rfl ((x_u1_n _ _ (by omega)).trans ((x_u1_n _ _ (by omega)).trans (hS _ _ rfl))) (rfl) rfl ?_
    refine v_iload_n d_X8_add_75 rfl ?_
    refine v_ret (v := some (.int _)) d_X8_add_76 rfl ⟨rfl, _, rfl, rfl⟩ (by decide) (by decide) ?_
    refine hK _ _ _ _ ?_ ?_ ?_ ?_ ?_ ?_ ?_ ?_ ?_ ?_ ?_ ?_
    · rw [x_u1_n _ _ (by omega), x_u1_s]; unfold c_kc; rw [if_neg (by omega), if_neg (by omega)]
    · rw [x_u1_s]
    · intro b hb; rw [x_u1_n _ _ (by omega), x_u1_n _ _ (by omega)]
    · rw [x_u2_s]
    · simp [x_u1_at, x_u2_at]
      omega
    · simp [x_u1_at, x_u2_at]
      omega
    · intro b j hb hbj
      rw [x_u2_at, if_neg hbj]
      simp [x_u1_at, x_u2_at, show ¬ b = n + 1 by omega, show ¬ b = n + 1 + 1 by omega]
    · rw [x_u2_na _ _ _ _ (by omega)]
      simp [x_u1_at, x_u2_at]
    · intro j
      rw [x_u2_na _ _ _ _ (by omega), x_u1_s]
    · rw [x_u2_s]
    · intro b j hb hbj
      rw [x_u2_at, if_neg hbj]
      simp [x_u1_at, x_u2_at, show ¬ b = n + 1 by omega, show ¬ b = n + 1 + 1 by omega]
    · intro b j hb
      rw [x_u1_n _ _ (by omega), x_u1_n _ _ (by omega)]

