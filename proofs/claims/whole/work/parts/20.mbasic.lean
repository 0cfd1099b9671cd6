set_option maxRecDepth 100000 in
set_option maxHeartbeats 4000000 in
theorem t_X12_within {K : x_K} {S : x_S} {P : x_P} {I : x_I} {J : x_J} {n : Nat} {v lo hi : Int32} {a b : Int} (ha : lo.toInt = a) (hb : hi.toInt = b) (ht : a ≤ v.toInt ∧ v.toInt ≤ b → K (some (.int (nI 1))) S P I J n) (hf : ¬ (a ≤ v.toInt ∧ v.toInt ≤ b) → K (some (.int (nI 0))) S P I J n) : x_Call f_X12_within [.int v, .int lo, .int hi] K S P I J n := by
  refine x_intro (by decide) 0 (ls := [_, _, _]) rfl (Nat.le_of_ble_eq_true rfl) ?_
  refine v_iload_n d_X12_within_0 rfl ?_
  refine v_iload_n d_X12_within_1 rfl ?_
  refine w_icmp_lt d_X12_within_2 (fun h2 => ?_) (fun h2 => ?_)
  · try simp (disch := omega) only [x_ti, x_tm1] at h2
    refine v_iconst (v := nI 0) d_X12_within_14 x_ic_0 ?_
    refine v_ret (v := some (.int _)) d_X12_within_15 rfl ⟨rfl, _, rfl, rfl⟩ (by decide) (by decide) ?_
    exact hf (by omega)
  · try simp (disch := omega) only [x_ti, x_tm1] at h2
    refine v_iload_n d_X12_within_5 rfl ?_
    refine v_iload_n d_X12_within_6 rfl ?_
    refine w_icmp_gt d_X12_within_7 (fun h7 => ?_) (fun h7 => ?_)
    · try simp (disch := omega) only [x_ti, x_tm1] at h7
      refine v_iconst (v := nI 0) d_X12_within_14 x_ic_0 ?_
      refine v_ret (v := some (.int _)) d_X12_within_15 rfl ⟨rfl, _, rfl, rfl⟩ (by decide) (by decide) ?_
      exact hf (by omega)
    · try simp (disch := omega) only [x_ti, x_tm1] at h7
      refine v_iconst (v := nI 1) d_X12_within_10 x_ic_1 ?_
      refine v_goto d_X12_within_11 ?_
      refine v_ret (v := some (.int _)) d_X12_within_15 rfl ⟨rfl, _, rfl, rfl⟩ (by decide) (by decide) ?_
      exact ht (by omega)

set_option maxRecDepth 100000 in
set_option maxHeartbeats 4000000 in
theorem t_X12_isEye {K : x_K} {S : x_S} {P : x_P} {I : x_I} {J : x_J} {n : Nat} {v : Int32} (ht : 0 ≤ v.toInt ∧ v.toInt ≤ 3 → K (some (.int (nI 1))) S P I J n) (hf : ¬ (0 ≤ v.toInt ∧ v.toInt ≤ 3) → K (some (.int (nI 0))) S P I J n) : x_Call f_X12_isEye [.int v] K S P I J n := by
  refine x_intro (by decide) 0 (ls := [_]) rfl (Nat.le_of_ble_eq_true rfl) ?_
  refine v_iload_n d_X12_isEye_0 rfl ?_
  refine v_iconst (v := nI 0) d_X12_isEye_1 x_ic_0 ?_
  refine v_iconst (v := nI 3) d_X12_isEye_2 x_ic_3 ?_
  refine v_cs (as := [_, _, _]) (rest := []) d_X12_isEye_3 ls_X12_90 rfl ⟨by decide, by decide⟩ rfl (Nat.le_of_ble_eq_true rfl) (by decide) (by decide) ?_
  refine t_X12_within (x_ti (k := 0) (by decide)) (x_ti (k := 3) (by decide)) (fun q => ?_) (fun q => ?_)
  · refine v_ret (v := some (.int _)) d_X12_isEye_6 rfl ⟨rfl, _, rfl, rfl⟩ (by decide) (by decide) ?_
    exact ht (by omega)
  · refine v_ret (v := some (.int _)) d_X12_isEye_6 rfl ⟨rfl, _, rfl, rfl⟩ (by decide) (by decide) ?_
    exact hf (by omega)

set_option maxRecDepth 100000 in
set_option maxHeartbeats 4000000 in
theorem t_X12_isSheet {K : x_K} {S : x_S} {P : x_P} {I : x_I} {J : x_J} {n : Nat} {v : Int32} (ht : 0 ≤ v.toInt ∧ v.toInt ≤ 3 → K (some (.int (nI 1))) S P I J n) (hf : ¬ (0 ≤ v.toInt ∧ v.toInt ≤ 3) → K (some (.int (nI 0))) S P I J n) : x_Call f_X12_isSheet [.int v] K S P I J n := by
  refine x_intro (by decide) 0 (ls := [_]) rfl (Nat.le_of_ble_eq_true rfl) ?_
  refine v_iload_n d_X12_isSheet_0 rfl ?_
  refine v_iconst (v := nI 0) d_X12_isSheet_1 x_ic_0 ?_
  refine v_iconst (v := nI 3) d_X12_isSheet_2 x_ic_3 ?_
  refine v_cs (as := [_, _, _]) (rest := []) d_X12_isSheet_3 ls_X12_90 rfl ⟨by decide, by decide⟩ rfl (Nat.le_of_ble_eq_true rfl) (by decide) (by decide) ?_
  refine t_X12_within (x_ti (k := 0) (by decide)) (x_ti (k := 3) (by decide)) (fun q => ?_) (fun q => ?_)
  · refine v_ret (v := some (.int _)) d_X12_isSheet_6 rfl ⟨rfl, _, rfl, rfl⟩ (by decide) (by decide) ?_
    exact ht (by omega)
  · refine v_ret (v := some (.int _)) d_X12_isSheet_6 rfl ⟨rfl, _, rfl, rfl⟩ (by decide) (by decide) ?_
    exact hf (by omega)

set_option maxRecDepth 100000 in
set_option maxHeartbeats 4000000 in
theorem t_X12_isLane {K : x_K} {S : x_S} {P : x_P} {I : x_I} {J : x_J} {n : Nat} {v : Int32} (ht : 0 ≤ v.toInt ∧ v.toInt ≤ 2 → K (some (.int (nI 1))) S P I J n) (hf : ¬ (0 ≤ v.toInt ∧ v.toInt ≤ 2) → K (some (.int (nI 0))) S P I J n) : x_Call f_X12_isLane [.int v] K S P I J n := by
  refine x_intro (by decide) 0 (ls := [_]) rfl (Nat.le_of_ble_eq_true rfl) ?_
  refine v_iload_n d_X12_isLane_0 rfl ?_
  refine v_iconst (v := nI 0) d_X12_isLane_1 x_ic_0 ?_
  refine v_iconst (v := nI 2) d_X12_isLane_2 x_ic_2 ?_
  refine v_cs (as := [_, _, _]) (rest := []) d_X12_isLane_3 ls_X12_90 rfl ⟨by decide, by decide⟩ rfl (Nat.le_of_ble_eq_true rfl) (by decide) (by decide) ?_
  refine t_X12_within (x_ti (k := 0) (by decide)) (x_ti (k := 2) (by decide)) (fun q => ?_) (fun q => ?_)
  · refine v_ret (v := some (.int _)) d_X12_isLane_6 rfl ⟨rfl, _, rfl, rfl⟩ (by decide) (by decide) ?_
    exact ht (by omega)
  · refine v_ret (v := some (.int _)) d_X12_isLane_6 rfl ⟨rfl, _, rfl, rfl⟩ (by decide) (by decide) ?_
    exact hf (by omega)

set_option maxRecDepth 100000 in
set_option maxHeartbeats 4000000 in
theorem t_X12_areEyes {K : x_K} {S : x_S} {P : x_P} {I : x_I} {J : x_J} {n : Nat} {v : Int32} (ht : 0 ≤ v.toInt ∧ v.toInt ≤ 15 → K (some (.int (nI 1))) S P I J n) (hf : ¬ (0 ≤ v.toInt ∧ v.toInt ≤ 15) → K (some (.int (nI 0))) S P I J n) : x_Call f_X12_areEyes [.int v] K S P I J n := by
  refine x_intro (by decide) 0 (ls := [_]) rfl (Nat.le_of_ble_eq_true rfl) ?_
  refine v_iload_n d_X12_areEyes_0 rfl ?_
  refine v_iconst (v := nI 0) d_X12_areEyes_1 x_ic_0 ?_
  refine v_bipush (v := nI 15) d_X12_areEyes_2 x_bp_15 ?_
  refine v_cs (as := [_, _, _]) (rest := []) d_X12_areEyes_4 ls_X12_90 rfl ⟨by decide, by decide⟩ rfl (Nat.le_of_ble_eq_true rfl) (by decide) (by decide) ?_
  refine t_X12_within (x_ti (k := 0) (by decide)) (x_ti (k := 15) (by decide)) (fun q => ?_) (fun q => ?_)
  · refine v_ret (v := some (.int _)) d_X12_areEyes_7 rfl ⟨rfl, _, rfl, rfl⟩ (by decide) (by decide) ?_
    exact ht (by omega)
  · refine v_ret (v := some (.int _)) d_X12_areEyes_7 rfl ⟨rfl, _, rfl, rfl⟩ (by decide) (by decide) ?_
    exact hf (by omega)

set_option maxRecDepth 100000 in
set_option maxHeartbeats 4000000 in
theorem t_X12_isPlace {K : x_K} {S : x_S} {P : x_P} {I : x_I} {J : x_J} {n : Nat} {x y z : Int32} (ht : (0 ≤ x.toInt ∧ x.toInt ≤ 40) ∧ (0 ≤ y.toInt ∧ y.toInt ≤ 40) ∧ (0 ≤ z.toInt ∧ z.toInt ≤ 40) → K (some (.int (nI 1))) S P I J n) (hf : ¬ ((0 ≤ x.toInt ∧ x.toInt ≤ 40) ∧ (0 ≤ y.toInt ∧ y.toInt ≤ 40) ∧ (0 ≤ z.toInt ∧ z.toInt ≤ 40)) → K (some (.int (nI 0))) S P I J n) : x_Call f_X12_isPlace [.int x, .int y, .int z] K S P I J n := by
  refine x_intro (by decide) 0 (ls := [_, _, _]) rfl (Nat.le_of_ble_eq_true rfl) ?_
  refine v_iload_n d_X12_isPlace_0 rfl ?_
  refine v_iconst (v := nI 0) d_X12_isPlace_1 x_ic_0 ?_
  refine v_bipush (v := nI 40) d_X12_isPlace_2 x_bp_40 ?_
  refine v_cs (as := [_, _, _]) (rest := []) d_X12_isPlace_4 ls_X12_90 rfl ⟨by decide, by decide⟩ rfl (Nat.le_of_ble_eq_true rfl) (by decide) (by decide) ?_
  refine t_X12_within (x_ti (k := 0) (by decide)) (x_ti (k := 40) (by decide)) (fun q1 => ?_) (fun q1 => ?_)
  · refine w_if_eq d_X12_isPlace_7 (fun h7 => absurd h7 (by decide)) (fun _ => ?_)
    refine v_iload_n d_X12_isPlace_10 rfl ?_
    refine v_iconst (v := nI 0) d_X12_isPlace_11 x_ic_0 ?_
    refine v_bipush (v := nI 40) d_X12_isPlace_12 x_bp_40 ?_
    refine v_cs (as := [_, _, _]) (rest := []) d_X12_isPlace_14 ls_X12_90 rfl ⟨by decide, by decide⟩ rfl (Nat.le_of_ble_eq_true rfl) (by decide) (by decide) ?_
    refine t_X12_within (x_ti (k := 0) (by decide)) (x_ti (k := 40) (by decide)) (fun q2 => ?_) (fun q2 => ?_)
    · refine w_if_eq d_X12_isPlace_17 (fun h17 => absurd h17 (by decide)) (fun _ => ?_)
      refine v_iload_n d_X12_isPlace_20 rfl ?_
      refine v_iconst (v := nI 0) d_X12_isPlace_21 x_ic_0 ?_
      refine v_bipush (v := nI 40) d_X12_isPlace_22 x_bp_40 ?_
      refine v_cs (as := [_, _, _]) (rest := []) d_X12_isPlace_24 ls_X12_90 rfl ⟨by decide, by decide⟩ rfl (Nat.le_of_ble_eq_true rfl) (by decide) (by decide) ?_
      refine t_X12_within (x_ti (k := 0) (by decide)) (x_ti (k := 40) (by decide)) (fun q3 => ?_) (fun q3 => ?_)
      · refine w_if_eq d_X12_isPlace_27 (fun h27 => absurd h27 (by decide)) (fun _ => ?_)
        refine v_iconst (v := nI 1) d_X12_isPlace_30 x_ic_1 ?_
        refine v_goto d_X12_isPlace_31 ?_
        refine v_ret (v := some (.int _)) d_X12_isPlace_35 rfl ⟨rfl, _, rfl, rfl⟩ (by decide) (by decide) ?_
        exact ht (by omega)
      · refine w_if_eq d_X12_isPlace_27 (fun _ => ?_) (fun h27 => absurd h27 (by decide))
        refine v_iconst (v := nI 0) d_X12_isPlace_34 x_ic_0 ?_
        refine v_ret (v := some (.int _)) d_X12_isPlace_35 rfl ⟨rfl, _, rfl, rfl⟩ (by decide) (by decide) ?_
        exact hf (by omega)
    · refine w_if_eq d_X12_isPlace_17 (fun _ => ?_) (fun h17 => absurd h17 (by decide))
      refine v_iconst (v := nI 0) d_X12_isPlace_34 x_ic_0 ?_
      refine v_ret (v := some (.int _)) d_X12_isPlace_35 rfl ⟨rfl, _, rfl, rfl⟩ (by decide) (by decide) ?_
      exact hf (by omega)
  · refine w_if_eq d_X12_isPlace_7 (fun _ => ?_) (fun h7 => absurd h7 (by decide))
    refine v_iconst (v := nI 0) d_X12_isPlace_34 x_ic_0 ?_
    refine v_ret (v := some (.int _)) d_X12_isPlace_35 rfl ⟨rfl, _, rfl, rfl⟩ (by decide) (by decide) ?_
    exact hf (by omega)

