set_option maxRecDepth 100000 in
set_option maxHeartbeats 4000000 in
theorem t_X12_within {K : x_K} {S : x_S} {P : x_P} {I : x_I} {J : x_J} {n : Nat} {v lo hi : Int32} {a b : Int} (ha : lo.toInt = a) (hb : hi.toInt = b) (ht : a ≤ v.toInt ∧ v.toInt ≤ b → K (some (.int (nI 1))) S P I J n) (hf : ¬ (a ≤ v.toInt ∧ v.toInt ≤ b) → K (some (.int (nI 0))) S P I J n) : x_Call f_X12_within [.int v, .int lo, .int hi] K S P I J n := by
  refine x_intro (by decide) 0 (ls := [_, _, _]) rfl (Nat.le_of_ble_eq_true rfl) ?_
  refine v_iload_n d_X12_within_0 rfl ?_
  refine v_iload_n d_X12_within_1 rfl ?_
  refine w_icmp_lt d_X12_within_2 (fun h2 => ?_) (fun h2 => ?_)
  · try simp (disch := omega) only [x_ti, x_tm1] at h2
    refine v_iconst (v := nI 0) d_X12_within_14 x_ic_0 ?_
    refine v_ret (v := some (.int _)) d_X12_within_15 rfl ⟨rfl, _, rfl, rfl⟩ (by decide) (by decide) ?_
    exact hf (by omega)
  · try simp (disch := omega) only [x_ti, x_tm1] at h2
    refine v_iload_n d_X12_within_5 rfl ?_
    refine v_iload_n d_X12_within_6 rfl ?_
    refine w_icmp_gt d_X12_within_7 (fun h7 => ?_) (fun h7 => ?_)
    · try simp (disch := omega) only [x_ti, x_tm1] at h7
      refine v_iconst (v := nI 0) d_X12_within_14 x_ic_0 ?_
      refine v_ret (v := some (.int _)) d_X12_within_15 rfl ⟨rfl, _, rfl, rfl⟩ (by decide) (by decide) ?_
      exact hf (by omega)
    · try simp (disch := omega) only [x_ti, x_tm1] at h7
      refine v_iconst (v := nI 1) d_X12_within_10 x_ic_1 ?_
      refine v_goto d_X12_within_11 ?_
      refine v_ret (v := some (.int _)) d_X12_within_15 rfl ⟨rfl, _, rfl, rfl⟩ (by decide) (by decide) ?_
      exact ht (by omega)

set_option maxRecDepth 100000 in
set_option maxHeartbeats 4000000 in
theorem t_X12_isEye {K : x_K} {S : x_S} {P : x_P} {I : x_I} {J : x_J} {n : Nat} {v : Int32} (ht : 0 ≤ v.toInt ∧ v.toInt ≤ 3 → K (some (.int (nI 1))) S P I J n) (hf : ¬ (0 ≤ v.toInt ∧ v.toInt ≤ 3) → K (some (.int (nI 0))) S P I J n) : x_Call f_X12_isEye [.int v] K S P I J n := by
  refine x_intro (by decide) 0 (ls := [_]) rfl (Nat.le_of_ble_eq_true rfl) ?_
  refine v_iload_n d_X12_isEye_0 rfl ?_
  refine v_iconst (v := nI 0) d_X12_isEye_1 x_ic_0 ?_
  refine v_iconst (v := nI 3) d_X12_isEye_2 x_ic_3 ?_
  refine v_cs (as := [_, _, _]) (rest := []) d_X12_isEye_3 ls_X12_90 rfl ⟨by decide, by decide⟩ rfl (Nat.le_of_ble_eq_true rfl) (by decide) (by decide) ?_
  refine t_X12_within (x_ti (k := 0) (by decide)) (x_ti (k := 3) (by decide)) (fun q => ?_) (fun q => ?_)
  · refine v_ret (v := some (.int _)) d_X12_isEye_6 rfl ⟨rfl, _, rfl, rfl⟩ (by decide) (by decide) ?_
    exact ht (by omega)
  · refine v_ret (v := some (.int _)) d_X12_isEye_6 rfl ⟨rfl, _, rfl, rfl⟩ (by decide) (by decide) ?_
    exact hf (by omega)

set_option maxRecDepth 100000 in
set_option maxHeartbeats 4000000 in
theorem t_X12_isSheet {K : x_K} {S : x_S} {P : x_P} {I : x_I} {J : x_J} {n : Nat} {v : Int32} (ht : 0 ≤ v.toInt ∧ v.toInt ≤ 3 → K (some (.int (nI 1))) S P I J n) (hf : ¬ (0 ≤ v.toInt ∧ v.toInt ≤ 3) → K (some (.int (nI 0))) S P I J n) : x_Call f_X12_isSheet [.int v] K S P I J n := by
  refine x_intro (by decide) 0 (ls := [_]) rfl (Nat.le_of_ble_eq_true rfl) ?_
  refine v_iload_n d_X12_isSheet_0 rfl ?_
  refine v_iconst (v := nI 0) d_X12_isSheet_1 x_ic_0 ?_
  refine v_iconst (v := nI 3) d_X12_isSheet_2 x_ic_3 ?_
  refine v_cs (as := [_, _, _]) (rest := []) d_X12_isSheet_3 ls_X12_90 rfl ⟨by decide, by decide⟩ rfl (Nat.le_of_ble_eq_true rfl) (by decide) (by decide) ?_
  refine t_X12_within (x_ti (k := 0) (by decide)) (x_ti (k := 3) (by decide)) (fun q => ?_) (fun q => ?_)
  · refine v_ret (v := some (.int _)) d_X12_isSheet_6 rfl ⟨rfl, _, rfl, rfl⟩ (by decide) (by decide) ?_
    exact ht (by omega)
  · refine v_ret (v := some (.int _)) d_X12_isSheet_6 rfl ⟨rfl, _, rfl, rfl⟩ (by decide) (by decide) ?_
    exact hf (by omega)

set_option maxRecDepth 100000 in
set_option maxHeartbeats 4000000 in
theorem t_X12_isLane {K : x_K} {S : x_S} {P : x_P} {I : x_I} {J : x_J} {n : Nat} {v : Int32} (ht : 0 ≤ v.toInt ∧ v.toInt ≤ 2 → K (some (.int (nI 1))) S P I J n) (hf : ¬ (0 ≤ v.toInt ∧ v.toInt ≤ 2) → K (some (.int (nI 0))) S P I J n) : x_Call f_X12_isLane [.int v] K S P I J n := by
  refine x_intro (by decide) 0 (ls := [_]) rfl (Nat.le_of_ble_eq_true rfl) ?_
  refine v_iload_n d_X12_isLane_0 rfl ?_
  refine v_iconst (v := nI 0) d_X12_isLane_1 x_ic_0 ?_
  refine v_iconst (v := nI 2) d_X12_isLane_2 x_ic_2 ?_
  refine v_cs (as := [_, _, _]) (rest := []) d_X12_isLane_3 ls_X12_90 rfl ⟨by decide, by decide⟩ rfl (Nat.le_of_ble_eq_true rfl) (by decide) (by decide) ?_
  refine t_X12_within (x_ti (k := 0) (by decide)) (x_ti (k := 2) (by decide)) (fun q => ?_) (fun q => ?_)
  · refine v_ret (v := some (.int _)) d_X12_isLane_6 rfl ⟨rfl, _, rfl, rfl⟩ (by decide) (by decide) ?_
    exact ht (by omega)
  · refine v_ret (v := some (.int _)) d_X12_isLane_6 rfl ⟨rfl, _, rfl, rfl⟩ (by decide) (by decide) ?_
    exact hf (by omega)

set_option maxRecDepth 100000 in
set_option maxHeartbeats 4000000 in
theorem t_X12_areEyes {K : x_K} {S : x_S} {P : x_P} {I : x_I} {J : x_J} {n : Nat} {v : Int32} (ht : 0 ≤ v.toInt ∧ v.toInt ≤ 15 → K (some (.int (nI 1))) S P I J n) (hf : ¬ (0 ≤ v.toInt ∧ v.toInt ≤ 15) → K (some (.int (nI 0))) S P I J n) : x_Call f_X12_areEyes [.int v] K S P I J n := by
  refine x_intro (by decide) 0 (ls := [_]) rfl (Nat.le_of_ble_eq_true rfl) ?_
  refine v_iload_n d_X12_areEyes_0 rfl ?_
  refine v_iconst (v := nI 0) d_X12_areEyes_1 x_ic_0 ?_
  refine v_bipush (v := nI 15) d_X12_areEyes_2 x_bp_15 ?_
  refine v_cs (as := [_, _, _]) (rest := []) d_X12_areEyes_4 ls_X12_90 rfl ⟨by decide, by decide⟩ rfl (Nat.le_of_ble_eq_true rfl) (by decide) (by decide) ?_
  refine t_X12_within (x_ti (k := 0) (by decide)) (x_ti (k := 15) (by decide)) (fun q => ?_) (fun q => ?_)
  · refine v_ret (v := some (.int _)) d_X12_areEyes_7 rfl ⟨rfl, _, rfl, rfl⟩ (by decide) (by decide) ?_
    exact ht (by omega)
  · refine v_ret (v := some (.int _)) d_X12_areEyes_7 rfl ⟨rfl, _, rfl, rfl⟩ (by decide) (by decide) ?_
    exact hf (by omega)

set_option maxRecDepth 100000 in
set_option maxHeartbeats 4000000 in
theorem t_X12_isPlace {K : x_K} {S : x_S} {P : x_P} {I : x_I} {J : x_J} {n : Nat} {x y z : Int32} (ht : (0 ≤ x.toInt ∧ x.toInt ≤ 40) ∧ (0 ≤ y.toInt ∧ y.toInt ≤ 40) ∧ (0 ≤ z.toInt ∧ z.toInt ≤ 40) → K (some (.int (nI 1))) S P I J n) (hf : ¬ ((0 ≤ x.toInt ∧ x.toInt ≤ 40) ∧ (0 ≤ y.toInt ∧ y.toInt ≤ 40) ∧ (0 ≤ z.toInt ∧ z.toInt ≤ 40)) → K (some (.int (nI 0))) S P I J n) : x_Call f_X12_isPlace [.int x, .int y, .int z] K S P I J n := by
  refine x_intro (by decide) 0 (ls := [_, _, _]) rfl (Nat.le_of_ble_eq_true rfl) ?_
  refine v_iload_n d_X12_isPlace_0 rfl ?_
  refine v_iconst (v := nI 0) d_X12_isPlace_1 x_ic_0 ?_
  refine v_bipush (v := nI 40) d_X12_isPlace_2 x_bp_40 ?_
  refine v_cs (as := [_, _, _]) (rest := []) d_X12_isPlace_4 ls_X12_90 rfl ⟨by decide, by decide⟩ rfl (Nat.le_of_ble_eq_true rfl) (by decide) (by decide) ?_
  refine t_X12_within (x_ti (k := 0) (by decide)) (x_ti (k := 40) (by decide)) (fun q1 => ?_) (fun q1 => ?_)
  · refine w_if_eq d_X12_isPlace_7 (fun h7 => absurd h7 (by decide)) (fun _ => ?_)
    refine v_iload_n d_X12_isPlace_10 rfl ?_
    refine v_iconst (v := nI 0) d_X12_isPlace_11 x_ic_0 ?_
    refine v_bipush (v := nI 40) d_X12_isPlace_12 x_bp_40 ?_
    refine v_cs (as := [_, _, _]) (rest := []) d_X12_isPlace_14 ls_X12_90 rfl ⟨by decide, by decide⟩ rfl (Nat.le_of_ble_eq_true rfl) (by decide) (by decide) ?_
    refine t_X12_within (x_ti (k := 0) (by decide)) (x_ti (k := 40) (by decide)) (fun q2 => ?_) (fun q2 => ?_)
    · refine w_if_eq d_X12_isPlace_17 (fun h17 => absurd h17 (by decide)) (fun _ => ?_)
      refine v_iload_n d_X12_isPlace_20 rfl ?_
      refine v_iconst (v := nI 0) d_X12_isPlace_21 x_ic_0 ?_
      refine v_bipush (v := nI 40) d_X12_isPlace_22 x_bp_40 ?_
      refine v_cs (as := [_, _, _]) (rest := []) d_X12_isPlace_24 ls_X12_90 rfl ⟨by decide, by decide⟩ rfl (Nat.le_of_ble_eq_true rfl) (by decide) (by decide) ?_
      refine t_X12_within (x_ti (k := 0) (by decide)) (x_ti (k := 40) (by decide)) (fun q3 => ?_) (fun q3 => ?_)
      · refine w_if_eq d_X12_isPlace_27 (fun h27 => absurd h27 (by decide)) (fun _ => ?_)
        refine v_iconst (v := nI 1) d_X12_isPlace_30 x_ic_1 ?_
        refine v_goto d_X12_isPlace_31 ?_
        refine v_ret (v := some (.int _)) d_X12_isPlace_35 rfl ⟨rfl, _, rfl, rfl⟩ (by decide) (by decide) ?_
        exact ht (by omega)
      · refine w_if_eq d_X12_isPlace_27 (fun _ => ?_) (fun h27 => absurd h27 (by decide))
        refine v_iconst (v := nI 0) d_X12_isPlace_34 x_ic_0 ?_
        refine v_ret (v := some (.int _)) d_X12_isPlace_35 rfl ⟨rfl, _, rfl, rfl⟩ (by decide) (by decide) ?_
        exact hf (by omega)
    · refine w_if_eq d_X12_isPlace_17 (fun _ => ?_) (fun h17 => absurd h17 (by decide))
      refine v_iconst (v := nI 0) d_X12_isPlace_34 x_ic_0 ?_
      refine v_ret (v := some (.int _)) d_X12_isPlace_35 rfl ⟨rfl, _, rfl, rfl⟩ (by decide) (by decide) ?_
      exact hf (by omega)
  · refine w_if_eq d_X12_isPlace_7 (fun _ => ?_) (fun h7 => absurd h7 (by decide))
    refine v_iconst (v := nI 0) d_X12_isPlace_34 x_ic_0 ?_
    refine v_ret (v := some (.int _)) d_X12_isPlace_35 rfl ⟨rfl, _, rfl, rfl⟩ (by decide) (by decide) ?_
    exact hf (by omega)

set_option maxRecDepth 100000 in
set_option maxHeartbeats 4000000 in
theorem t_X12_isFlat {K : x_K} {S : x_S} {P : x_P} {I : x_I} {J : x_J} {n : Nat} {a c u v w h : Int32} (ht : m_isf a.toInt c.toInt u.toInt v.toInt w.toInt h.toInt → K (some (.int (nI 1))) S P I J n) (hf : ¬ (m_isf a.toInt c.toInt u.toInt v.toInt w.toInt h.toInt) → K (some (.int (nI 0))) S P I J n) : x_Call f_X12_isFlat [.int a, .int c, .int u, .int v, .int w, .int h] K S P I J n := by
  refine x_intro (by decide) 0 (ls := [_, _, _, _, _, _]) rfl (Nat.le_of_ble_eq_true rfl) ?_
  refine v_iload_n d_X12_isFlat_0 rfl ?_
  refine v_iconst (v := nI 0) d_X12_isFlat_1 x_ic_0 ?_
  refine v_iconst (v := nI 2) d_X12_isFlat_2 x_ic_2 ?_
  refine v_cs (as := [_, _, _]) (rest := []) d_X12_isFlat_3 ls_X12_90 rfl ⟨by decide, by decide⟩ rfl (Nat.le_of_ble_eq_true rfl) (by decide) (by decide) ?_
  refine t_X12_within (x_ti (k := 0) (by decide)) (x_ti (k := 2) (by decide)) (fun q1 => ?_) (fun q1 => ?_)
  · refine w_if_eq d_X12_isFlat_6 (fun h6 => absurd h6 (by decide)) (fun _ => ?_)
    refine v_iload_n d_X12_isFlat_9 rfl ?_
    refine v_iconst (v := nI 0) d_X12_isFlat_10 x_ic_0 ?_
    refine v_bipush (v := nI 40) d_X12_isFlat_11 x_bp_40 ?_
    refine v_cs (as := [_, _, _]) (rest := []) d_X12_isFlat_13 ls_X12_90 rfl ⟨by decide, by decide⟩ rfl (Nat.le_of_ble_eq_true rfl) (by decide) (by decide) ?_
    refine t_X12_within (x_ti (k := 0) (by decide)) (x_ti (k := 40) (by decide)) (fun q2 => ?_) (fun q2 => ?_)
    · refine w_if_eq d_X12_isFlat_16 (fun h16 => absurd h16 (by decide)) (fun _ => ?_)
      refine v_iload d_X12_isFlat_19 rfl ?_
      refine v_iconst (v := nI 1) d_X12_isFlat_21 x_ic_1 ?_
      refine v_bipush (v := nI 8) d_X12_isFlat_22 x_bp_8 ?_
      refine v_cs (as := [_, _, _]) (rest := []) d_X12_isFlat_24 ls_X12_90 rfl ⟨by decide, by decide⟩ rfl (Nat.le_of_ble_eq_true rfl) (by decide) (by decide) ?_
      refine t_X12_within (x_ti (k := 1) (by decide)) (x_ti (k := 8) (by decide)) (fun q3 => ?_) (fun q3 => ?_)
      · refine w_if_eq d_X12_isFlat_27 (fun h27 => absurd h27 (by decide)) (fun _ => ?_)
        refine v_iload d_X12_isFlat_30 rfl ?_
        refine v_iconst (v := nI 1) d_X12_isFlat_32 x_ic_1 ?_
        refine v_bipush (v := nI 8) d_X12_isFlat_33 x_bp_8 ?_
        refine v_cs (as := [_, _, _]) (rest := []) d_X12_isFlat_35 ls_X12_90 rfl ⟨by decide, by decide⟩ rfl (Nat.le_of_ble_eq_true rfl) (by decide) (by decide) ?_
        refine t_X12_within (x_ti (k := 1) (by decide)) (x_ti (k := 8) (by decide)) (fun q4 => ?_) (fun q4 => ?_)
        · refine w_if_eq d_X12_isFlat_38 (fun h38 => absurd h38 (by decide)) (fun _ => ?_)
          refine v_iload_n d_X12_isFlat_41 rfl ?_
          refine v_iconst (v := nI 0) d_X12_isFlat_42 x_ic_0 ?_
          refine v_bipush (v := nI 40) d_X12_isFlat_43 x_bp_40 ?_
          refine v_iload d_X12_isFlat_45 rfl ?_
          refine v_isub d_X12_isFlat_47 ?_
          refine v_cs (as := [_, _, _]) (rest := []) d_X12_isFlat_48 ls_X12_90 rfl ⟨by decide, by decide⟩ rfl (Nat.le_of_ble_eq_true rfl) (by decide) (by decide) ?_
          refine t_X12_within (x_ti (k := 0) (by decide)) (x_s40 q3) (fun q5 => ?_) (fun q5 => ?_)
          · refine w_if_eq d_X12_isFlat_51 (fun h51 => absurd h51 (by decide)) (fun _ => ?_)
            refine v_iload_n d_X12_isFlat_54 rfl ?_
            refine v_iconst (v := nI 0) d_X12_isFlat_55 x_ic_0 ?_
            refine v_bipush (v := nI 40) d_X12_isFlat_56 x_bp_40 ?_
            refine v_iload d_X12_isFlat_58 rfl ?_
            refine v_isub d_X12_isFlat_60 ?_
            refine v_cs (as := [_, _, _]) (rest := []) d_X12_isFlat_61 ls_X12_90 rfl ⟨by decide, by decide⟩ rfl (Nat.le_of_ble_eq_true rfl) (by decide) (by decide) ?_
            refine t_X12_within (x_ti (k := 0) (by decide)) (x_s40 q4) (fun q6 => ?_) (fun q6 => ?_)
            · refine w_if_eq d_X12_isFlat_64 (fun h64 => absurd h64 (by decide)) (fun _ => ?_)
              refine v_iconst (v := nI 1) d_X12_isFlat_67 x_ic_1 ?_
              refine v_goto d_X12_isFlat_68 ?_
              refine v_ret (v := some (.int _)) d_X12_isFlat_72 rfl ⟨rfl, _, rfl, rfl⟩ (by decide) (by decide) ?_
              exact ht (by unfold m_isf; omega)
            · refine w_if_eq d_X12_isFlat_64 (fun _ => ?_) (fun h64 => absurd h64 (by decide))
              refine v_iconst (v := nI 0) d_X12_isFlat_71 x_ic_0 ?_
              refine v_ret (v := some (.int _)) d_X12_isFlat_72 rfl ⟨rfl, _, rfl, rfl⟩ (by decide) (by decide) ?_
              exact hf (by unfold m_isf; omega)
          · refine w_if_eq d_X12_isFlat_51 (fun _ => ?_) (fun h51 => absurd h51 (by decide))
            refine v_iconst (v := nI 0) d_X12_isFlat_71 x_ic_0 ?_
            refine v_ret (v := some (.int _)) d_X12_isFlat_72 rfl ⟨rfl, _, rfl, rfl⟩ (by decide) (by decide) ?_
            exact hf (by unfold m_isf; omega)
        · refine w_if_eq d_X12_isFlat_38 (fun _ => ?_) (fun h38 => absurd h38 (by decide))
          refine v_iconst (v := nI 0) d_X12_isFlat_71 x_ic_0 ?_
          refine v_ret (v := some (.int _)) d_X12_isFlat_72 rfl ⟨rfl, _, rfl, rfl⟩ (by decide) (by decide) ?_
          exact hf (by unfold m_isf; omega)
      · refine w_if_eq d_X12_isFlat_27 (fun _ => ?_) (fun h27 => absurd h27 (by decide))
        refine v_iconst (v := nI 0) d_X12_isFlat_71 x_ic_0 ?_
        refine v_ret (v := some (.int _)) d_X12_isFlat_72 rfl ⟨rfl, _, rfl, rfl⟩ (by decide) (by decide) ?_
        exact hf (by unfold m_isf; omega)
    · refine w_if_eq d_X12_isFlat_16 (fun _ => ?_) (fun h16 => absurd h16 (by decide))
      refine v_iconst (v := nI 0) d_X12_isFlat_71 x_ic_0 ?_
      refine v_ret (v := some (.int _)) d_X12_isFlat_72 rfl ⟨rfl, _, rfl, rfl⟩ (by decide) (by decide) ?_
      exact hf (by unfold m_isf; omega)
  · refine w_if_eq d_X12_isFlat_6 (fun _ => ?_) (fun h6 => absurd h6 (by decide))
    refine v_iconst (v := nI 0) d_X12_isFlat_71 x_ic_0 ?_
    refine v_ret (v := some (.int _)) d_X12_isFlat_72 rfl ⟨rfl, _, rfl, rfl⟩ (by decide) (by decide) ?_
    exact hf (by unfold m_isf; omega)

set_option maxRecDepth 100000 in
set_option maxHeartbeats 4000000 in
theorem t_X12_fails {K : x_K} {S : x_S} {P : x_P} {I : x_I} {J : x_J} {n : Nat} {x : Int32} (hS : x_hS S) (hP : x_hP P) (hK : K (some (.int (-10 - x))) S P (x_u2 I 39 0 x) J n) : x_Call f_X12_fails [.ref 39, .int x] K S P I J n := by
  refine x_intro (by decide) 0 (ls := [_, _]) rfl (Nat.le_of_ble_eq_true rfl) ?_
  refine v_aload_n d_X12_fails_0 rfl ?_
  refine v_iload_n d_X12_fails_1 rfl ?_
  refine v_pi d_X12_fails_2 (lp_X12_85_12 _) rfl (hS _ _ rfl) (rfl) rfl ?_
  refine v_bipush (v := (-10)) d_X12_fails_5 x_bp_m10 ?_
  refine v_iload_n d_X12_fails_7 rfl ?_
  refine v_isub d_X12_fails_8 ?_
  refine v_ret (v := some (.int _)) d_X12_fails_9 rfl ⟨rfl, _, rfl, rfl⟩ (by decide) (by decide) ?_
  exact hK

set_option maxRecDepth 100000 in
set_option maxHeartbeats 4000000 in
theorem t_X12_lost {K : x_K} {S : x_S} {P : x_P} {I : x_I} {J : x_J} {n : Nat} {x : Int32} (hS : x_hS S) (hP : x_hP P) (hK : K (some (.long (-9223372036854775808))) S P (x_u2 I 39 0 x) J n) : x_Call f_X12_lost [.ref 39, .int x] K S P I J n := by
  refine x_intro (by decide) 0 (ls := [_, _]) rfl (Nat.le_of_ble_eq_true rfl) ?_
  refine v_aload_n d_X12_lost_0 rfl ?_
  refine v_iload_n d_X12_lost_1 rfl ?_
  refine v_pi d_X12_lost_2 (lp_X12_85_12 _) rfl (hS _ _ rfl) (rfl) rfl ?_
  refine v_ldc2 d_X12_lost_5 lk_X12_88 ?_
  refine v_ret (v := some (.long _)) d_X12_lost_8 rfl ⟨rfl, rfl⟩ (by decide) (by decide) ?_
  exact hK

set_option maxRecDepth 100000 in
set_option maxHeartbeats 4000000 in
theorem t_X12_begins {K : x_K} {S : x_S} {P : x_P} {I : x_I} {J : x_J} {n : Nat} {x : Int32} (hS : x_hS S) (hP : x_hP P) (hK : K none S P (x_u2 I 39 1 (nI 31 * I 39 1 + x)) J n) : x_Call f_X12_begins [.ref 39, .int x] K S P I J n := by
  refine x_intro (by decide) 0 (ls := [_, _]) rfl (Nat.le_of_ble_eq_true rfl) ?_
  refine v_aload_n d_X12_begins_0 rfl ?_
  refine v_bipush (v := nI 31) d_X12_begins_1 x_bp_31 ?_
  refine v_aload_n d_X12_begins_3 rfl ?_
  refine v_gi d_X12_begins_4 lf_X12_272_12 rfl (hS _ _ rfl) ?_
  refine v_imul d_X12_begins_7 ?_
  refine v_iload_n d_X12_begins_8 rfl ?_
  refine v_iadd d_X12_begins_9 ?_
  refine v_pi d_X12_begins_10 (lp_X12_272_12 _) rfl (hS _ _ rfl) (rfl) rfl ?_
  refine v_ret (v := none) d_X12_begins_13 rfl ⟨rfl, rfl⟩ (by decide) (by decide) ?_
  exact hK

set_option maxRecDepth 100000 in
set_option maxHeartbeats 4000000 in
theorem t_X12_layFlat {K : x_K} {S : x_S} {P : x_P} {I : x_I} {J : x_J} {n : Nat} {s a c u v w h : Int32} (k : Nat) (hs : s = nI k) (hk : k < 11) (hS : x_hS S) (hP : x_hP P) (hK : K none S P (m_lay I k a c u v w h) J n) : x_Call f_X12_layFlat [.ref 39, .int s, .int a, .int c, .int u, .int v, .int w, .int h] K S P I J n := by
  subst hs
  refine x_intro (by decide) 0 (ls := [_, _, _, _, _, _, _, _]) rfl (Nat.le_of_ble_eq_true rfl) ?_
  refine v_aload_n d_X12_layFlat_0 rfl ?_
  refine v_gr d_X12_layFlat_1 lf_X12_13_12 rfl (hS _ _ rfl) (hP _ _ _ rfl) ?_
  refine v_bipush (v := nI 6) d_X12_layFlat_4 x_bp_6 ?_
  refine v_iload_n d_X12_layFlat_6 rfl ?_
  first | refine v_imulN d_X12_layFlat_7 ?_ | refine v_imul d_X12_layFlat_7 ?_
  refine v_iload_n d_X12_layFlat_8 rfl ?_
  refine v_iast _ d_X12_layFlat_9 (rfl) (hS _ _ rfl) (⟨by omega, by omega⟩) ?_
  refine v_aload_n d_X12_layFlat_10 rfl ?_
  refine v_gr d_X12_layFlat_11 lf_X12_13_12 rfl (hS _ _ rfl) (hP _ _ _ rfl) ?_
  refine v_bipush (v := nI 6) d_X12_layFlat_14 x_bp_6 ?_
  refine v_iload_n d_X12_layFlat_16 rfl ?_
  first | refine v_imulN d_X12_layFlat_17 ?_ | refine v_imul d_X12_layFlat_17 ?_
  refine v_iconst (v := nI 1) d_X12_layFlat_18 x_ic_1 ?_
  first | refine v_iaddN d_X12_layFlat_19 ?_ | refine v_iadd d_X12_layFlat_19 ?_
  refine v_iload_n d_X12_layFlat_20 rfl ?_
  refine v_iast _ d_X12_layFlat_21 (rfl) (hS _ _ rfl) (⟨by omega, by omega⟩) ?_
  refine v_aload_n d_X12_layFlat_22 rfl ?_
  refine v_gr d_X12_layFlat_23 lf_X12_13_12 rfl (hS _ _ rfl) (hP _ _ _ rfl) ?_
  refine v_bipush (v := nI 6) d_X12_layFlat_26 x_bp_6 ?_
  refine v_iload_n d_X12_layFlat_28 rfl ?_
  first | refine v_imulN d_X12_layFlat_29 ?_ | refine v_imul d_X12_layFlat_29 ?_
  refine v_iconst (v := nI 2) d_X12_layFlat_30 x_ic_2 ?_
  first | refine v_iaddN d_X12_layFlat_31 ?_ | refine v_iadd d_X12_layFlat_31 ?_
  refine v_iload d_X12_layFlat_32 rfl ?_
  refine v_iast _ d_X12_layFlat_34 (rfl) (hS _ _ rfl) (⟨by omega, by omega⟩) ?_
  refine v_aload_n d_X12_layFlat_35 rfl ?_
  refine v_gr d_X12_layFlat_36 lf_X12_13_12 rfl (hS _ _ rfl) (hP _ _ _ rfl) ?_
  refine v_bipush (v := nI 6) d_X12_layFlat_39 x_bp_6 ?_
  refine v_iload_n d_X12_layFlat_41 rfl ?_
  first | refine v_imulN d_X12_layFlat_42 ?_ | refine v_imul d_X12_layFlat_42 ?_
  refine v_iconst (v := nI 3) d_X12_layFlat_43 x_ic_3 ?_
  first | refine v_iaddN d_X12_layFlat_44 ?_ | refine v_iadd d_X12_layFlat_44 ?_
  refine v_iload d_X12_layFlat_45 rfl ?_
  refine v_iast _ d_X12_layFlat_47 (rfl) (hS _ _ rfl) (⟨by omega, by omega⟩) ?_
  refine v_aload_n d_X12_layFlat_48 rfl ?_
  refine v_gr d_X12_layFlat_49 lf_X12_13_12 rfl (hS _ _ rfl) (hP _ _ _ rfl) ?_
  refine v_bipush (v := nI 6) d_X12_layFlat_52 x_bp_6 ?_
  refine v_iload_n d_X12_layFlat_54 rfl ?_
  first | refine v_imulN d_X12_layFlat_55 ?_ | refine v_imul d_X12_layFlat_55 ?_
  refine v_iconst (v := nI 4) d_X12_layFlat_56 x_ic_4 ?_
  first | refine v_iaddN d_X12_layFlat_57 ?_ | refine v_iadd d_X12_layFlat_57 ?_
  refine v_iload d_X12_layFlat_58 rfl ?_
  refine v_iast _ d_X12_layFlat_60 (rfl) (hS _ _ rfl) (⟨by omega, by omega⟩) ?_
  refine v_aload_n d_X12_layFlat_61 rfl ?_
  refine v_gr d_X12_layFlat_62 lf_X12_13_12 rfl (hS _ _ rfl) (hP _ _ _ rfl) ?_
  refine v_bipush (v := nI 6) d_X12_layFlat_65 x_bp_6 ?_
  refine v_iload_n d_X12_layFlat_67 rfl ?_
  first | refine v_imulN d_X12_layFlat_68 ?_ | refine v_imul d_X12_layFlat_68 ?_
  refine v_iconst (v := nI 5) d_X12_layFlat_69 x_ic_5 ?_
  first | refine v_iaddN d_X12_layFlat_70 ?_ | refine v_iadd d_X12_layFlat_70 ?_
  refine v_iload d_X12_layFlat_71 rfl ?_
  refine v_iast _ d_X12_layFlat_73 (rfl) (hS _ _ rfl) (⟨by omega, by omega⟩) ?_
  refine v_ret (v := none) d_X12_layFlat_74 rfl ⟨rfl, rfl⟩ (by decide) (by decide) ?_
  exact hK

set_option maxRecDepth 100000 in
set_option maxHeartbeats 4000000 in
theorem t_X12_cellsOf {K : x_K} {S : x_S} {P : x_P} {I : x_I} {J : x_J} {n : Nat} {s : Int32} (k : Nat) (hs : s = nI k) (hk : k < 11) (hS : x_hS S) (hP : x_hP P) (hK : K (some (.int (I 41 (6 * k + 4) * I 41 (6 * k + 5)))) S P I J n) : x_Call f_X12_cellsOf [.ref 39, .int s] K S P I J n := by
  subst hs
  refine x_intro (by decide) 0 (ls := [_, _]) rfl (Nat.le_of_ble_eq_true rfl) ?_
  refine v_aload_n d_X12_cellsOf_0 rfl ?_
  refine v_gr d_X12_cellsOf_1 lf_X12_13_12 rfl (hS _ _ rfl) (hP _ _ _ rfl) ?_
  refine v_bipush (v := nI 6) d_X12_cellsOf_4 x_bp_6 ?_
  refine v_iload_n d_X12_cellsOf_6 rfl ?_
  first | refine v_imulN d_X12_cellsOf_7 ?_ | refine v_imul d_X12_cellsOf_7 ?_
  refine v_iconst (v := nI 4) d_X12_cellsOf_8 x_ic_4 ?_
  first | refine v_iaddN d_X12_cellsOf_9 ?_ | refine v_iadd d_X12_cellsOf_9 ?_
  refine v_iald _ d_X12_cellsOf_10 (rfl) (hS _ _ rfl) (⟨by omega, by omega⟩) (rfl) ?_
  refine v_aload_n d_X12_cellsOf_11 rfl ?_
  refine v_gr d_X12_cellsOf_12 lf_X12_13_12 rfl (hS _ _ rfl) (hP _ _ _ rfl) ?_
  refine v_bipush (v := nI 6) d_X12_cellsOf_15 x_bp_6 ?_
  refine v_iload_n d_X12_cellsOf_17 rfl ?_
  first | refine v_imulN d_X12_cellsOf_18 ?_ | refine v_imul d_X12_cellsOf_18 ?_
  refine v_iconst (v := nI 5) d_X12_cellsOf_19 x_ic_5 ?_
  first | refine v_iaddN d_X12_cellsOf_20 ?_ | refine v_iadd d_X12_cellsOf_20 ?_
  refine v_iald _ d_X12_cellsOf_21 (rfl) (hS _ _ rfl) (⟨by omega, by omega⟩) (rfl) ?_
  refine v_imul d_X12_cellsOf_22 ?_
  refine v_ret (v := some (.int _)) d_X12_cellsOf_23 rfl ⟨rfl, _, rfl, rfl⟩ (by decide) (by decide) ?_
  exact hK

set_option maxRecDepth 100000 in
set_option maxHeartbeats 4000000 in
theorem t_X12_isSurface {K : x_K} {S : x_S} {P : x_P} {I : x_I} {J : x_J} {n : Nat} {s : Int32} (hS : x_hS S) (hP : x_hP P) (ht : 0 ≤ s.toInt ∧ s.toInt < (I 39 2).toInt → K (some (.int (nI 1))) S P I J n) (hf : ¬ (0 ≤ s.toInt ∧ s.toInt < (I 39 2).toInt) → K (some (.int (nI 0))) S P I J n) : x_Call f_X12_isSurface [.ref 39, .int s] K S P I J n := by
  refine x_intro (by decide) 0 (ls := [_, _]) rfl (Nat.le_of_ble_eq_true rfl) ?_
  refine v_iload_n d_X12_isSurface_0 rfl ?_
  refine w_if_lt d_X12_isSurface_1 (fun h1 => ?_) (fun h1 => ?_)
  · try simp (disch := omega) only [x_ti, x_tm1] at h1
    refine v_iconst (v := nI 0) d_X12_isSurface_16 x_ic_0 ?_
    refine v_ret (v := some (.int _)) d_X12_isSurface_17 rfl ⟨rfl, _, rfl, rfl⟩ (by decide) (by decide) ?_
    exact hf (by omega)
  · try simp (disch := omega) only [x_ti, x_tm1] at h1
    refine v_iload_n d_X12_isSurface_4 rfl ?_
    refine v_aload_n d_X12_isSurface_5 rfl ?_
    refine v_gi d_X12_isSurface_6 lf_X12_94_12 rfl (hS _ _ rfl) ?_
    refine w_icmp_ge d_X12_isSurface_9 (fun h9 => ?_) (fun h9 => ?_)
    · try simp (disch := omega) only [x_ti, x_tm1] at h9
      refine v_iconst (v := nI 0) d_X12_isSurface_16 x_ic_0 ?_
      refine v_ret (v := some (.int _)) d_X12_isSurface_17 rfl ⟨rfl, _, rfl, rfl⟩ (by decide) (by decide) ?_
      exact hf (by omega)
    · try simp (disch := omega) only [x_ti, x_tm1] at h9
      refine v_iconst (v := nI 1) d_X12_isSurface_12 x_ic_1 ?_
      refine v_goto d_X12_isSurface_13 ?_
      refine v_ret (v := some (.int _)) d_X12_isSurface_17 rfl ⟨rfl, _, rfl, rfl⟩ (by decide) (by decide) ?_
      exact ht (by omega)

set_option maxRecDepth 100000 in
set_option maxHeartbeats 4000000 in
theorem t_X12_isHour {K : x_K} {S : x_S} {P : x_P} {I : x_I} {J : x_J} {n : Nat} {s : Int32} (hS : x_hS S) (hP : x_hP P) (ht : 0 ≤ s.toInt ∧ s.toInt < (I 39 24).toInt → K (some (.int (nI 1))) S P I J n) (hf : ¬ (0 ≤ s.toInt ∧ s.toInt < (I 39 24).toInt) → K (some (.int (nI 0))) S P I J n) : x_Call f_X12_isHour [.ref 39, .int s] K S P I J n := by
  refine x_intro (by decide) 0 (ls := [_, _]) rfl (Nat.le_of_ble_eq_true rfl) ?_
  refine v_iload_n d_X12_isHour_0 rfl ?_
  refine w_if_lt d_X12_isHour_1 (fun h1 => ?_) (fun h1 => ?_)
  · try simp (disch := omega) only [x_ti, x_tm1] at h1
    refine v_iconst (v := nI 0) d_X12_isHour_16 x_ic_0 ?_
    refine v_ret (v := some (.int _)) d_X12_isHour_17 rfl ⟨rfl, _, rfl, rfl⟩ (by decide) (by decide) ?_
    exact hf (by omega)
  · try simp (disch := omega) only [x_ti, x_tm1] at h1
    refine v_iload_n d_X12_isHour_4 rfl ?_
    refine v_aload_n d_X12_isHour_5 rfl ?_
    refine v_gi d_X12_isHour_6 lf_X12_229_12 rfl (hS _ _ rfl) ?_
    refine w_icmp_ge d_X12_isHour_9 (fun h9 => ?_) (fun h9 => ?_)
    · try simp (disch := omega) only [x_ti, x_tm1] at h9
      refine v_iconst (v := nI 0) d_X12_isHour_16 x_ic_0 ?_
      refine v_ret (v := some (.int _)) d_X12_isHour_17 rfl ⟨rfl, _, rfl, rfl⟩ (by decide) (by decide) ?_
      exact hf (by omega)
    · try simp (disch := omega) only [x_ti, x_tm1] at h9
      refine v_iconst (v := nI 1) d_X12_isHour_12 x_ic_1 ?_
      refine v_goto d_X12_isHour_13 ?_
      refine v_ret (v := some (.int _)) d_X12_isHour_17 rfl ⟨rfl, _, rfl, rfl⟩ (by decide) (by decide) ?_
      exact ht (by omega)

set_option maxRecDepth 100000 in
set_option maxHeartbeats 4000000 in
theorem t_X12_isCell {K : x_K} {S : x_S} {P : x_P} {I : x_I} {J : x_J} {n : Nat} {s c : Int32} (hn : (I 39 2).toInt ≤ 10) (hS : x_hS S) (hP : x_hP P) (ht : (0 ≤ s.toInt ∧ s.toInt < (I 39 2).toInt) ∧ 0 ≤ c.toInt ∧ c.toInt < m_ce I (x_k s) → K (some (.int (nI 1))) S P I J n) (hf : ¬ ((0 ≤ s.toInt ∧ s.toInt < (I 39 2).toInt) ∧ 0 ≤ c.toInt ∧ c.toInt < m_ce I (x_k s)) → K (some (.int (nI 0))) S P I J n) : x_Call f_X12_isCell [.ref 39, .int s, .int c] K S P I J n := by
  refine x_intro (by decide) 0 (ls := [_, _, _]) rfl (Nat.le_of_ble_eq_true rfl) ?_
  refine v_aload_n d_X12_isCell_0 rfl ?_
  refine v_iload_n d_X12_isCell_1 rfl ?_
  refine v_cv (as := [_]) (rest := []) d_X12_isCell_2 lv_X12_97_12 (hS _ _ rfl) rfl ⟨by decide, by decide⟩ rfl (Nat.le_of_ble_eq_true rfl) (by decide) (by decide) ?_
  refine t_X12_isSurface hS hP (fun q => ?_) (fun q => ?_)
  · refine w_if_eq d_X12_isCell_5 (fun h5 => absurd h5 (by decide)) (fun _ => ?_)
    refine v_iload_n d_X12_isCell_8 rfl ?_
    refine w_if_lt d_X12_isCell_9 (fun h9 => ?_) (fun h9 => ?_)
    · try simp (disch := omega) only [x_ti, x_tm1] at h9
      refine v_iconst (v := nI 0) d_X12_isCell_25 x_ic_0 ?_
      refine v_ret (v := some (.int _)) d_X12_isCell_26 rfl ⟨rfl, _, rfl, rfl⟩ (by decide) (by decide) ?_
      exact hf (by unfold m_ce; omega)
    · try simp (disch := omega) only [x_ti, x_tm1] at h9
      refine v_iload_n d_X12_isCell_12 rfl ?_
      refine v_aload_n d_X12_isCell_13 rfl ?_
      refine v_iload_n d_X12_isCell_14 rfl ?_
      refine v_cv (as := [_]) (rest := [_]) d_X12_isCell_15 lv_X12_101_12 (hS _ _ rfl) rfl ⟨by decide, by decide⟩ rfl (Nat.le_of_ble_eq_true rfl) (by decide) (by decide) ?_
      refine t_X12_cellsOf (x_k s) (x_of (by omega)) (by unfold x_k; omega) hS hP ?_
      refine w_icmp_ge d_X12_isCell_18 (fun h18 => ?_) (fun h18 => ?_)
      · try simp (disch := omega) only [x_ti, x_tm1] at h18
        refine v_iconst (v := nI 0) d_X12_isCell_25 x_ic_0 ?_
        refine v_ret (v := some (.int _)) d_X12_isCell_26 rfl ⟨rfl, _, rfl, rfl⟩ (by decide) (by decide) ?_
        exact hf (by unfold m_ce; omega)
      · try simp (disch := omega) only [x_ti, x_tm1] at h18
        refine v_iconst (v := nI 1) d_X12_isCell_21 x_ic_1 ?_
        refine v_goto d_X12_isCell_22 ?_
        refine v_ret (v := some (.int _)) d_X12_isCell_26 rfl ⟨rfl, _, rfl, rfl⟩ (by decide) (by decide) ?_
        exact ht ⟨q, by omega, by unfold m_ce; omega⟩
  · refine w_if_eq d_X12_isCell_5 (fun _ => ?_) (fun h5 => absurd h5 (by decide))
    refine v_iconst (v := nI 0) d_X12_isCell_25 x_ic_0 ?_
    refine v_ret (v := some (.int _)) d_X12_isCell_26 rfl ⟨rfl, _, rfl, rfl⟩ (by decide) (by decide) ?_
    exact hf (by unfold m_ce; omega)

set_option maxRecDepth 100000 in
set_option maxHeartbeats 4000000 in
theorem t_X12_needBoard {K : x_K} {S : x_S} {P : x_P} {I : x_I} {J : x_J} {n : Nat} (hS : x_hS S) (hP : x_hP P) (hK : K none S P (m_nb I) J n) : x_Call f_X12_needBoard [.ref 39] K S P I J n := by
  refine x_intro (by decide) 0 (ls := [_]) rfl (Nat.le_of_ble_eq_true rfl) ?_
  refine v_aload_n d_X12_needBoard_0 rfl ?_
  refine v_gi d_X12_needBoard_1 lf_X12_105_12 rfl (hS _ _ rfl) ?_
  refine w_if_ne d_X12_needBoard_4 (fun h4 => ?_) (fun h4 => ?_)
  · try simp (disch := omega) only [x_ti, x_tm1] at h4
    refine v_ret (v := none) d_X12_needBoard_25 rfl ⟨rfl, rfl⟩ (by decide) (by decide) ?_
    first | (rw [m_nb, if_pos (Int32.toInt_inj.mp h4)] at hK; exact hK) | (rw [m_nb, if_neg (fun q => h4 (by rw [q]; rfl))] at hK; exact hK)
  · try simp (disch := omega) only [x_ti, x_tm1] at h4
    refine v_aload_n d_X12_needBoard_7 rfl ?_
    refine v_iconst (v := nI 1) d_X12_needBoard_8 x_ic_1 ?_
    refine v_pi d_X12_needBoard_9 (lp_X12_105_12 _) rfl (hS _ _ rfl) (rfl) rfl ?_
    refine v_aload_n d_X12_needBoard_12 rfl ?_
    refine v_bipush (v := nI 10) d_X12_needBoard_13 x_bp_10 ?_
    refine v_iconst (v := nI 2) d_X12_needBoard_15 x_ic_2 ?_
    refine v_bipush (v := nI 20) d_X12_needBoard_16 x_bp_20 ?_
    refine v_iconst (v := nI 0) d_X12_needBoard_18 x_ic_0 ?_
    refine v_iconst (v := nI 0) d_X12_needBoard_19 x_ic_0 ?_
    refine v_iconst (v := nI 1) d_X12_needBoard_20 x_ic_1 ?_
    refine v_iconst (v := nI 1) d_X12_needBoard_21 x_ic_1 ?_
    refine v_cv (as := [_, _, _, _, _, _, _]) (rest := []) d_X12_needBoard_22 lv_X12_109_12 (hS _ _ rfl) rfl ⟨by decide, by decide⟩ rfl (Nat.le_of_ble_eq_true rfl) (by decide) (by decide) ?_
    refine t_X12_layFlat 10 rfl (by decide) hS hP ?_
    refine v_ret (v := none) d_X12_needBoard_25 rfl ⟨rfl, rfl⟩ (by decide) (by decide) ?_
    first | (rw [m_nb, if_pos (Int32.toInt_inj.mp h4)] at hK; exact hK) | (rw [m_nb, if_neg (fun q => h4 (by rw [q]; rfl))] at hK; exact hK)

set_option maxRecDepth 100000 in
set_option maxHeartbeats 4000000 in
theorem t_X12_boardCells {K : x_K} {S : x_S} {P : x_P} {I : x_I} {J : x_J} {n : Nat} (hS : x_hS S) (hP : x_hP P) (hK : K (some (.int (m_nb I 41 64 * m_nb I 41 65))) S P (m_nb I) J n) : x_Call f_X12_boardCells [.ref 39] K S P I J n := by
  refine x_intro (by decide) 0 (ls := [_]) rfl (Nat.le_of_ble_eq_true rfl) ?_
  refine v_aload_n d_X12_boardCells_0 rfl ?_
  refine v_cv (as := []) (rest := []) d_X12_boardCells_1 lv_X12_113_12 (hS _ _ rfl) rfl ⟨by decide, by decide⟩ rfl (Nat.le_of_ble_eq_true rfl) (by decide) (by decide) ?_
  refine t_X12_needBoard hS hP ?_
  refine v_aload_n d_X12_boardCells_4 rfl ?_
  refine v_bipush (v := nI 10) d_X12_boardCells_5 x_bp_10 ?_
  refine v_cv (as := [_]) (rest := []) d_X12_boardCells_7 lv_X12_101_12 (hS _ _ rfl) rfl ⟨by decide, by decide⟩ rfl (Nat.le_of_ble_eq_true rfl) (by decide) (by decide) ?_
  refine t_X12_cellsOf 10 rfl (by decide) hS hP ?_
  refine v_ret (v := some (.int _)) d_X12_boardCells_10 rfl ⟨rfl, _, rfl, rfl⟩ (by decide) (by decide) ?_
  exact hK

set_option maxRecDepth 100000 in
set_option maxHeartbeats 4000000 in
theorem t_X12_firstOther {K : x_K} {S : x_S} {P : x_P} {I : x_I} {J : x_J} {n : Nat} {a : Int32} (k : Nat) (ha : a = nI k) (hk : k < 3) (hK : K (some (.int (nI (if k = 0 then 1 else 0)))) S P I J n) : x_Call f_X12_firstOther [.int a] K S P I J n := by
  subst ha
  refine x_intro (by decide) 0 (ls := [_]) rfl (Nat.le_of_ble_eq_true rfl) ?_
  refine v_iload_n d_X12_firstOther_0 rfl ?_
  refine w_if_ne d_X12_firstOther_1 (fun h1 => ?_) (fun h1 => ?_)
  · try simp (disch := omega) only [x_ti, x_tm1] at h1
    refine v_iconst (v := nI 0) d_X12_firstOther_8 x_ic_0 ?_
    refine v_ret (v := some (.int _)) d_X12_firstOther_9 rfl ⟨rfl, _, rfl, rfl⟩ (by decide) (by decide) ?_
    first | (rw [if_pos (by omega)] at hK; exact hK) | (rw [if_neg (by omega)] at hK; exact hK)
  · try simp (disch := omega) only [x_ti, x_tm1] at h1
    refine v_iconst (v := nI 1) d_X12_firstOther_4 x_ic_1 ?_
    refine v_goto d_X12_firstOther_5 ?_
    refine v_ret (v := some (.int _)) d_X12_firstOther_9 rfl ⟨rfl, _, rfl, rfl⟩ (by decide) (by decide) ?_
    first | (rw [if_pos (by omega)] at hK; exact hK) | (rw [if_neg (by omega)] at hK; exact hK)

set_option maxRecDepth 100000 in
set_option maxHeartbeats 4000000 in
theorem t_X12_secondOther {K : x_K} {S : x_S} {P : x_P} {I : x_I} {J : x_J} {n : Nat} {a : Int32} (k : Nat) (ha : a = nI k) (hk : k < 3) (hK : K (some (.int (nI (if k = 2 then 1 else 2)))) S P I J n) : x_Call f_X12_secondOther [.int a] K S P I J n := by
  subst ha
  refine x_intro (by decide) 0 (ls := [_]) rfl (Nat.le_of_ble_eq_true rfl) ?_
  refine v_iload_n d_X12_secondOther_0 rfl ?_
  refine v_iconst (v := nI 2) d_X12_secondOther_1 x_ic_2 ?_
  refine w_icmp_ne d_X12_secondOther_2 (fun h2 => ?_) (fun h2 => ?_)
  · try simp (disch := omega) only [x_ti, x_tm1] at h2
    refine v_iconst (v := nI 2) d_X12_secondOther_9 x_ic_2 ?_
    refine v_ret (v := some (.int _)) d_X12_secondOther_10 rfl ⟨rfl, _, rfl, rfl⟩ (by decide) (by decide) ?_
    first | (rw [if_pos (by omega)] at hK; exact hK) | (rw [if_neg (by omega)] at hK; exact hK)
  · try simp (disch := omega) only [x_ti, x_tm1] at h2
    refine v_iconst (v := nI 1) d_X12_secondOther_5 x_ic_1 ?_
    refine v_goto d_X12_secondOther_6 ?_
    refine v_ret (v := some (.int _)) d_X12_secondOther_10 rfl ⟨rfl, _, rfl, rfl⟩ (by decide) (by decide) ?_
    first | (rw [if_pos (by omega)] at hK; exact hK) | (rw [if_neg (by omega)] at hK; exact hK)

set_option maxRecDepth 100000 in
set_option maxHeartbeats 4000000 in
theorem t_X12_throwsBack {K : x_K} {S : x_S} {P : x_P} {I : x_I} {J : x_J} {n : Nat} {s c : Int32} (k j : Nat) (hs : s = nI k) (hk : k < 10) (hc : c = nI j) (hj : j < 64) (hS : x_hS S) (hP : x_hP P) (ht : (I 40 k).toInt = 1 ∨ ((I 40 k).toInt = 2 ∧ (I 42 (64 * k + j)).toInt = 0) → K (some (.int (nI 1))) S P I J n) (hf : ¬ ((I 40 k).toInt = 1 ∨ ((I 40 k).toInt = 2 ∧ (I 42 (64 * k + j)).toInt = 0)) → K (some (.int (nI 0))) S P I J n) : x_Call f_X12_throwsBack [.ref 39, .int s, .int c] K S P I J n := by
  subst hs hc
  refine x_intro (by decide) 0 (ls := [_, _, _]) rfl (Nat.le_of_ble_eq_true rfl) ?_
  refine v_aload_n d_X12_throwsBack_0 rfl ?_
  refine v_gr d_X12_throwsBack_1 lf_X12_7_12 rfl (hS _ _ rfl) (hP _ _ _ rfl) ?_
  refine v_iload_n d_X12_throwsBack_4 rfl ?_
  refine v_iald _ d_X12_throwsBack_5 (rfl) (hS _ _ rfl) (⟨by omega, by omega⟩) (rfl) ?_
  refine v_iconst (v := nI 1) d_X12_throwsBack_6 x_ic_1 ?_
  refine w_icmp_eq d_X12_throwsBack_7 (fun h7 => ?_) (fun h7 => ?_)
  · try simp (disch := omega) only [x_ti, x_tm1] at h7
    refine v_iconst (v := nI 1) d_X12_throwsBack_34 x_ic_1 ?_
    refine v_goto d_X12_throwsBack_35 ?_
    refine v_ret (v := some (.int _)) d_X12_throwsBack_39 rfl ⟨rfl, _, rfl, rfl⟩ (by decide) (by decide) ?_
    exact ht (by omega)
  · try simp (disch := omega) only [x_ti, x_tm1] at h7
    refine v_aload_n d_X12_throwsBack_10 rfl ?_
    refine v_gr d_X12_throwsBack_11 lf_X12_7_12 rfl (hS _ _ rfl) (hP _ _ _ rfl) ?_
    refine v_iload_n d_X12_throwsBack_14 rfl ?_
    refine v_iald _ d_X12_throwsBack_15 (rfl) (hS _ _ rfl) (⟨by omega, by omega⟩) (rfl) ?_
    refine v_iconst (v := nI 2) d_X12_throwsBack_16 x_ic_2 ?_
    refine w_icmp_ne d_X12_throwsBack_17 (fun h17 => ?_) (fun h17 => ?_)
    · try simp (disch := omega) only [x_ti, x_tm1] at h17
      refine v_iconst (v := nI 0) d_X12_throwsBack_38 x_ic_0 ?_
      refine v_ret (v := some (.int _)) d_X12_throwsBack_39 rfl ⟨rfl, _, rfl, rfl⟩ (by decide) (by decide) ?_
      exact hf (by omega)
    · try simp (disch := omega) only [x_ti, x_tm1] at h17
      refine v_aload_n d_X12_throwsBack_20 rfl ?_
      refine v_gr d_X12_throwsBack_21 lf_X12_16_12 rfl (hS _ _ rfl) (hP _ _ _ rfl) ?_
      refine v_bipush (v := nI 64) d_X12_throwsBack_24 x_bp_64 ?_
      refine v_iload_n d_X12_throwsBack_26 rfl ?_
      first | refine v_imulN d_X12_throwsBack_27 ?_ | refine v_imul d_X12_throwsBack_27 ?_
      refine v_iload_n d_X12_throwsBack_28 rfl ?_
      first | refine v_iaddN d_X12_throwsBack_29 ?_ | refine v_iadd d_X12_throwsBack_29 ?_
      refine v_iald _ d_X12_throwsBack_30 (rfl) (hS _ _ rfl) (⟨by omega, by omega⟩) (rfl) ?_
      refine w_if_ne d_X12_throwsBack_31 (fun h31 => ?_) (fun h31 => ?_)
      · try simp (disch := omega) only [x_ti, x_tm1] at h31
        refine v_iconst (v := nI 0) d_X12_throwsBack_38 x_ic_0 ?_
        refine v_ret (v := some (.int _)) d_X12_throwsBack_39 rfl ⟨rfl, _, rfl, rfl⟩ (by decide) (by decide) ?_
        exact hf (by omega)
      · try simp (disch := omega) only [x_ti, x_tm1] at h31
        refine v_iconst (v := nI 1) d_X12_throwsBack_34 x_ic_1 ?_
        refine v_goto d_X12_throwsBack_35 ?_
        refine v_ret (v := some (.int _)) d_X12_throwsBack_39 rfl ⟨rfl, _, rfl, rfl⟩ (by decide) (by decide) ?_
        exact ht (by omega)

set_option maxRecDepth 100000 in
set_option maxHeartbeats 4000000 in
theorem t_X12_against {K : x_K} {S : x_S} {P : x_P} {I : x_I} {J : x_J} {n : Nat} {s lane i m e : Int32} (k q : Nat) (hs : s = nI k) (hk : k < 4) (he : e = nI q) (hq : q ≤ 2) (hlo : 0 ≤ (I 46 k).toInt ∧ (I 46 k).toInt ≤ 64) (hS : x_hS S) (hP : x_hP P) (h0 : m_ag (I 45 k).toInt (I 46 k).toInt lane.toInt i.toInt m.toInt q = 0 → K (some (.int (nI 0))) S P I J n) (h1 : ∀ f, m_ag (I 45 k).toInt (I 46 k).toInt lane.toInt i.toInt m.toInt q = f → ¬ f = 0 → K (some (.int (-10 - nI f))) S P (x_u2 I 39 0 (nI f)) J n) : x_Call f_X12_against [.ref 39, .int s, .int lane, .int i, .int m, .int e] K S P I J n := by
  subst hs he
  have t9 : (-9 : Int32).toInt = -9 := by decide
  refine x_intro (by decide) 0 (ls := [_, _, _, _, _, _]) rfl (Nat.le_of_ble_eq_true rfl) ?_
  refine v_aload_n d_X12_against_0 rfl ?_
  refine v_gr d_X12_against_1 lf_X12_25_12 rfl (hS _ _ rfl) (hP _ _ _ rfl) ?_
  refine v_iload_n d_X12_against_4 rfl ?_
  refine v_iald _ d_X12_against_5 (rfl) (hS _ _ rfl) (⟨by omega, by omega⟩) (rfl) ?_
  refine v_bipush (v := (-9)) d_X12_against_6 x_bp_m9 ?_
  refine w_icmp_eq d_X12_against_8 (fun a8 => ?_) (fun a8 => ?_)
  · try simp (disch := omega) only [x_ti, x_tm1] at a8
    refine v_aload_n d_X12_against_27 rfl ?_
    refine v_gr d_X12_against_28 lf_X12_25_12 rfl (hS _ _ rfl) (hP _ _ _ rfl) ?_
    refine v_iload_n d_X12_against_31 rfl ?_
    refine v_iald _ d_X12_against_32 (rfl) (hS _ _ rfl) (⟨by omega, by omega⟩) (rfl) ?_
    refine v_bipush (v := (-9)) d_X12_against_33 x_bp_m9 ?_
    refine w_icmp_ne d_X12_against_35 (fun a35 => ?_) (fun a35 => ?_)
    · try simp (disch := omega) only [x_ti, x_tm1] at a35
      refine v_iload d_X12_against_44 rfl ?_
      refine w_if_ge d_X12_against_46 (fun h46 => ?_) (fun h46 => ?_)
      · try simp (disch := omega) only [x_ti, x_tm1] at h46
        refine v_iload_n d_X12_against_55 rfl ?_
        refine w_if_lt d_X12_against_56 (fun h56 => ?_) (fun h56 => ?_)
        · try simp (disch := omega) only [x_ti, x_tm1] at h56
          refine v_aload_n d_X12_against_89 rfl ?_
          refine v_iconst (v := nI 3) d_X12_against_90 x_ic_3 ?_
          refine v_cv (as := [_]) (rest := []) d_X12_against_91 lv_X12_129_12 (hS _ _ rfl) rfl ⟨by decide, by decide⟩ rfl (Nat.le_of_ble_eq_true rfl) (by decide) (by decide) ?_
          refine t_X12_fails hS hP ?_
          refine v_ret (v := some (.int _)) d_X12_against_94 rfl ⟨rfl, _, rfl, rfl⟩ (by decide) (by decide) ?_
          exact h1 3 (by rw [m_ag, if_neg (by omega), if_neg (by omega), if_neg (by omega), if_pos (by first | omega | (rw [x_mulL (by simp only [x_il, x_ti (Nat.lt_of_le_of_lt hq (by decide))]; have := x_32 m; have := x_pb (a := m.toInt) (b := (q : Int)) (A := 2147483648) (B := 2) (by omega) (by omega) (by omega) (by omega); omega) (by simp only [x_il, x_ti (Nat.lt_of_le_of_lt hq (by decide))]; have := x_32 m; have := x_pb (a := m.toInt) (b := (q : Int)) (A := 2147483648) (B := 2) (by omega) (by omega) (by omega) (by omega); omega), x_il, x_il, x_il, x_ti (Nat.lt_of_le_of_lt hq (by decide)), x_sub (by omega) (by omega)] at a85; omega))]) (by decide)
        · try simp (disch := omega) only [x_ti, x_tm1] at h56
          refine v_iload_n d_X12_against_59 rfl ?_
          refine v_aload_n d_X12_against_60 rfl ?_
          refine v_gr d_X12_against_61 lf_X12_28_12 rfl (hS _ _ rfl) (hP _ _ _ rfl) ?_
          refine v_iload_n d_X12_against_64 rfl ?_
          refine v_iald _ d_X12_against_65 (rfl) (hS _ _ rfl) (⟨by omega, by omega⟩) (rfl) ?_
          refine w_icmp_gt d_X12_against_66 (fun h66 => ?_) (fun h66 => ?_)
          · try simp (disch := omega) only [x_ti, x_tm1] at h66
            refine v_aload_n d_X12_against_89 rfl ?_
            refine v_iconst (v := nI 3) d_X12_against_90 x_ic_3 ?_
            refine v_cv (as := [_]) (rest := []) d_X12_against_91 lv_X12_129_12 (hS _ _ rfl) rfl ⟨by decide, by decide⟩ rfl (Nat.le_of_ble_eq_true rfl) (by decide) (by decide) ?_
            refine t_X12_fails hS hP ?_
            refine v_ret (v := some (.int _)) d_X12_against_94 rfl ⟨rfl, _, rfl, rfl⟩ (by decide) (by decide) ?_
            exact h1 3 (by rw [m_ag, if_neg (by omega), if_neg (by omega), if_neg (by omega), if_pos (by first | omega | (rw [x_mulL (by simp only [x_il, x_ti (Nat.lt_of_le_of_lt hq (by decide))]; have := x_32 m; have := x_pb (a := m.toInt) (b := (q : Int)) (A := 2147483648) (B := 2) (by omega) (by omega) (by omega) (by omega); omega) (by simp only [x_il, x_ti (Nat.lt_of_le_of_lt hq (by decide))]; have := x_32 m; have := x_pb (a := m.toInt) (b := (q : Int)) (A := 2147483648) (B := 2) (by omega) (by omega) (by omega) (by omega); omega), x_il, x_il, x_il, x_ti (Nat.lt_of_le_of_lt hq (by decide)), x_sub (by omega) (by omega)] at a85; omega))]) (by decide)
          · try simp (disch := omega) only [x_ti, x_tm1] at h66
            refine v_iload d_X12_against_69 rfl ?_
            refine v_i2l d_X12_against_71 ?_
            refine v_iload d_X12_against_72 rfl ?_
            refine v_i2l d_X12_against_74 ?_
            refine v_lmul d_X12_against_75 ?_
            refine v_aload_n d_X12_against_76 rfl ?_
            refine v_gr d_X12_against_77 lf_X12_28_12 rfl (hS _ _ rfl) (hP _ _ _ rfl) ?_
            refine v_iload_n d_X12_against_80 rfl ?_
            refine v_iald _ d_X12_against_81 (rfl) (hS _ _ rfl) (⟨by omega, by omega⟩) (rfl) ?_
            refine v_iload_n d_X12_against_82 rfl ?_
            refine v_isub d_X12_against_83 ?_
            refine v_i2l d_X12_against_84 ?_
            refine w_lc_le d_X12_against_85 d_X12_against_86 (fun a85 => ?_) (fun a85 => ?_)
            · try simp (disch := omega) only [x_ti, x_tm1] at a85
              refine v_iconst (v := nI 0) d_X12_against_95 x_ic_0 ?_
              refine v_ret (v := some (.int _)) d_X12_against_96 rfl ⟨rfl, _, rfl, rfl⟩ (by decide) (by decide) ?_
              exact h0 (by rw [m_ag, if_neg (by omega), if_neg (by omega), if_neg (by omega), if_neg (by rw [x_mulL (by simp only [x_il, x_ti (Nat.lt_of_le_of_lt hq (by decide))]; have := x_32 m; have := x_pb (a := m.toInt) (b := (q : Int)) (A := 2147483648) (B := 2) (by omega) (by omega) (by omega) (by omega); omega) (by simp only [x_il, x_ti (Nat.lt_of_le_of_lt hq (by decide))]; have := x_32 m; have := x_pb (a := m.toInt) (b := (q : Int)) (A := 2147483648) (B := 2) (by omega) (by omega) (by omega) (by omega); omega), x_il, x_il, x_il, x_ti (Nat.lt_of_le_of_lt hq (by decide)), x_sub (by omega) (by omega)] at a85; omega)])
            · try simp (disch := omega) only [x_ti, x_tm1] at a85
              refine v_aload_n d_X12_against_89 rfl ?_
              refine v_iconst (v := nI 3) d_X12_against_90 x_ic_3 ?_
              refine v_cv (as := [_]) (rest := []) d_X12_against_91 lv_X12_129_12 (hS _ _ rfl) rfl ⟨by decide, by decide⟩ rfl (Nat.le_of_ble_eq_true rfl) (by decide) (by decide) ?_
              refine t_X12_fails hS hP ?_
              refine v_ret (v := some (.int _)) d_X12_against_94 rfl ⟨rfl, _, rfl, rfl⟩ (by decide) (by decide) ?_
              exact h1 3 (by rw [m_ag, if_neg (by omega), if_neg (by omega), if_neg (by omega), if_pos (by first | omega | (rw [x_mulL (by simp only [x_il, x_ti (Nat.lt_of_le_of_lt hq (by decide))]; have := x_32 m; have := x_pb (a := m.toInt) (b := (q : Int)) (A := 2147483648) (B := 2) (by omega) (by omega) (by omega) (by omega); omega) (by simp only [x_il, x_ti (Nat.lt_of_le_of_lt hq (by decide))]; have := x_32 m; have := x_pb (a := m.toInt) (b := (q : Int)) (A := 2147483648) (B := 2) (by omega) (by omega) (by omega) (by omega); omega), x_il, x_il, x_il, x_ti (Nat.lt_of_le_of_lt hq (by decide)), x_sub (by omega) (by omega)] at a85; omega))]) (by decide)
      · try simp (disch := omega) only [x_ti, x_tm1] at h46
        refine v_aload_n d_X12_against_49 rfl ?_
        refine v_iconst (v := nI 4) d_X12_against_50 x_ic_4 ?_
        refine v_cv (as := [_]) (rest := []) d_X12_against_51 lv_X12_129_12 (hS _ _ rfl) rfl ⟨by decide, by decide⟩ rfl (Nat.le_of_ble_eq_true rfl) (by decide) (by decide) ?_
        refine t_X12_fails hS hP ?_
        refine v_ret (v := some (.int _)) d_X12_against_54 rfl ⟨rfl, _, rfl, rfl⟩ (by decide) (by decide) ?_
        exact h1 4 (by rw [m_ag, if_neg (by omega), if_neg (by omega), if_pos (by omega)]) (by decide)
    · try simp (disch := omega) only [x_ti, x_tm1] at a35
      refine v_aload_n d_X12_against_38 rfl ?_
      refine v_iconst (v := nI 1) d_X12_against_39 x_ic_1 ?_
      refine v_cv (as := [_]) (rest := []) d_X12_against_40 lv_X12_129_12 (hS _ _ rfl) rfl ⟨by decide, by decide⟩ rfl (Nat.le_of_ble_eq_true rfl) (by decide) (by decide) ?_
      refine t_X12_fails hS hP ?_
      refine v_ret (v := some (.int _)) d_X12_against_43 rfl ⟨rfl, _, rfl, rfl⟩ (by decide) (by decide) ?_
      exact h1 1 (by rw [m_ag, if_neg (by omega), if_pos (by omega)]) (by decide)
  · try simp (disch := omega) only [x_ti, x_tm1] at a8
    refine v_aload_n d_X12_against_11 rfl ?_
    refine v_gr d_X12_against_12 lf_X12_25_12 rfl (hS _ _ rfl) (hP _ _ _ rfl) ?_
    refine v_iload_n d_X12_against_15 rfl ?_
    refine v_iald _ d_X12_against_16 (rfl) (hS _ _ rfl) (⟨by omega, by omega⟩) (rfl) ?_
    refine v_iload_n d_X12_against_17 rfl ?_
    refine w_icmp_eq d_X12_against_18 (fun h18 => ?_) (fun h18 => ?_)
    · try simp (disch := omega) only [x_ti, x_tm1] at h18
      refine v_aload_n d_X12_against_27 rfl ?_
      refine v_gr d_X12_against_28 lf_X12_25_12 rfl (hS _ _ rfl) (hP _ _ _ rfl) ?_
      refine v_iload_n d_X12_against_31 rfl ?_
      refine v_iald _ d_X12_against_32 (rfl) (hS _ _ rfl) (⟨by omega, by omega⟩) (rfl) ?_
      refine v_bipush (v := (-9)) d_X12_against_33 x_bp_m9 ?_
      refine w_icmp_ne d_X12_against_35 (fun a35 => ?_) (fun a35 => ?_)
      · try simp (disch := omega) only [x_ti, x_tm1] at a35
        refine v_iload d_X12_against_44 rfl ?_
        refine w_if_ge d_X12_against_46 (fun h46 => ?_) (fun h46 => ?_)
        · try simp (disch := omega) only [x_ti, x_tm1] at h46
          refine v_iload_n d_X12_against_55 rfl ?_
          refine w_if_lt d_X12_against_56 (fun h56 => ?_) (fun h56 => ?_)
          · try simp (disch := omega) only [x_ti, x_tm1] at h56
            refine v_aload_n d_X12_against_89 rfl ?_
            refine v_iconst (v := nI 3) d_X12_against_90 x_ic_3 ?_
            refine v_cv (as := [_]) (rest := []) d_X12_against_91 lv_X12_129_12 (hS _ _ rfl) rfl ⟨by decide, by decide⟩ rfl (Nat.le_of_ble_eq_true rfl) (by decide) (by decide) ?_
            refine t_X12_fails hS hP ?_
            refine v_ret (v := some (.int _)) d_X12_against_94 rfl ⟨rfl, _, rfl, rfl⟩ (by decide) (by decide) ?_
            exact h1 3 (by rw [m_ag, if_neg (by omega), if_neg (by omega), if_neg (by omega), if_pos (by first | omega | (rw [x_mulL (by simp only [x_il, x_ti (Nat.lt_of_le_of_lt hq (by decide))]; have := x_32 m; have := x_pb (a := m.toInt) (b := (q : Int)) (A := 2147483648) (B := 2) (by omega) (by omega) (by omega) (by omega); omega) (by simp only [x_il, x_ti (Nat.lt_of_le_of_lt hq (by decide))]; have := x_32 m; have := x_pb (a := m.toInt) (b := (q : Int)) (A := 2147483648) (B := 2) (by omega) (by omega) (by omega) (by omega); omega), x_il, x_il, x_il, x_ti (Nat.lt_of_le_of_lt hq (by decide)), x_sub (by omega) (by omega)] at a85; omega))]) (by decide)
          · try simp (disch := omega) only [x_ti, x_tm1] at h56
            refine v_iload_n d_X12_against_59 rfl ?_
            refine v_aload_n d_X12_against_60 rfl ?_
            refine v_gr d_X12_against_61 lf_X12_28_12 rfl (hS _ _ rfl) (hP _ _ _ rfl) ?_
            refine v_iload_n d_X12_against_64 rfl ?_
            refine v_iald _ d_X12_against_65 (rfl) (hS _ _ rfl) (⟨by omega, by omega⟩) (rfl) ?_
            refine w_icmp_gt d_X12_against_66 (fun h66 => ?_) (fun h66 => ?_)
            · try simp (disch := omega) only [x_ti, x_tm1] at h66
              refine v_aload_n d_X12_against_89 rfl ?_
              refine v_iconst (v := nI 3) d_X12_against_90 x_ic_3 ?_
              refine v_cv (as := [_]) (rest := []) d_X12_against_91 lv_X12_129_12 (hS _ _ rfl) rfl ⟨by decide, by decide⟩ rfl (Nat.le_of_ble_eq_true rfl) (by decide) (by decide) ?_
              refine t_X12_fails hS hP ?_
              refine v_ret (v := some (.int _)) d_X12_against_94 rfl ⟨rfl, _, rfl, rfl⟩ (by decide) (by decide) ?_
              exact h1 3 (by rw [m_ag, if_neg (by omega), if_neg (by omega), if_neg (by omega), if_pos (by first | omega | (rw [x_mulL (by simp only [x_il, x_ti (Nat.lt_of_le_of_lt hq (by decide))]; have := x_32 m; have := x_pb (a := m.toInt) (b := (q : Int)) (A := 2147483648) (B := 2) (by omega) (by omega) (by omega) (by omega); omega) (by simp only [x_il, x_ti (Nat.lt_of_le_of_lt hq (by decide))]; have := x_32 m; have := x_pb (a := m.toInt) (b := (q : Int)) (A := 2147483648) (B := 2) (by omega) (by omega) (by omega) (by omega); omega), x_il, x_il, x_il, x_ti (Nat.lt_of_le_of_lt hq (by decide)), x_sub (by omega) (by omega)] at a85; omega))]) (by decide)
            · try simp (disch := omega) only [x_ti, x_tm1] at h66
              refine v_iload d_X12_against_69 rfl ?_
              refine v_i2l d_X12_against_71 ?_
              refine v_iload d_X12_against_72 rfl ?_
              refine v_i2l d_X12_against_74 ?_
              refine v_lmul d_X12_against_75 ?_
              refine v_aload_n d_X12_against_76 rfl ?_
              refine v_gr d_X12_against_77 lf_X12_28_12 rfl (hS _ _ rfl) (hP _ _ _ rfl) ?_
              refine v_iload_n d_X12_against_80 rfl ?_
              refine v_iald _ d_X12_against_81 (rfl) (hS _ _ rfl) (⟨by omega, by omega⟩) (rfl) ?_
              refine v_iload_n d_X12_against_82 rfl ?_
              refine v_isub d_X12_against_83 ?_
              refine v_i2l d_X12_against_84 ?_
              refine w_lc_le d_X12_against_85 d_X12_against_86 (fun a85 => ?_) (fun a85 => ?_)
              · try simp (disch := omega) only [x_ti, x_tm1] at a85
                refine v_iconst (v := nI 0) d_X12_against_95 x_ic_0 ?_
                refine v_ret (v := some (.int _)) d_X12_against_96 rfl ⟨rfl, _, rfl, rfl⟩ (by decide) (by decide) ?_
                exact h0 (by rw [m_ag, if_neg (by omega), if_neg (by omega), if_neg (by omega), if_neg (by rw [x_mulL (by simp only [x_il, x_ti (Nat.lt_of_le_of_lt hq (by decide))]; have := x_32 m; have := x_pb (a := m.toInt) (b := (q : Int)) (A := 2147483648) (B := 2) (by omega) (by omega) (by omega) (by omega); omega) (by simp only [x_il, x_ti (Nat.lt_of_le_of_lt hq (by decide))]; have := x_32 m; have := x_pb (a := m.toInt) (b := (q : Int)) (A := 2147483648) (B := 2) (by omega) (by omega) (by omega) (by omega); omega), x_il, x_il, x_il, x_ti (Nat.lt_of_le_of_lt hq (by decide)), x_sub (by omega) (by omega)] at a85; omega)])
              · try simp (disch := omega) only [x_ti, x_tm1] at a85
                refine v_aload_n d_X12_against_89 rfl ?_
                refine v_iconst (v := nI 3) d_X12_against_90 x_ic_3 ?_
                refine v_cv (as := [_]) (rest := []) d_X12_against_91 lv_X12_129_12 (hS _ _ rfl) rfl ⟨by decide, by decide⟩ rfl (Nat.le_of_ble_eq_true rfl) (by decide) (by decide) ?_
                refine t_X12_fails hS hP ?_
                refine v_ret (v := some (.int _)) d_X12_against_94 rfl ⟨rfl, _, rfl, rfl⟩ (by decide) (by decide) ?_
                exact h1 3 (by rw [m_ag, if_neg (by omega), if_neg (by omega), if_neg (by omega), if_pos (by first | omega | (rw [x_mulL (by simp only [x_il, x_ti (Nat.lt_of_le_of_lt hq (by decide))]; have := x_32 m; have := x_pb (a := m.toInt) (b := (q : Int)) (A := 2147483648) (B := 2) (by omega) (by omega) (by omega) (by omega); omega) (by simp only [x_il, x_ti (Nat.lt_of_le_of_lt hq (by decide))]; have := x_32 m; have := x_pb (a := m.toInt) (b := (q : Int)) (A := 2147483648) (B := 2) (by omega) (by omega) (by omega) (by omega); omega), x_il, x_il, x_il, x_ti (Nat.lt_of_le_of_lt hq (by decide)), x_sub (by omega) (by omega)] at a85; omega))]) (by decide)
        · try simp (disch := omega) only [x_ti, x_tm1] at h46
          refine v_aload_n d_X12_against_49 rfl ?_
          refine v_iconst (v := nI 4) d_X12_against_50 x_ic_4 ?_
          refine v_cv (as := [_]) (rest := []) d_X12_against_51 lv_X12_129_12 (hS _ _ rfl) rfl ⟨by decide, by decide⟩ rfl (Nat.le_of_ble_eq_true rfl) (by decide) (by decide) ?_
          refine t_X12_fails hS hP ?_
          refine v_ret (v := some (.int _)) d_X12_against_54 rfl ⟨rfl, _, rfl, rfl⟩ (by decide) (by decide) ?_
          exact h1 4 (by rw [m_ag, if_neg (by omega), if_neg (by omega), if_pos (by omega)]) (by decide)
      · try simp (disch := omega) only [x_ti, x_tm1] at a35
        refine v_aload_n d_X12_against_38 rfl ?_
        refine v_iconst (v := nI 1) d_X12_against_39 x_ic_1 ?_
        refine v_cv (as := [_]) (rest := []) d_X12_against_40 lv_X12_129_12 (hS _ _ rfl) rfl ⟨by decide, by decide⟩ rfl (Nat.le_of_ble_eq_true rfl) (by decide) (by decide) ?_
        refine t_X12_fails hS hP ?_
        refine v_ret (v := some (.int _)) d_X12_against_43 rfl ⟨rfl, _, rfl, rfl⟩ (by decide) (by decide) ?_
        exact h1 1 (by rw [m_ag, if_neg (by omega), if_pos (by omega)]) (by decide)
    · try simp (disch := omega) only [x_ti, x_tm1] at h18
      refine v_aload_n d_X12_against_21 rfl ?_
      refine v_iconst (v := nI 2) d_X12_against_22 x_ic_2 ?_
      refine v_cv (as := [_]) (rest := []) d_X12_against_23 lv_X12_129_12 (hS _ _ rfl) rfl ⟨by decide, by decide⟩ rfl (Nat.le_of_ble_eq_true rfl) (by decide) (by decide) ?_
      refine t_X12_fails hS hP ?_
      refine v_ret (v := some (.int _)) d_X12_against_26 rfl ⟨rfl, _, rfl, rfl⟩ (by decide) (by decide) ?_
      exact h1 2 (by rw [m_ag, if_pos (by omega)]) (by decide)

