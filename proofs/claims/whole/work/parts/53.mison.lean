def x_on (lo hi : Int64) (b : Nat) : Bool := if b < 64 then x_lb lo b else x_lb hi (b - 64)

set_option maxRecDepth 100000 in
set_option maxHeartbeats 4000000 in
theorem t_X12_isOn {K : x_K} {S : x_S} {P : x_P} {I : x_I} {J : x_J} {n : Nat} {lo hi : Int64} {x : Int32} (b : Nat) (hx : x = nI b) (hb : b < 96) (ht : x_on lo hi b = true → K (some (.int (nI 1))) S P I J n) (hf : ¬ x_on lo hi b = true → K (some (.int (nI 0))) S P I J n) : x_Call f_X12_isOn [.long lo, .long hi, .int x] K S P I J n := by
  subst hx
  refine x_intro (by decide) 0 (ls := [_, _, _, _, _]) rfl (Nat.le_of_ble_eq_true rfl) ?_
  refine v_iload d_X12_isOn_0 rfl ?_
  refine v_bipush (v := nI 64) d_X12_isOn_2 x_bp_64 ?_
  refine w_icmp_ge d_X12_isOn_4 (fun a4 => ?_) (fun a4 => ?_)
  · try simp (disch := omega) only [x_ti, x_tm1] at a4
    refine v_lload_n d_X12_isOn_26 rfl ?_
    refine v_iload d_X12_isOn_27 rfl ?_
    refine v_bipush (v := nI 64) d_X12_isOn_29 x_bp_64 ?_
    refine v_isub d_X12_isOn_31 ?_
    rw [x_subN (by omega)]
    refine v_lshr d_X12_isOn_32 ?_
    refine v_lconst (v := 1) d_X12_isOn_33 rfl ?_
    refine v_land d_X12_isOn_34 ?_
    refine v_lconst (v := 1) d_X12_isOn_35 rfl ?_
    refine w_lc_ne d_X12_isOn_36 d_X12_isOn_37 (fun a37 => ?_) (fun a37 => ?_)
    · refine v_iconst (v := nI 0) d_X12_isOn_44 x_ic_0 ?_
      refine v_ret (v := some (.int _)) d_X12_isOn_45 rfl ⟨rfl, _, rfl, rfl⟩ (by decide) (by decide) ?_
      first
        | (exact hf (by unfold x_on; rw [if_pos (by omega)]; exact fun z => a15 (congrArg Int64.toInt ((x_lb_on (by omega)).mpr z))))
        | (exact hf (by unfold x_on; rw [if_neg (by omega)]; exact fun z => a37 (congrArg Int64.toInt ((x_lb_on (by omega)).mpr z))))
    · refine v_iconst (v := nI 1) d_X12_isOn_40 x_ic_1 ?_
      refine v_goto d_X12_isOn_41 ?_
      refine v_ret (v := some (.int _)) d_X12_isOn_45 rfl ⟨rfl, _, rfl, rfl⟩ (by decide) (by decide) ?_
      first
        | (exact ht (by unfold x_on; rw [if_pos (by omega)]; exact (x_lb_on (by omega)).mp (Int64.toInt_inj.mp a15)))
        | (exact ht (by unfold x_on; rw [if_neg (by omega)]; exact (x_lb_on (by omega)).mp (Int64.toInt_inj.mp a37)))
  · try simp (disch := omega) only [x_ti, x_tm1] at a4
    refine v_lload_n d_X12_isOn_7 rfl ?_
    refine v_iload d_X12_isOn_8 rfl ?_
    refine v_lshr d_X12_isOn_10 ?_
    refine v_lconst (v := 1) d_X12_isOn_11 rfl ?_
    refine v_land d_X12_isOn_12 ?_
    refine v_lconst (v := 1) d_X12_isOn_13 rfl ?_
    refine w_lc_ne d_X12_isOn_14 d_X12_isOn_15 (fun a15 => ?_) (fun a15 => ?_)
    · refine v_iconst (v := nI 0) d_X12_isOn_22 x_ic_0 ?_
      refine v_goto d_X12_isOn_23 ?_
      refine v_ret (v := some (.int _)) d_X12_isOn_45 rfl ⟨rfl, _, rfl, rfl⟩ (by decide) (by decide) ?_
      first
        | (exact hf (by unfold x_on; rw [if_pos (by omega)]; exact fun z => a15 (congrArg Int64.toInt ((x_lb_on (by omega)).mpr z))))
        | (exact hf (by unfold x_on; rw [if_neg (by omega)]; exact fun z => a37 (congrArg Int64.toInt ((x_lb_on (by omega)).mpr z))))
    · refine v_iconst (v := nI 1) d_X12_isOn_18 x_ic_1 ?_
      refine v_goto d_X12_isOn_19 ?_
      refine v_ret (v := some (.int _)) d_X12_isOn_45 rfl ⟨rfl, _, rfl, rfl⟩ (by decide) (by decide) ?_
      first
        | (exact ht (by unfold x_on; rw [if_pos (by omega)]; exact (x_lb_on (by omega)).mp (Int64.toInt_inj.mp a15)))
        | (exact ht (by unfold x_on; rw [if_neg (by omega)]; exact (x_lb_on (by omega)).mp (Int64.toInt_inj.mp a37)))

