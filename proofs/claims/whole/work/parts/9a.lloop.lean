theorem x_sub8 {N : Nat} (h : N ≤ 4096) : (nI N - nI 8).toInt = (N : Int) - 8 := by
  by_cases q : 8 ≤ N
  · rw [x_subN q, x_ti (by omega)]; omega
  · rcases (show N = 0 ∨ N = 1 ∨ N = 2 ∨ N = 3 ∨ N = 4 ∨ N = 5 ∨ N = 6 ∨ N = 7 by omega) with rfl | rfl | rfl | rfl | rfl | rfl | rfl | rfl <;> decide

set_option maxRecDepth 100000 in
set_option maxHeartbeats 4000000 in
theorem lw_switch {K : x_K} {S : x_S} {P : x_P} {I : x_I} {J : x_J} {n cs sl : Nat} {ls : List (Option Value)} {x : Int32} (h0 : x_V f_L_law K 188 ls [] S P I J n cs sl) (h1 : x_V f_L_law K 275 ls [] S P I J n cs sl) (h2 : x_V f_L_law K 308 ls [] S P I J n cs sl) (h3 : x_V f_L_law K 383 ls [] S P I J n cs sl) (h4 : x_V f_L_law K 436 ls [] S P I J n cs sl) (h5 : x_V f_L_law K 489 ls [] S P I J n cs sl) (h6 : x_V f_L_law K 522 ls [] S P I J n cs sl) (h7 : x_V f_L_law K 565 ls [] S P I J n cs sl) (h8 : x_V f_L_law K 598 ls [] S P I J n cs sl) (h9 : x_V f_L_law K 673 ls [] S P I J n cs sl) (h10 : x_V f_L_law K 748 ls [] S P I J n cs sl) (h11 : x_V f_L_law K 781 ls [] S P I J n cs sl) (h12 : x_V f_L_law K 814 ls [] S P I J n cs sl) (h13 : x_V f_L_law K 837 ls [] S P I J n cs sl) (h14 : x_V f_L_law K 850 ls [] S P I J n cs sl) (h15 : x_V f_L_law K 873 ls [] S P I J n cs sl) (h16 : x_V f_L_law K 916 ls [] S P I J n cs sl) (h17 : x_V f_L_law K 959 ls [] S P I J n cs sl) (h18 : x_V f_L_law K 982 ls [] S P I J n cs sl) (h19 : x_V f_L_law K 1051 ls [] S P I J n cs sl) (h20 : x_V f_L_law K 1114 ls [] S P I J n cs sl) (h21 : x_V f_L_law K 1147 ls [] S P I J n cs sl) (h22 : x_V f_L_law K 1170 ls [] S P I J n cs sl) (h23 : x_V f_L_law K 1183 ls [] S P I J n cs sl) (h24 : x_V f_L_law K 1206 ls [] S P I J n cs sl) (h25 : x_V f_L_law K 1239 ls [] S P I J n cs sl) (h26 : x_V f_L_law K 1282 ls [] S P I J n cs sl) (h27 : x_V f_L_law K 1305 ls [] S P I J n cs sl) (h28 : x_V f_L_law K 1348 ls [] S P I J n cs sl) (h29 : x_V f_L_law K 1392 ls [] S P I J n cs sl) (h30 : x_V f_L_law K 1415 ls [] S P I J n cs sl) (h31 : x_V f_L_law K 1438 ls [] S P I J n cs sl) (h32 : x_V f_L_law K 1471 ls [] S P I J n cs sl) (h33 : x_V f_L_law K 1484 ls [] S P I J n cs sl) (h34 : x_V f_L_law K 1497 ls [] S P I J n cs sl) (ho : x_V f_L_law K 1520 ls [] S P I J n cs sl) : x_V f_L_law K 33 ls [.int x] S P I J n cs sl := by
  rcases (show x.toInt = 0 ∨ x.toInt = 1 ∨ x.toInt = 2 ∨ x.toInt = 3 ∨ x.toInt = 4 ∨ x.toInt = 5 ∨ x.toInt = 6 ∨ x.toInt = 7 ∨ x.toInt = 8 ∨ x.toInt = 9 ∨ x.toInt = 10 ∨ x.toInt = 11 ∨ x.toInt = 12 ∨ x.toInt = 13 ∨ x.toInt = 14 ∨ x.toInt = 15 ∨ x.toInt = 16 ∨ x.toInt = 17 ∨ x.toInt = 18 ∨ x.toInt = 19 ∨ x.toInt = 20 ∨ x.toInt = 21 ∨ x.toInt = 22 ∨ x.toInt = 23 ∨ x.toInt = 24 ∨ x.toInt = 25 ∨ x.toInt = 26 ∨ x.toInt = 27 ∨ x.toInt = 28 ∨ x.toInt = 29 ∨ x.toInt = 30 ∨ x.toInt = 31 ∨ x.toInt = 32 ∨ x.toInt = 33 ∨ x.toInt = 34 ∨ (x.toInt < 0 ∨ 34 < x.toInt) by omega) with e | e | e | e | e | e | e | e | e | e | e | e | e | e | e | e | e | e | e | e | e | e | e | e | e | e | e | e | e | e | e | e | e | e | e | e
  · exact v_tin (off := 155) (tgt := 188) d_L_law_33 (by omega) (by omega) (by rw [e]; rfl) (by decide) h0
  · exact v_tin (off := 242) (tgt := 275) d_L_law_33 (by omega) (by omega) (by rw [e]; rfl) (by decide) h1
  · exact v_tin (off := 275) (tgt := 308) d_L_law_33 (by omega) (by omega) (by rw [e]; rfl) (by decide) h2
  · exact v_tin (off := 350) (tgt := 383) d_L_law_33 (by omega) (by omega) (by rw [e]; rfl) (by decide) h3
  · exact v_tin (off := 403) (tgt := 436) d_L_law_33 (by omega) (by omega) (by rw [e]; rfl) (by decide) h4
  · exact v_tin (off := 456) (tgt := 489) d_L_law_33 (by omega) (by omega) (by rw [e]; rfl) (by decide) h5
  · exact v_tin (off := 489) (tgt := 522) d_L_law_33 (by omega) (by omega) (by rw [e]; rfl) (by decide) h6
  · exact v_tin (off := 532) (tgt := 565) d_L_law_33 (by omega) (by omega) (by rw [e]; rfl) (by decide) h7
  · exact v_tin (off := 565) (tgt := 598) d_L_law_33 (by omega) (by omega) (by rw [e]; rfl) (by decide) h8
  · exact v_tin (off := 640) (tgt := 673) d_L_law_33 (by omega) (by omega) (by rw [e]; rfl) (by decide) h9
  · exact v_tin (off := 715) (tgt := 748) d_L_law_33 (by omega) (by omega) (by rw [e]; rfl) (by decide) h10
  · exact v_tin (off := 748) (tgt := 781) d_L_law_33 (by omega) (by omega) (by rw [e]; rfl) (by decide) h11
  · exact v_tin (off := 781) (tgt := 814) d_L_law_33 (by omega) (by omega) (by rw [e]; rfl) (by decide) h12
  · exact v_tin (off := 804) (tgt := 837) d_L_law_33 (by omega) (by omega) (by rw [e]; rfl) (by decide) h13
  · exact v_tin (off := 817) (tgt := 850) d_L_law_33 (by omega) (by omega) (by rw [e]; rfl) (by decide) h14
  · exact v_tin (off := 840) (tgt := 873) d_L_law_33 (by omega) (by omega) (by rw [e]; rfl) (by decide) h15
  · exact v_tin (off := 883) (tgt := 916) d_L_law_33 (by omega) (by omega) (by rw [e]; rfl) (by decide) h16
  · exact v_tin (off := 926) (tgt := 959) d_L_law_33 (by omega) (by omega) (by rw [e]; rfl) (by decide) h17
  · exact v_tin (off := 949) (tgt := 982) d_L_law_33 (by omega) (by omega) (by rw [e]; rfl) (by decide) h18
  · exact v_tin (off := 1018) (tgt := 1051) d_L_law_33 (by omega) (by omega) (by rw [e]; rfl) (by decide) h19
  · exact v_tin (off := 1081) (tgt := 1114) d_L_law_33 (by omega) (by omega) (by rw [e]; rfl) (by decide) h20
  · exact v_tin (off := 1114) (tgt := 1147) d_L_law_33 (by omega) (by omega) (by rw [e]; rfl) (by decide) h21
  · exact v_tin (off := 1137) (tgt := 1170) d_L_law_33 (by omega) (by omega) (by rw [e]; rfl) (by decide) h22
  · exact v_tin (off := 1150) (tgt := 1183) d_L_law_33 (by omega) (by omega) (by rw [e]; rfl) (by decide) h23
  · exact v_tin (off := 1173) (tgt := 1206) d_L_law_33 (by omega) (by omega) (by rw [e]; rfl) (by decide) h24
  · exact v_tin (off := 1206) (tgt := 1239) d_L_law_33 (by omega) (by omega) (by rw [e]; rfl) (by decide) h25
  · exact v_tin (off := 1249) (tgt := 1282) d_L_law_33 (by omega) (by omega) (by rw [e]; rfl) (by decide) h26
  · exact v_tin (off := 1272) (tgt := 1305) d_L_law_33 (by omega) (by omega) (by rw [e]; rfl) (by decide) h27
  · exact v_tin (off := 1315) (tgt := 1348) d_L_law_33 (by omega) (by omega) (by rw [e]; rfl) (by decide) h28
  · exact v_tin (off := 1359) (tgt := 1392) d_L_law_33 (by omega) (by omega) (by rw [e]; rfl) (by decide) h29
  · exact v_tin (off := 1382) (tgt := 1415) d_L_law_33 (by omega) (by omega) (by rw [e]; rfl) (by decide) h30
  · exact v_tin (off := 1405) (tgt := 1438) d_L_law_33 (by omega) (by omega) (by rw [e]; rfl) (by decide) h31
  · exact v_tin (off := 1438) (tgt := 1471) d_L_law_33 (by omega) (by omega) (by rw [e]; rfl) (by decide) h32
  · exact v_tin (off := 1451) (tgt := 1484) d_L_law_33 (by omega) (by omega) (by rw [e]; rfl) (by decide) h33
  · exact v_tin (off := 1464) (tgt := 1497) d_L_law_33 (by omega) (by omega) (by rw [e]; rfl) (by decide) h34
  · exact v_tout (tgt := 1520) d_L_law_33 e (by decide) ho

set_option maxRecDepth 100000 in
set_option maxHeartbeats 4000000 in
theorem lw_loop {K : x_K} {N : Nat} {xs : Nat → Int32} (hN : N ≤ 4096) (hK : ∀ (S : x_S) (P : x_P) (I : x_I) (J : x_J) (n : Nat), K (some (.int (nI 1))) S P I J n) :
    ∀ d i : Nat, N ≤ i + 8 * d → i ≤ 8192 → ∀ (S : x_S) (P : x_P) (I : x_I) (J : x_J) (n cs sl : Nat), S 0 = .inr (9, N) → I 0 = xs → c_S I S P I J n → m_I I → cs + 3 * d ≤ 600000 → sl + 76 * d ≤ 7302250 → x_V f_L_law K 18 [some (.ref 0), some (.ref 1), some (.ref 39), some (.int (nI i))] [] S P I J n cs sl := by
  intro d
  induction d with
  | zero =>
    intro i hd hi S P I J n cs sl hs0 hxs hc mi hcs hsl
    obtain ⟨fa, bd, hR⟩ := hc
    have hS := hR.hS
    have hP := hR.hP
    refine v_iload_n d_L_law_18 rfl ?_
    refine v_aload_n d_L_law_19 rfl ?_
    refine v_slen d_L_law_20 (hs0) ?_
    refine v_bipush (v := nI 8) d_L_law_21 x_bp_8 ?_
    refine v_isub d_L_law_23 ?_
    refine w_icmp_gt d_L_law_24 (fun a24 => ?_) (fun a24 => False.elim (by rw [x_sub8 hN, x_ti (by omega)] at a24; omega))
    refine v_iconst (v := nI 1) d_L_law_1526 x_ic_1 ?_
    refine v_ret (v := some (.int _)) d_L_law_1527 rfl ⟨rfl, _, rfl, rfl⟩ (by show cs ≤ 600000; omega) (by show sl ≤ 7302250; omega) ?_
    exact hK S P I J n
  | succ d ih =>
    intro i hd hi S P I J n cs sl hs0 hxs hc mi hcs hsl
    obtain ⟨fa, bd, hR⟩ := hc
    have hS := hR.hS
    have hP := hR.hP
    by_cases hi8 : i + 8 ≤ N
    · have hnx : ∀ (S' : x_S) (P' : x_P) (I' : x_I) (J' : x_J) (n' cs' sl' : Nat), S' 0 = .inr (9, N) → I' 0 = xs → c_S I' S' P' I' J' n' → m_I I' → cs' ≤ cs + 3 → sl' ≤ sl + 76 → x_V f_L_law K 1520 [some (.ref 0), some (.ref 1), some (.ref 39), some (.int (nI i))] [] S' P' I' J' n' cs' sl' := by
        intro S' P' I' J' n' cs' sl' q1 q2 q3 q4 q5 q6
        first | refine v_iinc (ls' := [_, _, _, _]) d_L_law_1520 rfl (x_inc_8 _) (by decide) rfl ?_ | refine v_iinc (ls' := [_, _, _, _]) d_L_law_1520 rfl rfl (by decide) rfl ?_
        refine v_goto d_L_law_1523 ?_
        exact ih (i + 8) (by omega) (by omega) S' P' I' J' n' cs' sl' q1 q2 q3 q4 (by omega) (by omega)
      refine v_iload_n d_L_law_18 rfl ?_
      refine v_aload_n d_L_law_19 rfl ?_
      refine v_slen d_L_law_20 (hs0) ?_
      refine v_bipush (v := nI 8) d_L_law_21 x_bp_8 ?_
      refine v_isub d_L_law_23 ?_
      refine w_icmp_gt d_L_law_24 (fun a24 => False.elim (by rw [x_sub8 hN, x_ti (by omega)] at a24; omega)) (fun a24 => ?_)
      refine v_aload_n d_L_law_27 rfl ?_
      refine v_iload_n d_L_law_28 rfl ?_
      refine v_sx _ d_L_law_29 (rfl) (hs0) (⟨by omega, by omega⟩) hxs ?_
      refine v_bipush (v := nI 63) d_L_law_30 x_bp_63 ?_
      refine v_iand d_L_law_32 ?_
      refine lw_switch (lw_c_surface hs0 hxs hi8 hN hR mi (by omega) (by omega) hnx) (lw_c_about hs0 hxs hi8 hN hR mi (by omega) (by omega) hnx) (lw_c_board hs0 hxs hi8 hN hR mi (by omega) (by omega) hnx) (lw_c_eye hs0 hxs hi8 hN hR mi (by omega) (by omega) hnx) (lw_c_picture hs0 hxs hi8 hN hR mi (by omega) (by omega) hnx) (lw_c_wish hs0 hxs hi8 hN hR mi (by omega) (by omega) hnx) (lw_c_paint hs0 hxs hi8 hN hR mi (by omega) (by omega) hnx) (lw_c_colour hs0 hxs hi8 hN hR mi (by omega) (by omega) hnx) (lw_c_ray hs0 hxs hi8 hN hR mi (by omega) (by omega) hnx) (lw_c_bounces hs0 hxs hi8 hN hR mi (by omega) (by omega) hnx) (lw_c_seen hs0 hxs hi8 hN hR mi (by omega) (by omega) hnx) (lw_c_wishes hs0 hxs hi8 hN hR mi (by omega) (by omega) hnx) (lw_c_painting hs0 hxs hi8 hN hR mi (by omega) (by omega) hnx) (lw_c_wash hs0 hxs hi8 hN hR mi (by omega) (by omega) hnx) (lw_c_idle hs0 hxs hi8 hN hR mi (by omega) (by omega) hnx) (lw_c_sway hs0 hxs hi8 hN hR mi (by omega) (by omega) hnx) (lw_c_hour hs0 hxs hi8 hN hR mi (by omega) (by omega) hnx) (lw_c_plate hs0 hxs hi8 hN hR mi (by omega) (by omega) hnx) (lw_c_want hs0 hxs hi8 hN hR mi (by omega) (by omega) hnx) (lw_c_wanted hs0 hxs hi8 hN hR mi (by omega) (by omega) hnx) (lw_c_lit hs0 hxs hi8 hN hR mi (by omega) (by omega) hnx) (lw_c_may hs0 hxs hi8 hN hR mi (by omega) (by omega) hnx) (lw_c_fewest hs0 hxs hi8 hN hR mi (by omega) (by omega) hnx) (lw_c_hole hs0 hxs hi8 hN hR mi (by omega) (by omega) hnx) (lw_c_few hs0 hxs hi8 hN hR mi (by omega) (by omega) hnx) (lw_c_sheet hs0 hxs hi8 hN hR mi (by omega) (by omega) hnx) (lw_c_lose hs0 hxs hi8 hN hR mi (by omega) (by omega) hnx) (lw_c_put hs0 hxs hi8 hN hR mi (by omega) (by omega) hnx) (lw_c_at hs0 hxs hi8 hN hR mi (by omega) (by omega) hnx) (lw_c_tell hs0 hxs hi8 hN hR mi (by omega) (by omega) hnx) (lw_c_name hs0 hxs hi8 hN hR mi (by omega) (by omega) hnx) (lw_c_as hs0 hxs hi8 hN hR mi (by omega) (by omega) hnx) (lw_c_trace hs0 hxs hi8 hN hR mi (by omega) (by omega) hnx) (lw_c_fault hs0 hxs hi8 hN hR mi (by omega) (by omega) hnx) (lw_c_many hs0 hxs hi8 hN hR mi (by omega) (by omega) hnx) (hnx S P I J n cs sl hs0 hxs ⟨fa, bd, hR⟩ mi (by omega) (by omega))
    · refine v_iload_n d_L_law_18 rfl ?_
      refine v_aload_n d_L_law_19 rfl ?_
      refine v_slen d_L_law_20 (hs0) ?_
      refine v_bipush (v := nI 8) d_L_law_21 x_bp_8 ?_
      refine v_isub d_L_law_23 ?_
      refine w_icmp_gt d_L_law_24 (fun a24 => ?_) (fun a24 => False.elim (by rw [x_sub8 hN, x_ti (by omega)] at a24; omega))
      refine v_iconst (v := nI 1) d_L_law_1526 x_ic_1 ?_
      refine v_ret (v := some (.int _)) d_L_law_1527 rfl ⟨rfl, _, rfl, rfl⟩ (by show cs ≤ 600000; omega) (by show sl ≤ 7302250; omega) ?_
      exact hK S P I J n

