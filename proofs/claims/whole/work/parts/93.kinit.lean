def k_S12 (S : x_S) : x_S := (x_u1 (x_u1 (x_u1 (x_u1 (x_u1 (x_u1 (x_u1 (x_u1 (x_u1 (x_u1 (x_u1 (x_u1 (x_u1 (x_u1 (x_u1 (x_u1 (x_u1 (x_u1 (x_u1 (x_u1 (x_u1 (x_u1 (x_u1 S 40 (.inr (0, 10))) 41 (.inr (0, 66))) 42 (.inr (0, 640))) 43 (.inr (0, 12))) 44 (.inr (0, 256))) 45 (.inr (0, 4))) 46 (.inr (0, 4))) 47 (.inr (0, 256))) 48 (.inr (0, 3))) 49 (.inr (0, 3))) 50 (.inr (0, 3))) 51 (.inr (0, 6400))) 52 (.inr (2, 640))) 53 (.inr (0, 18))) 54 (.inr (2, 3840))) 55 (.inr (0, 16))) 56 (.inr (0, 96))) 57 (.inr (2, 3840))) 58 (.inr (0, 16))) 59 (.inr (1, 16))) 60 (.inr (1, 16))) 61 (.inr (0, 3840))) 62 (.inr (0, 10)))
def k_P12 (P : x_P) : x_P := (x_u2 (x_u1 (x_u2 (x_u1 (x_u2 (x_u1 (x_u2 (x_u1 (x_u2 (x_u1 (x_u2 (x_u1 (x_u2 (x_u1 (x_u2 (x_u1 (x_u2 (x_u1 (x_u2 (x_u1 (x_u2 (x_u1 (x_u2 (x_u1 (x_u2 (x_u1 (x_u2 (x_u1 (x_u2 (x_u1 (x_u2 (x_u1 (x_u2 (x_u1 (x_u2 (x_u1 (x_u2 (x_u1 (x_u2 (x_u1 (x_u2 (x_u1 (x_u2 (x_u1 (x_u2 (x_u1 P 40 (fun _ => none)) 39 3 (some 40)) 41 (fun _ => none)) 39 4 (some 41)) 42 (fun _ => none)) 39 5 (some 42)) 43 (fun _ => none)) 39 6 (some 43)) 44 (fun _ => none)) 39 7 (some 44)) 45 (fun _ => none)) 39 9 (some 45)) 46 (fun _ => none)) 39 10 (some 46)) 47 (fun _ => none)) 39 11 (some 47)) 48 (fun _ => none)) 39 12 (some 48)) 49 (fun _ => none)) 39 13 (some 49)) 50 (fun _ => none)) 39 21 (some 50)) 51 (fun _ => none)) 39 22 (some 51)) 52 (fun _ => none)) 39 23 (some 52)) 53 (fun _ => none)) 39 25 (some 53)) 54 (fun _ => none)) 39 27 (some 54)) 55 (fun _ => none)) 39 29 (some 55)) 56 (fun _ => none)) 39 30 (some 56)) 57 (fun _ => none)) 39 31 (some 57)) 58 (fun _ => none)) 39 32 (some 58)) 59 (fun _ => none)) 39 33 (some 59)) 60 (fun _ => none)) 39 34 (some 60)) 61 (fun _ => none)) 39 35 (some 61)) 62 (fun _ => none)) 39 36 (some 62))
def k_I12 (I : x_I) : x_I := (x_u1 (x_u1 (x_u1 (x_u1 (x_u1 (x_u1 (x_u1 (x_u1 (x_u1 (x_u2 (x_u1 (x_u1 (x_u1 (x_u1 (x_u1 (x_u1 (x_u1 (x_u1 (x_u2 (x_u2 (x_u2 (x_u2 (x_u1 (x_u1 (x_u1 (x_u1 (x_u1 (x_u1 I 40 (fun _ => 0)) 41 (fun _ => 0)) 42 (fun _ => 0)) 43 (fun _ => 0)) 44 (fun _ => 0)) 45 (fun _ => 0)) 45 0 (-9)) 45 1 (-9)) 45 2 (-9)) 45 3 (-9)) 46 (fun _ => 0)) 47 (fun _ => 0)) 48 (fun _ => 0)) 49 (fun _ => 0)) 50 (fun _ => 0)) 51 (fun _ => 0)) 52 (fun _ => 0)) 53 (fun _ => 0)) 39 26 (-9)) 54 (fun _ => 0)) 55 (fun _ => 0)) 56 (fun _ => 0)) 57 (fun _ => 0)) 58 (fun _ => 0)) 59 (fun _ => 0)) 60 (fun _ => 0)) 61 (fun _ => 0)) 62 (fun _ => 0))
def k_J12 (J : x_J) : x_J := (x_u1 (x_u1 (x_u1 (x_u1 (x_u1 (x_u1 (x_u1 (x_u1 (x_u1 (x_u1 (x_u1 (x_u1 (x_u1 (x_u1 (x_u1 (x_u1 (x_u1 (x_u1 (x_u1 (x_u1 (x_u1 (x_u1 (x_u1 J 40 (fun _ => 0)) 41 (fun _ => 0)) 42 (fun _ => 0)) 43 (fun _ => 0)) 44 (fun _ => 0)) 45 (fun _ => 0)) 46 (fun _ => 0)) 47 (fun _ => 0)) 48 (fun _ => 0)) 49 (fun _ => 0)) 50 (fun _ => 0)) 51 (fun _ => 0)) 52 (fun _ => 0)) 53 (fun _ => 0)) 54 (fun _ => 0)) 55 (fun _ => 0)) 56 (fun _ => 0)) 57 (fun _ => 0)) 58 (fun _ => 0)) 59 (fun _ => 0)) 60 (fun _ => 0)) 61 (fun _ => 0)) 62 (fun _ => 0))
def k_S11 (S : x_S) : x_S := (x_u1 (x_u1 (x_u1 (x_u1 (x_u1 (x_u1 (x_u1 (x_u1 (x_u1 (x_u1 (x_u1 (x_u1 (x_u1 (x_u1 (x_u1 (x_u1 (x_u1 (x_u1 (x_u1 (x_u1 (x_u1 (x_u1 (x_u1 (x_u1 (x_u1 (x_u1 (x_u1 (x_u1 (x_u1 (x_u1 (x_u1 (x_u1 (x_u1 (x_u1 (x_u1 (x_u1 (x_u1 S 2 (.inl 9)) 3 (.inl 8)) 4 (.inr (3, 10))) 5 (.inl 6)) 6 (.inr (0, 3))) 7 (.inr (0, 3))) 8 (.inl 2)) 9 (.inr (0, 12))) 10 (.inr (4, 4))) 11 (.inr (0, 64))) 12 (.inr (0, 64))) 13 (.inr (0, 64))) 14 (.inr (0, 64))) 15 (.inr (0, 256))) 16 (.inr (0, 640))) 17 (.inr (1, 10))) 18 (.inr (0, 10))) 19 (.inl 1)) 20 (.inl 4)) 21 (.inr (0, 18))) 22 (.inr (1, 60))) 23 (.inr (0, 6))) 24 (.inl 3)) 25 (.inr (0, 16))) 26 (.inr (0, 96))) 27 (.inr (1, 16))) 28 (.inr (1, 16))) 29 (.inr (1, 17))) 30 (.inr (1, 17))) 31 (.inl 7)) 32 (.inr (4, 4))) 33 (.inr (0, 64))) 34 (.inr (0, 64))) 35 (.inr (0, 64))) 36 (.inr (0, 64))) 37 (.inr (0, 4))) 38 (.inr (0, 4)))
def k_P11 (P : x_P) : x_P := (x_u2 (x_u2 (x_u1 (x_u2 (x_u1 (x_u2 (x_u1 (x_u1 (x_u1 (x_u1 (x_u1 (x_u1 (x_u2 (x_u2 (x_u2 (x_u2 (x_u2 (x_u1 (x_u2 (x_u1 (x_u2 (x_u1 (x_u2 (x_u1 (x_u2 (x_u1 (x_u2 (x_u1 (x_u1 (x_u2 (x_u1 (x_u2 (x_u1 (x_u2 (x_u1 (x_u1 (x_u2 (x_u2 (x_u2 (x_u2 (x_u1 (x_u2 (x_u1 (x_u2 (x_u1 (x_u2 (x_u1 (x_u2 (x_u1 (x_u2 (x_u1 (x_u1 (x_u1 (x_u1 (x_u1 (x_u2 (x_u1 (x_u1 (x_u2 (x_u2 (x_u2 (x_u1 (x_u2 (x_u1 (x_u1 (x_u2 (x_u2 (x_u1 (x_u1 (x_u2 (x_u1 P 2 (fun _ => none)) 1 0 (some 2)) 3 (fun _ => none)) 4 (fun _ => none)) 3 0 (some 4)) 1 1 (some 3)) 5 (fun _ => none)) 6 (fun _ => none)) 5 1 (some 6)) 7 (fun _ => none)) 5 2 (some 7)) 5 0 (some 3)) 1 2 (some 5)) 8 (fun _ => none)) 9 (fun _ => none)) 8 2 (some 9)) 10 (fun j => bif Nat.blt j 4 then some (10 + 1 + j) else none)) 11 (fun _ => none)) 12 (fun _ => none)) 13 (fun _ => none)) 14 (fun _ => none)) 8 3 (some 10)) 15 (fun _ => none)) 8 4 (some 15)) 16 (fun _ => none)) 8 5 (some 16)) 17 (fun _ => none)) 8 6 (some 17)) 18 (fun _ => none)) 8 7 (some 18)) 19 (fun _ => none)) 8 8 (some 19)) 8 0 (some 3)) 8 1 (some 5)) 1 3 (some 8)) 20 (fun _ => none)) 21 (fun _ => none)) 20 2 (some 21)) 22 (fun _ => none)) 20 3 (some 22)) 23 (fun _ => none)) 20 4 (some 23)) 24 (fun _ => none)) 25 (fun _ => none)) 24 0 (some 25)) 26 (fun _ => none)) 24 1 (some 26)) 27 (fun _ => none)) 24 2 (some 27)) 28 (fun _ => none)) 24 3 (some 28)) 29 (fun _ => none)) 24 4 (some 29)) 30 (fun _ => none)) 24 5 (some 30)) 20 5 (some 24)) 20 0 (some 3)) 20 1 (some 5)) 1 4 (some 20)) 31 (fun _ => none)) 32 (fun j => bif Nat.blt j 4 then some (32 + 1 + j) else none)) 33 (fun _ => none)) 34 (fun _ => none)) 35 (fun _ => none)) 36 (fun _ => none)) 31 0 (some 32)) 37 (fun _ => none)) 31 1 (some 37)) 38 (fun _ => none)) 31 2 (some 38)) 1 5 (some 31))
def k_I11 (I : x_I) : x_I := (x_u1 (x_u2 (x_u2 (x_u2 (x_u2 (x_u1 (x_u1 (x_u1 (x_u1 (x_u1 (x_u1 (x_u1 (x_u2 (x_u1 (x_u1 (x_u1 (x_u1 (x_u1 (x_u1 (x_u1 (x_u1 (x_u1 (x_u1 (x_u1 (x_u2 (x_u2 (x_u2 (x_u2 (x_u2 (x_u2 (x_u2 (x_u2 (x_u2 (x_u1 (x_u1 (x_u1 (x_u1 (x_u1 (x_u1 (x_u1 (x_u1 (x_u1 (x_u1 (x_u1 (x_u1 (x_u1 (x_u1 (x_u1 (x_u1 (x_u1 (x_u1 I 2 (fun _ => 0)) 3 (fun _ => 0)) 4 (fun _ => 0)) 5 (fun _ => 0)) 6 (fun _ => 0)) 7 (fun _ => 0)) 8 (fun _ => 0)) 9 (fun _ => 0)) 10 (fun _ => 0)) 11 (fun _ => 0)) 12 (fun _ => 0)) 13 (fun _ => 0)) 14 (fun _ => 0)) 15 (fun _ => 0)) 16 (fun _ => 0)) 17 (fun _ => 0)) 18 (fun _ => 0)) 19 (fun _ => 0)) 19 0 (nI 2)) 19 1 (nI 20)) 19 2 (nI 0)) 19 3 (nI 0)) 19 4 (nI 1)) 19 5 (nI 1)) 19 6 (nI 0)) 19 7 (nI 1)) 19 8 ((nI 1) * (nI 1))) 20 (fun _ => 0)) 21 (fun _ => 0)) 22 (fun _ => 0)) 23 (fun _ => 0)) 24 (fun _ => 0)) 25 (fun _ => 0)) 26 (fun _ => 0)) 27 (fun _ => 0)) 28 (fun _ => 0)) 29 (fun _ => 0)) 30 (fun _ => 0)) 20 7 (-1)) 31 (fun _ => 0)) 32 (fun _ => 0)) 33 (fun _ => 0)) 34 (fun _ => 0)) 35 (fun _ => 0)) 36 (fun _ => 0)) 37 (fun _ => 0)) 37 0 (-1)) 37 1 (-1)) 37 2 (-1)) 37 3 (-1)) 38 (fun _ => 0))
def k_J11 (J : x_J) : x_J := (x_u1 (x_u1 (x_u1 (x_u1 (x_u1 (x_u1 (x_u1 (x_u1 (x_u1 (x_u1 (x_u1 (x_u1 (x_u1 (x_u1 (x_u1 (x_u1 (x_u1 (x_u1 (x_u1 (x_u1 (x_u1 (x_u1 (x_u1 (x_u1 (x_u1 (x_u1 (x_u1 (x_u1 (x_u1 (x_u1 (x_u1 (x_u1 (x_u1 (x_u1 (x_u1 (x_u1 (x_u1 J 2 (fun _ => 0)) 3 (fun _ => 0)) 4 (fun _ => 0)) 5 (fun _ => 0)) 6 (fun _ => 0)) 7 (fun _ => 0)) 8 (fun _ => 0)) 9 (fun _ => 0)) 10 (fun _ => 0)) 11 (fun _ => 0)) 12 (fun _ => 0)) 13 (fun _ => 0)) 14 (fun _ => 0)) 15 (fun _ => 0)) 16 (fun _ => 0)) 17 (fun _ => 0)) 18 (fun _ => 0)) 19 (fun _ => 0)) 20 (fun _ => 0)) 21 (fun _ => 0)) 22 (fun _ => 0)) 23 (fun _ => 0)) 24 (fun _ => 0)) 25 (fun _ => 0)) 26 (fun _ => 0)) 27 (fun _ => 0)) 28 (fun _ => 0)) 29 (fun _ => 0)) 30 (fun _ => 0)) 31 (fun _ => 0)) 32 (fun _ => 0)) 33 (fun _ => 0)) 34 (fun _ => 0)) 35 (fun _ => 0)) 36 (fun _ => 0)) 37 (fun _ => 0)) 38 (fun _ => 0))

set_option maxRecDepth 100000 in
set_option maxHeartbeats 4000000 in
theorem t_X12_init {K : x_K} {S : x_S} {P : x_P} {I : x_I} {J : x_J} (h39 : S 39 = .inl 12) (hK : K none (k_S12 S) (k_P12 P) (k_I12 I) (k_J12 J) 62) : x_Call f_X12_init [.ref 39] K S P I J 39 := by
  refine x_intro (by decide) 0 (ls := [_]) rfl (Nat.le_of_ble_eq_true rfl) ?_
  refine v_aload_n d_X12_init_0 rfl ?_
  refine v_obj d_X12_init_1 lo_X12_1 lo_in lo_cd (by decide) (Nat.le_of_ble_eq_true rfl) ?_
  refine v_aload_n d_X12_init_4 rfl ?_
  refine v_bipush (v := nI 10) d_X12_init_5 x_bp_10 ?_
  refine v_newa (t := 0) d_X12_init_7 rfl (by decide) la_int (rfl) (by decide) (by decide) (by decide) (by decide) ?_
  refine v_pr d_X12_init_9 (lp_X12_7_12) rfl (h39) (fun _ => rfl) (fun _ => rfl) ?_
  refine v_aload_n d_X12_init_12 rfl ?_
  refine v_bipush (v := nI 66) d_X12_init_13 x_bp_66 ?_
  refine v_newa (t := 0) d_X12_init_15 rfl (by decide) la_int (rfl) (by decide) (by decide) (by decide) (by decide) ?_
  refine v_pr d_X12_init_17 (lp_X12_13_12) rfl (h39) (fun _ => rfl) (fun _ => rfl) ?_
  refine v_aload_n d_X12_init_20 rfl ?_
  refine v_sipush (v := nI 640) d_X12_init_21 x_sp_640 ?_
  refine v_newa (t := 0) d_X12_init_24 rfl (by decide) la_int (rfl) (by decide) (by decide) (by decide) (by decide) ?_
  refine v_pr d_X12_init_26 (lp_X12_16_12) rfl (h39) (fun _ => rfl) (fun _ => rfl) ?_
  refine v_aload_n d_X12_init_29 rfl ?_
  refine v_bipush (v := nI 12) d_X12_init_30 x_bp_12 ?_
  refine v_newa (t := 0) d_X12_init_32 rfl (by decide) la_int (rfl) (by decide) (by decide) (by decide) (by decide) ?_
  refine v_pr d_X12_init_34 (lp_X12_19_12) rfl (h39) (fun _ => rfl) (fun _ => rfl) ?_
  refine v_aload_n d_X12_init_37 rfl ?_
  refine v_sipush (v := nI 256) d_X12_init_38 x_sp_256 ?_
  refine v_newa (t := 0) d_X12_init_41 rfl (by decide) la_int (rfl) (by decide) (by decide) (by decide) (by decide) ?_
  refine v_pr d_X12_init_43 (lp_X12_22_12) rfl (h39) (fun _ => rfl) (fun _ => rfl) ?_
  refine v_aload_n d_X12_init_46 rfl ?_
  refine v_iconst (v := nI 4) d_X12_init_47 x_ic_4 ?_
  refine v_newa (t := 0) d_X12_init_48 rfl (by decide) la_int (rfl) (by decide) (by decide) (by decide) (by decide) ?_
  refine v_dup d_X12_init_50 rfl ?_
  refine v_iconst (v := nI 0) d_X12_init_51 x_ic_0 ?_
  refine v_bipush (v := (-9)) d_X12_init_52 x_bp_m9 ?_
  refine v_iast _ d_X12_init_54 (rfl) (rfl) (⟨by decide, by decide⟩) ?_
  refine v_dup d_X12_init_55 rfl ?_
  refine v_iconst (v := nI 1) d_X12_init_56 x_ic_1 ?_
  refine v_bipush (v := (-9)) d_X12_init_57 x_bp_m9 ?_
  refine v_iast _ d_X12_init_59 (rfl) (rfl) (⟨by decide, by decide⟩) ?_
  refine v_dup d_X12_init_60 rfl ?_
  refine v_iconst (v := nI 2) d_X12_init_61 x_ic_2 ?_
  refine v_bipush (v := (-9)) d_X12_init_62 x_bp_m9 ?_
  refine v_iast _ d_X12_init_64 (rfl) (rfl) (⟨by decide, by decide⟩) ?_
  refine v_dup d_X12_init_65 rfl ?_
  refine v_iconst (v := nI 3) d_X12_init_66 x_ic_3 ?_
  refine v_bipush (v := (-9)) d_X12_init_67 x_bp_m9 ?_
  refine v_iast _ d_X12_init_69 (rfl) (rfl) (⟨by decide, by decide⟩) ?_
  refine v_pr d_X12_init_70 (lp_X12_25_12) rfl (h39) (fun _ => rfl) (fun _ => rfl) ?_
  refine v_aload_n d_X12_init_73 rfl ?_
  refine v_iconst (v := nI 4) d_X12_init_74 x_ic_4 ?_
  refine v_newa (t := 0) d_X12_init_75 rfl (by decide) la_int (rfl) (by decide) (by decide) (by decide) (by decide) ?_
  refine v_pr d_X12_init_77 (lp_X12_28_12) rfl (h39) (fun _ => rfl) (fun _ => rfl) ?_
  refine v_aload_n d_X12_init_80 rfl ?_
  refine v_sipush (v := nI 256) d_X12_init_81 x_sp_256 ?_
  refine v_newa (t := 0) d_X12_init_84 rfl (by decide) la_int (rfl) (by decide) (by decide) (by decide) (by decide) ?_
  refine v_pr d_X12_init_86 (lp_X12_31_12) rfl (h39) (fun _ => rfl) (fun _ => rfl) ?_
  refine v_aload_n d_X12_init_89 rfl ?_
  refine v_iconst (v := nI 3) d_X12_init_90 x_ic_3 ?_
  refine v_newa (t := 0) d_X12_init_91 rfl (by decide) la_int (rfl) (by decide) (by decide) (by decide) (by decide) ?_
  refine v_pr d_X12_init_93 (lp_X12_34_12) rfl (h39) (fun _ => rfl) (fun _ => rfl) ?_
  refine v_aload_n d_X12_init_96 rfl ?_
  refine v_iconst (v := nI 3) d_X12_init_97 x_ic_3 ?_
  refine v_newa (t := 0) d_X12_init_98 rfl (by decide) la_int (rfl) (by decide) (by decide) (by decide) (by decide) ?_
  refine v_pr d_X12_init_100 (lp_X12_37_12) rfl (h39) (fun _ => rfl) (fun _ => rfl) ?_
  refine v_aload_n d_X12_init_103 rfl ?_
  refine v_iconst (v := nI 3) d_X12_init_104 x_ic_3 ?_
  refine v_newa (t := 0) d_X12_init_105 rfl (by decide) la_int (rfl) (by decide) (by decide) (by decide) (by decide) ?_
  refine v_pr d_X12_init_107 (lp_X12_40_12) rfl (h39) (fun _ => rfl) (fun _ => rfl) ?_
  refine v_aload_n d_X12_init_110 rfl ?_
  refine v_sipush (v := nI 6400) d_X12_init_111 x_sp_6400 ?_
  refine v_newa (t := 0) d_X12_init_114 rfl (by decide) la_int (rfl) (by decide) (by decide) (by decide) (by decide) ?_
  refine v_pr d_X12_init_116 (lp_X12_43_12) rfl (h39) (fun _ => rfl) (fun _ => rfl) ?_
  refine v_aload_n d_X12_init_119 rfl ?_
  refine v_sipush (v := nI 640) d_X12_init_120 x_sp_640 ?_
  refine v_newa (t := 2) d_X12_init_123 rfl (by decide) la_boolean (rfl) (by decide) (by decide) (by decide) (by decide) ?_
  refine v_pr d_X12_init_125 (lp_X12_46_12) rfl (h39) (fun _ => rfl) (fun _ => rfl) ?_
  refine v_aload_n d_X12_init_128 rfl ?_
  refine v_bipush (v := nI 18) d_X12_init_129 x_bp_18 ?_
  refine v_newa (t := 0) d_X12_init_131 rfl (by decide) la_int (rfl) (by decide) (by decide) (by decide) (by decide) ?_
  refine v_pr d_X12_init_133 (lp_X12_50_12) rfl (h39) (fun _ => rfl) (fun _ => rfl) ?_
  refine v_aload_n d_X12_init_136 rfl ?_
  refine v_bipush (v := (-9)) d_X12_init_137 x_bp_m9 ?_
  refine v_pi d_X12_init_139 (lp_X12_53_12 _) rfl (h39) (rfl) rfl ?_
  refine v_aload_n d_X12_init_142 rfl ?_
  refine v_sipush (v := nI 3840) d_X12_init_143 x_sp_3840 ?_
  refine v_newa (t := 2) d_X12_init_146 rfl (by decide) la_boolean (rfl) (by decide) (by decide) (by decide) (by decide) ?_
  refine v_pr d_X12_init_148 (lp_X12_57_12) rfl (h39) (fun _ => rfl) (fun _ => rfl) ?_
  refine v_aload_n d_X12_init_151 rfl ?_
  refine v_bipush (v := nI 16) d_X12_init_152 x_bp_16 ?_
  refine v_newa (t := 0) d_X12_init_154 rfl (by decide) la_int (rfl) (by decide) (by decide) (by decide) (by decide) ?_
  refine v_pr d_X12_init_156 (lp_X12_60_12) rfl (h39) (fun _ => rfl) (fun _ => rfl) ?_
  refine v_aload_n d_X12_init_159 rfl ?_
  refine v_bipush (v := nI 96) d_X12_init_160 x_bp_96 ?_
  refine v_newa (t := 0) d_X12_init_162 rfl (by decide) la_int (rfl) (by decide) (by decide) (by decide) (by decide) ?_
  refine v_pr d_X12_init_164 (lp_X12_63_12) rfl (h39) (fun _ => rfl) (fun _ => rfl) ?_
  refine v_aload_n d_X12_init_167 rfl ?_
  refine v_sipush (v := nI 3840) d_X12_init_168 x_sp_3840 ?_
  refine v_newa (t := 2) d_X12_init_171 rfl (by decide) la_boolean (rfl) (by decide) (by decide) (by decide) (by decide) ?_
  refine v_pr d_X12_init_173 (lp_X12_66_12) rfl (h39) (fun _ => rfl) (fun _ => rfl) ?_
  refine v_aload_n d_X12_init_176 rfl ?_
  refine v_bipush (v := nI 16) d_X12_init_177 x_bp_16 ?_
  refine v_newa (t := 0) d_X12_init_179 rfl (by decide) la_int (rfl) (by decide) (by decide) (by decide) (by decide) ?_
  refine v_pr d_X12_init_181 (lp_X12_69_12) rfl (h39) (fun _ => rfl) (fun _ => rfl) ?_
  refine v_aload_n d_X12_init_184 rfl ?_
  refine v_bipush (v := nI 16) d_X12_init_185 x_bp_16 ?_
  refine v_newa (t := 1) d_X12_init_187 rfl (by decide) la_long (rfl) (by decide) (by decide) (by decide) (by decide) ?_
  refine v_pr d_X12_init_189 (lp_X12_72_12) rfl (h39) (fun _ => rfl) (fun _ => rfl) ?_
  refine v_aload_n d_X12_init_192 rfl ?_
  refine v_bipush (v := nI 16) d_X12_init_193 x_bp_16 ?_
  refine v_newa (t := 1) d_X12_init_195 rfl (by decide) la_long (rfl) (by decide) (by decide) (by decide) (by decide) ?_
  refine v_pr d_X12_init_197 (lp_X12_76_12) rfl (h39) (fun _ => rfl) (fun _ => rfl) ?_
  refine v_aload_n d_X12_init_200 rfl ?_
  refine v_sipush (v := nI 3840) d_X12_init_201 x_sp_3840 ?_
  refine v_newa (t := 0) d_X12_init_204 rfl (by decide) la_int (rfl) (by decide) (by decide) (by decide) (by decide) ?_
  refine v_pr d_X12_init_206 (lp_X12_79_12) rfl (h39) (fun _ => rfl) (fun _ => rfl) ?_
  refine v_aload_n d_X12_init_209 rfl ?_
  refine v_bipush (v := nI 10) d_X12_init_210 x_bp_10 ?_
  refine v_newa (t := 0) d_X12_init_212 rfl (by decide) la_int (rfl) (by decide) (by decide) (by decide) (by decide) ?_
  refine v_pr d_X12_init_214 (lp_X12_82_12) rfl (h39) (fun _ => rfl) (fun _ => rfl) ?_
  refine v_ret (v := none) d_X12_init_217 rfl ⟨rfl, rfl⟩ (by decide) (by decide) ?_
  exact hK

set_option maxRecDepth 100000 in
set_option maxHeartbeats 4000000 in
theorem t_X9_init {K : x_K} {S : x_S} {P : x_P} {I : x_I} {J : x_J} (h2 : S 2 = .inl 9) (hK : K none S P I J 2) : x_Call f_X9_init [.ref 2] K S P I J 2 := by
  refine x_intro (by decide) 0 (ls := [_]) rfl (Nat.le_of_ble_eq_true rfl) ?_
  refine v_aload_n d_X9_init_0 rfl ?_
  refine v_obj d_X9_init_1 lo_X9_1 lo_in lo_cd (by decide) (Nat.le_of_ble_eq_true rfl) ?_
  refine v_ret (v := none) d_X9_init_4 rfl ⟨rfl, rfl⟩ (by decide) (by decide) ?_
  exact hK

set_option maxRecDepth 100000 in
set_option maxHeartbeats 4000000 in
theorem t_X8_init {K : x_K} {S : x_S} {P : x_P} {I : x_I} {J : x_J} (h3 : S 3 = .inl 8) (hK : K none (x_u1 S 4 (.inr (3, 10))) (x_u2 (x_u1 P 4 (fun _ => none)) 3 0 (some 4)) (x_u1 I 4 (fun _ => 0)) (x_u1 J 4 (fun _ => 0)) 4) : x_Call f_X8_init [.ref 3] K S P I J 3 := by
  refine x_intro (by decide) 0 (ls := [_]) rfl (Nat.le_of_ble_eq_true rfl) ?_
  refine v_aload_n d_X8_init_0 rfl ?_
  refine v_obj d_X8_init_1 lo_X8_3 lo_in lo_cd (by decide) (Nat.le_of_ble_eq_true rfl) ?_
  refine v_aload_n d_X8_init_4 rfl ?_
  refine v_bipush (v := nI 10) d_X8_init_5 x_bp_10 ?_
  refine v_anew d_X8_init_7 ll_X8_9 la_wall rfl (by decide) (by decide) (by decide) (by decide) ?_
  refine v_pr d_X8_init_10 (lp_X8_11_8) rfl (h3) (fun _ => rfl) (fun _ => rfl) ?_
  refine v_ret (v := none) d_X8_init_13 rfl ⟨rfl, rfl⟩ (by decide) (by decide) ?_
  exact hK

set_option maxRecDepth 100000 in
set_option maxHeartbeats 4000000 in
theorem t_X6_init {K : x_K} {S : x_S} {P : x_P} {I : x_I} {J : x_J} (h5 : S 5 = .inl 6) (hK : K none (x_u1 (x_u1 S 6 (.inr (0, 3))) 7 (.inr (0, 3))) (x_u2 (x_u2 (x_u1 (x_u2 (x_u1 P 6 (fun _ => none)) 5 1 (some 6)) 7 (fun _ => none)) 5 2 (some 7)) 5 0 (some 3)) (x_u1 (x_u1 I 6 (fun _ => 0)) 7 (fun _ => 0)) (x_u1 (x_u1 J 6 (fun _ => 0)) 7 (fun _ => 0)) 7) : x_Call f_X6_init [.ref 5, .ref 3] K S P I J 5 := by
  refine x_intro (by decide) 0 (ls := [_, _]) rfl (Nat.le_of_ble_eq_true rfl) ?_
  refine v_aload_n d_X6_init_0 rfl ?_
  refine v_obj d_X6_init_1 lo_X6_3 lo_in lo_cd (by decide) (Nat.le_of_ble_eq_true rfl) ?_
  refine v_aload_n d_X6_init_4 rfl ?_
  refine v_iconst (v := nI 3) d_X6_init_5 x_ic_3 ?_
  refine v_newa (t := 0) d_X6_init_6 rfl (by decide) la_int (rfl) (by decide) (by decide) (by decide) (by decide) ?_
  refine v_pr d_X6_init_8 (lp_X6_9_6) rfl (h5) (fun _ => rfl) (fun _ => rfl) ?_
  refine v_aload_n d_X6_init_11 rfl ?_
  refine v_iconst (v := nI 3) d_X6_init_12 x_ic_3 ?_
  refine v_newa (t := 0) d_X6_init_13 rfl (by decide) la_int (rfl) (by decide) (by decide) (by decide) (by decide) ?_
  refine v_pr d_X6_init_15 (lp_X6_15_6) rfl (h5) (fun _ => rfl) (fun _ => rfl) ?_
  refine v_aload_n d_X6_init_18 rfl ?_
  refine v_aload_n d_X6_init_19 rfl ?_
  refine v_pr d_X6_init_20 (lp_X6_18_6) rfl (h5) (fun _ => rfl) (fun _ => rfl) ?_
  refine v_ret (v := none) d_X6_init_23 rfl ⟨rfl, rfl⟩ (by decide) (by decide) ?_
  exact hK

set_option maxRecDepth 100000 in
set_option maxHeartbeats 4000000 in
theorem t_X3_init {K : x_K} {S : x_S} {P : x_P} {I : x_I} {J : x_J} (h24 : S 24 = .inl 3) (hK : K none (x_u1 (x_u1 (x_u1 (x_u1 (x_u1 (x_u1 S 25 (.inr (0, 16))) 26 (.inr (0, 96))) 27 (.inr (1, 16))) 28 (.inr (1, 16))) 29 (.inr (1, 17))) 30 (.inr (1, 17))) (x_u2 (x_u1 (x_u2 (x_u1 (x_u2 (x_u1 (x_u2 (x_u1 (x_u2 (x_u1 (x_u2 (x_u1 P 25 (fun _ => none)) 24 0 (some 25)) 26 (fun _ => none)) 24 1 (some 26)) 27 (fun _ => none)) 24 2 (some 27)) 28 (fun _ => none)) 24 3 (some 28)) 29 (fun _ => none)) 24 4 (some 29)) 30 (fun _ => none)) 24 5 (some 30)) (x_u1 (x_u1 (x_u1 (x_u1 (x_u1 (x_u1 I 25 (fun _ => 0)) 26 (fun _ => 0)) 27 (fun _ => 0)) 28 (fun _ => 0)) 29 (fun _ => 0)) 30 (fun _ => 0)) (x_u1 (x_u1 (x_u1 (x_u1 (x_u1 (x_u1 J 25 (fun _ => 0)) 26 (fun _ => 0)) 27 (fun _ => 0)) 28 (fun _ => 0)) 29 (fun _ => 0)) 30 (fun _ => 0)) 30) : x_Call f_X3_init [.ref 24] K S P I J 24 := by
  refine x_intro (by decide) 0 (ls := [_]) rfl (Nat.le_of_ble_eq_true rfl) ?_
  refine v_aload_n d_X3_init_0 rfl ?_
  refine v_obj d_X3_init_1 lo_X3_3 lo_in lo_cd (by decide) (Nat.le_of_ble_eq_true rfl) ?_
  refine v_aload_n d_X3_init_4 rfl ?_
  refine v_bipush (v := nI 16) d_X3_init_5 x_bp_16 ?_
  refine v_newa (t := 0) d_X3_init_7 rfl (by decide) la_int (rfl) (by decide) (by decide) (by decide) (by decide) ?_
  refine v_pr d_X3_init_9 (lp_X3_9_3) rfl (h24) (fun _ => rfl) (fun _ => rfl) ?_
  refine v_aload_n d_X3_init_12 rfl ?_
  refine v_bipush (v := nI 96) d_X3_init_13 x_bp_96 ?_
  refine v_newa (t := 0) d_X3_init_15 rfl (by decide) la_int (rfl) (by decide) (by decide) (by decide) (by decide) ?_
  refine v_pr d_X3_init_17 (lp_X3_15_3) rfl (h24) (fun _ => rfl) (fun _ => rfl) ?_
  refine v_aload_n d_X3_init_20 rfl ?_
  refine v_bipush (v := nI 16) d_X3_init_21 x_bp_16 ?_
  refine v_newa (t := 1) d_X3_init_23 rfl (by decide) la_long (rfl) (by decide) (by decide) (by decide) (by decide) ?_
  refine v_pr d_X3_init_25 (lp_X3_18_3) rfl (h24) (fun _ => rfl) (fun _ => rfl) ?_
  refine v_aload_n d_X3_init_28 rfl ?_
  refine v_bipush (v := nI 16) d_X3_init_29 x_bp_16 ?_
  refine v_newa (t := 1) d_X3_init_31 rfl (by decide) la_long (rfl) (by decide) (by decide) (by decide) (by decide) ?_
  refine v_pr d_X3_init_33 (lp_X3_22_3) rfl (h24) (fun _ => rfl) (fun _ => rfl) ?_
  refine v_aload_n d_X3_init_36 rfl ?_
  refine v_bipush (v := nI 17) d_X3_init_37 x_bp_17 ?_
  refine v_newa (t := 1) d_X3_init_39 rfl (by decide) la_long (rfl) (by decide) (by decide) (by decide) (by decide) ?_
  refine v_pr d_X3_init_41 (lp_X3_25_3) rfl (h24) (fun _ => rfl) (fun _ => rfl) ?_
  refine v_aload_n d_X3_init_44 rfl ?_
  refine v_bipush (v := nI 17) d_X3_init_45 x_bp_17 ?_
  refine v_newa (t := 1) d_X3_init_47 rfl (by decide) la_long (rfl) (by decide) (by decide) (by decide) (by decide) ?_
  refine v_pr d_X3_init_49 (lp_X3_28_3) rfl (h24) (fun _ => rfl) (fun _ => rfl) ?_
  refine v_ret (v := none) d_X3_init_52 rfl ⟨rfl, rfl⟩ (by decide) (by decide) ?_
  exact hK

set_option maxRecDepth 100000 in
set_option maxHeartbeats 4000000 in
theorem t_X1_init0 {K : x_K} {S : x_S} {P : x_P} {I : x_I} {J : x_J} (h19 : S 19 = .inl 1) (hK : K none S P (x_u2 (x_u2 (x_u2 (x_u2 (x_u2 (x_u2 (x_u2 (x_u2 (x_u2 I 19 0 (nI 2)) 19 1 (nI 20)) 19 2 (nI 0)) 19 3 (nI 0)) 19 4 (nI 1)) 19 5 (nI 1)) 19 6 (nI 0)) 19 7 (nI 1)) 19 8 ((nI 1) * (nI 1))) J 19) : x_Call f_X1_init [.ref 19, .int (nI 2), .int (nI 20), .int (nI 0), .int (nI 0), .int (nI 1), .int (nI 1)] K S P I J 19 := by
  refine x_intro (by decide) 0 (ls := [_, _, _, _, _, _, _]) rfl (Nat.le_of_ble_eq_true rfl) ?_
  refine v_aload_n d_X1_init_0 rfl ?_
  refine v_obj d_X1_init_1 lo_X1_3 lo_in lo_cd (by decide) (Nat.le_of_ble_eq_true rfl) ?_
  refine v_aload_n d_X1_init_4 rfl ?_
  refine v_iload_n d_X1_init_5 rfl ?_
  refine v_pi d_X1_init_6 (lp_X1_9_1) rfl (h19) (rfl) rfl ?_
  refine v_aload_n d_X1_init_9 rfl ?_
  refine v_iload_n d_X1_init_10 rfl ?_
  refine v_pi d_X1_init_11 (lp_X1_15_1) rfl (h19) (rfl) rfl ?_
  refine v_aload_n d_X1_init_14 rfl ?_
  refine v_iload_n d_X1_init_15 rfl ?_
  refine v_pi d_X1_init_16 (lp_X1_18_1) rfl (h19) (rfl) rfl ?_
  refine v_aload_n d_X1_init_19 rfl ?_
  refine v_iload d_X1_init_20 rfl ?_
  refine v_pi d_X1_init_22 (lp_X1_21_1) rfl (h19) (rfl) rfl ?_
  refine v_aload_n d_X1_init_25 rfl ?_
  refine v_iload d_X1_init_26 rfl ?_
  refine v_pi d_X1_init_28 (lp_X1_24_1) rfl (h19) (rfl) rfl ?_
  refine v_aload_n d_X1_init_31 rfl ?_
  refine v_iload d_X1_init_32 rfl ?_
  refine v_pi d_X1_init_34 (lp_X1_27_1) rfl (h19) (rfl) rfl ?_
  refine v_aload_n d_X1_init_37 rfl ?_
  refine v_iload_n d_X1_init_38 rfl ?_
  refine w_if_ne d_X1_init_39 (fun _ => ?_) (fun h39 => absurd h39 (by decide))
  refine v_iconst (v := nI 0) d_X1_init_46 x_ic_0 ?_
  refine v_pi d_X1_init_47 (lp_X1_30_1) rfl (h19) (rfl) rfl ?_
  refine v_aload_n d_X1_init_50 rfl ?_
  refine v_iload_n d_X1_init_51 rfl ?_
  refine v_iconst (v := nI 2) d_X1_init_52 x_ic_2 ?_
  refine w_icmp_ne d_X1_init_53 (fun h53 => absurd h53 (by decide)) (fun _ => ?_)
  refine v_iconst (v := nI 1) d_X1_init_56 x_ic_1 ?_
  refine v_goto d_X1_init_57 ?_
  refine v_pi d_X1_init_61 (lp_X1_33_1) rfl (h19) (rfl) rfl ?_
  refine v_aload_n d_X1_init_64 rfl ?_
  refine v_iload d_X1_init_65 rfl ?_
  refine v_iload d_X1_init_67 rfl ?_
  refine v_imul d_X1_init_69 ?_
  refine v_pi d_X1_init_70 (lp_X1_36_1) rfl (h19) (rfl) rfl ?_
  refine v_ret (v := none) d_X1_init_73 rfl ⟨rfl, rfl⟩ (by decide) (by decide) ?_
  exact hK

set_option maxRecDepth 100000 in
set_option maxHeartbeats 4000000 in
theorem t_X4_init {K : x_K} {S : x_S} {P : x_P} {I : x_I} {J : x_J} (h20 : S 20 = .inl 4) (hK : K none (x_u1 (x_u1 (x_u1 (x_u1 (x_u1 (x_u1 (x_u1 (x_u1 (x_u1 (x_u1 S 21 (.inr (0, 18))) 22 (.inr (1, 60))) 23 (.inr (0, 6))) 24 (.inl 3)) 25 (.inr (0, 16))) 26 (.inr (0, 96))) 27 (.inr (1, 16))) 28 (.inr (1, 16))) 29 (.inr (1, 17))) 30 (.inr (1, 17))) (x_u2 (x_u2 (x_u2 (x_u2 (x_u1 (x_u2 (x_u1 (x_u2 (x_u1 (x_u2 (x_u1 (x_u2 (x_u1 (x_u2 (x_u1 (x_u1 (x_u2 (x_u1 (x_u2 (x_u1 (x_u2 (x_u1 P 21 (fun _ => none)) 20 2 (some 21)) 22 (fun _ => none)) 20 3 (some 22)) 23 (fun _ => none)) 20 4 (some 23)) 24 (fun _ => none)) 25 (fun _ => none)) 24 0 (some 25)) 26 (fun _ => none)) 24 1 (some 26)) 27 (fun _ => none)) 24 2 (some 27)) 28 (fun _ => none)) 24 3 (some 28)) 29 (fun _ => none)) 24 4 (some 29)) 30 (fun _ => none)) 24 5 (some 30)) 20 5 (some 24)) 20 0 (some 3)) 20 1 (some 5)) (x_u2 (x_u1 (x_u1 (x_u1 (x_u1 (x_u1 (x_u1 (x_u1 (x_u1 (x_u1 (x_u1 I 21 (fun _ => 0)) 22 (fun _ => 0)) 23 (fun _ => 0)) 24 (fun _ => 0)) 25 (fun _ => 0)) 26 (fun _ => 0)) 27 (fun _ => 0)) 28 (fun _ => 0)) 29 (fun _ => 0)) 30 (fun _ => 0)) 20 7 (-1)) (x_u1 (x_u1 (x_u1 (x_u1 (x_u1 (x_u1 (x_u1 (x_u1 (x_u1 (x_u1 J 21 (fun _ => 0)) 22 (fun _ => 0)) 23 (fun _ => 0)) 24 (fun _ => 0)) 25 (fun _ => 0)) 26 (fun _ => 0)) 27 (fun _ => 0)) 28 (fun _ => 0)) 29 (fun _ => 0)) 30 (fun _ => 0)) 30) : x_Call f_X4_init [.ref 20, .ref 3, .ref 5] K S P I J 20 := by
  refine x_intro (by decide) 0 (ls := [_, _, _]) rfl (Nat.le_of_ble_eq_true rfl) ?_
  refine v_aload_n d_X4_init_0 rfl ?_
  refine v_obj d_X4_init_1 lo_X4_3 lo_in lo_cd (by decide) (Nat.le_of_ble_eq_true rfl) ?_
  refine v_aload_n d_X4_init_4 rfl ?_
  refine v_bipush (v := nI 18) d_X4_init_5 x_bp_18 ?_
  refine v_newa (t := 0) d_X4_init_7 rfl (by decide) la_int (rfl) (by decide) (by decide) (by decide) (by decide) ?_
  refine v_pr d_X4_init_9 (lp_X4_9_4) rfl (h20) (fun _ => rfl) (fun _ => rfl) ?_
  refine v_aload_n d_X4_init_12 rfl ?_
  refine v_bipush (v := nI 60) d_X4_init_13 x_bp_60 ?_
  refine v_newa (t := 1) d_X4_init_15 rfl (by decide) la_long (rfl) (by decide) (by decide) (by decide) (by decide) ?_
  refine v_pr d_X4_init_17 (lp_X4_15_4) rfl (h20) (fun _ => rfl) (fun _ => rfl) ?_
  refine v_aload_n d_X4_init_20 rfl ?_
  refine v_bipush (v := nI 6) d_X4_init_21 x_bp_6 ?_
  refine v_newa (t := 0) d_X4_init_23 rfl (by decide) la_int (rfl) (by decide) (by decide) (by decide) (by decide) ?_
  refine v_pr d_X4_init_25 (lp_X4_19_4) rfl (h20) (fun _ => rfl) (fun _ => rfl) ?_
  refine v_aload_n d_X4_init_28 rfl ?_
  refine v_new d_X4_init_29 ln_X4_22 (by decide) (by decide) ?_
  refine v_dup d_X4_init_32 rfl ?_
  refine v_ci (as := []) (rest := [_, _]) d_X4_init_33 li_X4_24 rfl ⟨by decide, by decide⟩ rfl (Nat.le_of_ble_eq_true rfl) (by decide) (by decide) ?_
  refine t_X3_init rfl ?_
  refine v_pr d_X4_init_36 (lp_X4_25_4) rfl (h20) (fun _ => rfl) (fun _ => rfl) ?_
  refine v_aload_n d_X4_init_39 rfl ?_
  refine v_iconst (v := (-1)) d_X4_init_40 x_ic_m1 ?_
  refine v_pi d_X4_init_41 (lp_X4_29_4 _) rfl (h20) (rfl) rfl ?_
  refine v_aload_n d_X4_init_44 rfl ?_
  refine v_aload_n d_X4_init_45 rfl ?_
  refine v_pr d_X4_init_46 (lp_X4_33_4) rfl (h20) (fun _ => rfl) (fun _ => rfl) ?_
  refine v_aload_n d_X4_init_49 rfl ?_
  refine v_aload_n d_X4_init_50 rfl ?_
  refine v_pr d_X4_init_51 (lp_X4_37_4) rfl (h20) (fun _ => rfl) (fun _ => rfl) ?_
  refine v_ret (v := none) d_X4_init_54 rfl ⟨rfl, rfl⟩ (by decide) (by decide) ?_
  exact hK

