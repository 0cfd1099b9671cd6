set_option maxRecDepth 100000 in
set_option maxHeartbeats 4000000 in
theorem t_X7_init {K : x_K} {S : x_S} {P : x_P} {I : x_I} {J : x_J} (h31 : S 31 = .inl 7) (hK : K none (x_u1 (x_u1 (x_u1 (x_u1 (x_u1 (x_u1 (x_u1 S 32 (.inr (4, 4))) 33 (.inr (0, 64))) 34 (.inr (0, 64))) 35 (.inr (0, 64))) 36 (.inr (0, 64))) 37 (.inr (0, 4))) 38 (.inr (0, 4))) (x_u2 (x_u1 (x_u2 (x_u1 (x_u2 (x_u1 (x_u1 (x_u1 (x_u1 (x_u1 P 32 (fun j => bif Nat.blt j 4 then some (32 + 1 + j) else none)) 33 (fun _ => none)) 34 (fun _ => none)) 35 (fun _ => none)) 36 (fun _ => none)) 31 0 (some 32)) 37 (fun _ => none)) 31 1 (some 37)) 38 (fun _ => none)) 31 2 (some 38)) (x_u1 (x_u2 (x_u2 (x_u2 (x_u2 (x_u1 (x_u1 (x_u1 (x_u1 (x_u1 (x_u1 I 32 (fun _ => 0)) 33 (fun _ => 0)) 34 (fun _ => 0)) 35 (fun _ => 0)) 36 (fun _ => 0)) 37 (fun _ => 0)) 37 0 (-1)) 37 1 (-1)) 37 2 (-1)) 37 3 (-1)) 38 (fun _ => 0)) (x_u1 (x_u1 (x_u1 (x_u1 (x_u1 (x_u1 (x_u1 J 32 (fun _ => 0)) 33 (fun _ => 0)) 34 (fun _ => 0)) 35 (fun _ => 0)) 36 (fun _ => 0)) 37 (fun _ => 0)) 38 (fun _ => 0)) 38) : x_Call f_X7_init [.ref 31] K S P I J 31 := by
  refine x_intro (by decide) 0 (ls := [_]) rfl (Nat.le_of_ble_eq_true rfl) ?_
  refine v_aload_n d_X7_init_0 rfl ?_
  refine v_obj d_X7_init_1 lo_X7_3 lo_in lo_cd (by decide) (Nat.le_of_ble_eq_true rfl) ?_
  refine v_aload_n d_X7_init_4 rfl ?_
  refine v_iconst (v := nI 4) d_X7_init_5 x_ic_4 ?_
  refine v_bipush (v := nI 64) d_X7_init_6 x_bp_64 ?_
  refine v_mna d_X7_init_8 ll_X7_9 (by decide) (by decide) ?_
  refine v_pr d_X7_init_12 (lp_X7_11_7) rfl (h31) (fun _ => rfl) (fun _ => rfl) ?_
  refine v_aload_n d_X7_init_15 rfl ?_
  refine v_iconst (v := nI 4) d_X7_init_16 x_ic_4 ?_
  refine v_newa (t := 0) d_X7_init_17 rfl (by decide) la_int (rfl) (by decide) (by decide) (by decide) (by decide) ?_
  refine v_dup d_X7_init_19 rfl ?_
  refine v_iconst (v := nI 0) d_X7_init_20 x_ic_0 ?_
  refine v_iconst (v := (-1)) d_X7_init_21 x_ic_m1 ?_
  refine v_iast _ d_X7_init_22 (rfl) (rfl) (⟨by decide, by decide⟩) ?_
  refine v_dup d_X7_init_23 rfl ?_
  refine v_iconst (v := nI 1) d_X7_init_24 x_ic_1 ?_
  refine v_iconst (v := (-1)) d_X7_init_25 x_ic_m1 ?_
  refine v_iast _ d_X7_init_26 (rfl) (rfl) (⟨by decide, by decide⟩) ?_
  refine v_dup d_X7_init_27 rfl ?_
  refine v_iconst (v := nI 2) d_X7_init_28 x_ic_2 ?_
  refine v_iconst (v := (-1)) d_X7_init_29 x_ic_m1 ?_
  refine v_iast _ d_X7_init_30 (rfl) (rfl) (⟨by decide, by decide⟩) ?_
  refine v_dup d_X7_init_31 rfl ?_
  refine v_iconst (v := nI 3) d_X7_init_32 x_ic_3 ?_
  refine v_iconst (v := (-1)) d_X7_init_33 x_ic_m1 ?_
  refine v_iast _ d_X7_init_34 (rfl) (rfl) (⟨by decide, by decide⟩) ?_
  refine v_pr d_X7_init_35 (lp_X7_16_7) rfl (h31) (fun _ => rfl) (fun _ => rfl) ?_
  refine v_aload_n d_X7_init_38 rfl ?_
  refine v_iconst (v := nI 4) d_X7_init_39 x_ic_4 ?_
  refine v_newa (t := 0) d_X7_init_40 rfl (by decide) la_int (rfl) (by decide) (by decide) (by decide) (by decide) ?_
  refine v_pr d_X7_init_42 (lp_X7_20_7) rfl (h31) (fun _ => rfl) (fun _ => rfl) ?_
  refine v_ret (v := none) d_X7_init_45 rfl ⟨rfl, rfl⟩ (by decide) (by decide) ?_
  exact hK

set_option maxRecDepth 100000 in
set_option maxHeartbeats 4000000 in
theorem t_X2_init {K : x_K} {S : x_S} {P : x_P} {I : x_I} {J : x_J} (h8 : S 8 = .inl 2) (hK : K none (x_u1 (x_u1 (x_u1 (x_u1 (x_u1 (x_u1 (x_u1 (x_u1 (x_u1 (x_u1 (x_u1 S 9 (.inr (0, 12))) 10 (.inr (4, 4))) 11 (.inr (0, 64))) 12 (.inr (0, 64))) 13 (.inr (0, 64))) 14 (.inr (0, 64))) 15 (.inr (0, 256))) 16 (.inr (0, 640))) 17 (.inr (1, 10))) 18 (.inr (0, 10))) 19 (.inl 1)) (x_u2 (x_u2 (x_u2 (x_u1 (x_u2 (x_u1 (x_u2 (x_u1 (x_u2 (x_u1 (x_u2 (x_u1 (x_u2 (x_u1 (x_u1 (x_u1 (x_u1 (x_u1 (x_u2 (x_u1 P 9 (fun _ => none)) 8 2 (some 9)) 10 (fun j => bif Nat.blt j 4 then some (10 + 1 + j) else none)) 11 (fun _ => none)) 12 (fun _ => none)) 13 (fun _ => none)) 14 (fun _ => none)) 8 3 (some 10)) 15 (fun _ => none)) 8 4 (some 15)) 16 (fun _ => none)) 8 5 (some 16)) 17 (fun _ => none)) 8 6 (some 17)) 18 (fun _ => none)) 8 7 (some 18)) 19 (fun _ => none)) 8 8 (some 19)) 8 0 (some 3)) 8 1 (some 5)) (x_u2 (x_u2 (x_u2 (x_u2 (x_u2 (x_u2 (x_u2 (x_u2 (x_u2 (x_u1 (x_u1 (x_u1 (x_u1 (x_u1 (x_u1 (x_u1 (x_u1 (x_u1 (x_u1 (x_u1 I 9 (fun _ => 0)) 10 (fun _ => 0)) 11 (fun _ => 0)) 12 (fun _ => 0)) 13 (fun _ => 0)) 14 (fun _ => 0)) 15 (fun _ => 0)) 16 (fun _ => 0)) 17 (fun _ => 0)) 18 (fun _ => 0)) 19 (fun _ => 0)) 19 0 (nI 2)) 19 1 (nI 20)) 19 2 (nI 0)) 19 3 (nI 0)) 19 4 (nI 1)) 19 5 (nI 1)) 19 6 (nI 0)) 19 7 (nI 1)) 19 8 ((nI 1) * (nI 1))) (x_u1 (x_u1 (x_u1 (x_u1 (x_u1 (x_u1 (x_u1 (x_u1 (x_u1 (x_u1 (x_u1 J 9 (fun _ => 0)) 10 (fun _ => 0)) 11 (fun _ => 0)) 12 (fun _ => 0)) 13 (fun _ => 0)) 14 (fun _ => 0)) 15 (fun _ => 0)) 16 (fun _ => 0)) 17 (fun _ => 0)) 18 (fun _ => 0)) 19 (fun _ => 0)) 19) : x_Call f_X2_init [.ref 8, .ref 3, .ref 5] K S P I J 8 := by
  refine x_intro (by decide) 0 (ls := [_, _, _]) rfl (Nat.le_of_ble_eq_true rfl) ?_
  refine v_aload_n d_X2_init_0 rfl ?_
  refine v_obj d_X2_init_1 lo_X2_3 lo_in lo_cd (by decide) (Nat.le_of_ble_eq_true rfl) ?_
  refine v_aload_n d_X2_init_4 rfl ?_
  refine v_bipush (v := nI 12) d_X2_init_5 x_bp_12 ?_
  refine v_newa (t := 0) d_X2_init_7 rfl (by decide) la_int (rfl) (by decide) (by decide) (by decide) (by decide) ?_
  refine v_pr d_X2_init_9 (lp_X2_9_2) rfl (h8) (fun _ => rfl) (fun _ => rfl) ?_
  refine v_aload_n d_X2_init_12 rfl ?_
  refine v_iconst (v := nI 4) d_X2_init_13 x_ic_4 ?_
  refine v_bipush (v := nI 64) d_X2_init_14 x_bp_64 ?_
  refine v_mna d_X2_init_16 ll_X2_15 (by decide) (by decide) ?_
  refine v_pr d_X2_init_20 (lp_X2_17_2) rfl (h8) (fun _ => rfl) (fun _ => rfl) ?_
  refine v_aload_n d_X2_init_23 rfl ?_
  refine v_sipush (v := nI 256) d_X2_init_24 x_sp_256 ?_
  refine v_newa (t := 0) d_X2_init_27 rfl (by decide) la_int (rfl) (by decide) (by decide) (by decide) (by decide) ?_
  refine v_pr d_X2_init_29 (lp_X2_20_2) rfl (h8) (fun _ => rfl) (fun _ => rfl) ?_
  refine v_aload_n d_X2_init_32 rfl ?_
  refine v_sipush (v := nI 640) d_X2_init_33 x_sp_640 ?_
  refine v_newa (t := 0) d_X2_init_36 rfl (by decide) la_int (rfl) (by decide) (by decide) (by decide) (by decide) ?_
  refine v_pr d_X2_init_38 (lp_X2_23_2) rfl (h8) (fun _ => rfl) (fun _ => rfl) ?_
  refine v_aload_n d_X2_init_41 rfl ?_
  refine v_bipush (v := nI 10) d_X2_init_42 x_bp_10 ?_
  refine v_newa (t := 1) d_X2_init_44 rfl (by decide) la_long (rfl) (by decide) (by decide) (by decide) (by decide) ?_
  refine v_pr d_X2_init_46 (lp_X2_26_2) rfl (h8) (fun _ => rfl) (fun _ => rfl) ?_
  refine v_aload_n d_X2_init_49 rfl ?_
  refine v_bipush (v := nI 10) d_X2_init_50 x_bp_10 ?_
  refine v_newa (t := 0) d_X2_init_52 rfl (by decide) la_int (rfl) (by decide) (by decide) (by decide) (by decide) ?_
  refine v_pr d_X2_init_54 (lp_X2_30_2) rfl (h8) (fun _ => rfl) (fun _ => rfl) ?_
  refine v_aload_n d_X2_init_57 rfl ?_
  refine v_new d_X2_init_58 ln_X2_33 (by decide) (by decide) ?_
  refine v_dup d_X2_init_61 rfl ?_
  refine v_iconst (v := nI 2) d_X2_init_62 x_ic_2 ?_
  refine v_bipush (v := nI 20) d_X2_init_63 x_bp_20 ?_
  refine v_iconst (v := nI 0) d_X2_init_65 x_ic_0 ?_
  refine v_iconst (v := nI 0) d_X2_init_66 x_ic_0 ?_
  refine v_iconst (v := nI 1) d_X2_init_67 x_ic_1 ?_
  refine v_iconst (v := nI 1) d_X2_init_68 x_ic_1 ?_
  refine v_ci (as := [_, _, _, _, _, _]) (rest := [_, _]) d_X2_init_69 li_X2_35 rfl ⟨by decide, by decide⟩ rfl (Nat.le_of_ble_eq_true rfl) (by decide) (by decide) ?_
  refine t_X1_init0 rfl ?_
  refine v_pr d_X2_init_72 (lp_X2_38_2 _) rfl (h8) (fun _ => rfl) (fun _ => rfl) ?_
  refine v_aload_n d_X2_init_75 rfl ?_
  refine v_aload_n d_X2_init_76 rfl ?_
  refine v_pr d_X2_init_77 (lp_X2_42_2) rfl (h8) (fun _ => rfl) (fun _ => rfl) ?_
  refine v_aload_n d_X2_init_80 rfl ?_
  refine v_aload_n d_X2_init_81 rfl ?_
  refine v_pr d_X2_init_82 (lp_X2_46_2) rfl (h8) (fun _ => rfl) (fun _ => rfl) ?_
  refine v_ret (v := none) d_X2_init_85 rfl ⟨rfl, rfl⟩ (by decide) (by decide) ?_
  exact hK

set_option maxRecDepth 100000 in
set_option maxHeartbeats 4000000 in
theorem t_X11_init {K : x_K} {S : x_S} {P : x_P} {I : x_I} {J : x_J} (h1 : S 1 = .inl 11) (hK : K none (k_S11 S) (k_P11 P) (k_I11 I) (k_J11 J) 38) : x_Call f_X11_init [.ref 1] K S P I J 1 := by
  refine x_intro (by decide) 0 (ls := [_]) rfl (Nat.le_of_ble_eq_true rfl) ?_
  refine v_aload_n d_X11_init_0 rfl ?_
  refine v_obj d_X11_init_1 lo_X11_3 lo_in lo_cd (by decide) (Nat.le_of_ble_eq_true rfl) ?_
  refine v_aload_n d_X11_init_4 rfl ?_
  refine v_new d_X11_init_5 ln_X11_9 (by decide) (by decide) ?_
  refine v_dup d_X11_init_8 rfl ?_
  refine v_ci (as := []) (rest := [_, _]) d_X11_init_9 li_X11_11 rfl ⟨by decide, by decide⟩ rfl (Nat.le_of_ble_eq_true rfl) (by decide) (by decide) ?_
  refine t_X9_init rfl ?_
  refine v_pr d_X11_init_12 (lp_X11_12_11) rfl (h1) (fun _ => rfl) (fun _ => rfl) ?_
  refine v_aload_n d_X11_init_15 rfl ?_
  refine v_new d_X11_init_16 ln_X11_18 (by decide) (by decide) ?_
  refine v_dup d_X11_init_19 rfl ?_
  refine v_ci (as := []) (rest := [_, _]) d_X11_init_20 li_X11_20 rfl ⟨by decide, by decide⟩ rfl (Nat.le_of_ble_eq_true rfl) (by decide) (by decide) ?_
  refine t_X8_init rfl ?_
  refine v_pr d_X11_init_23 (lp_X11_21_11) rfl (h1) (fun _ => rfl) (fun _ => rfl) ?_
  refine v_aload_n d_X11_init_26 rfl ?_
  refine v_new d_X11_init_27 ln_X11_25 (by decide) (by decide) ?_
  refine v_dup d_X11_init_30 rfl ?_
  refine v_aload_n d_X11_init_31 rfl ?_
  refine v_gr d_X11_init_32 lf_X11_21_11 rfl (h1) (rfl) ?_
  refine v_ci (as := [_]) (rest := [_, _]) d_X11_init_35 li_X11_27 rfl ⟨by decide, by decide⟩ rfl (Nat.le_of_ble_eq_true rfl) (by decide) (by decide) ?_
  refine t_X6_init rfl ?_
  refine v_pr d_X11_init_38 (lp_X11_30_11) rfl (h1) (fun _ => rfl) (fun _ => rfl) ?_
  refine v_aload_n d_X11_init_41 rfl ?_
  refine v_new d_X11_init_42 ln_X11_34 (by decide) (by decide) ?_
  refine v_dup d_X11_init_45 rfl ?_
  refine v_aload_n d_X11_init_46 rfl ?_
  refine v_gr d_X11_init_47 lf_X11_21_11 rfl (h1) (rfl) ?_
  refine v_aload_n d_X11_init_50 rfl ?_
  refine v_gr d_X11_init_51 lf_X11_30_11 rfl (h1) (rfl) ?_
  refine v_ci (as := [_, _]) (rest := [_, _]) d_X11_init_54 li_X11_36 rfl ⟨by decide, by decide⟩ rfl (Nat.le_of_ble_eq_true rfl) (by decide) (by decide) ?_
  refine t_X2_init rfl ?_
  refine v_pr d_X11_init_57 (lp_X11_39_11) rfl (h1) (fun _ => rfl) (fun _ => rfl) ?_
  refine v_aload_n d_X11_init_60 rfl ?_
  refine v_new d_X11_init_61 ln_X11_43 (by decide) (by decide) ?_
  refine v_dup d_X11_init_64 rfl ?_
  refine v_aload_n d_X11_init_65 rfl ?_
  refine v_gr d_X11_init_66 lf_X11_21_11 rfl (h1) (rfl) ?_
  refine v_aload_n d_X11_init_69 rfl ?_
  refine v_gr d_X11_init_70 lf_X11_30_11 rfl (h1) (rfl) ?_
  refine v_ci (as := [_, _]) (rest := [_, _]) d_X11_init_73 li_X11_45 rfl ⟨by decide, by decide⟩ rfl (Nat.le_of_ble_eq_true rfl) (by decide) (by decide) ?_
  refine t_X4_init rfl ?_
  refine v_pr d_X11_init_76 (lp_X11_46_11) rfl (h1) (fun _ => rfl) (fun _ => rfl) ?_
  refine v_aload_n d_X11_init_79 rfl ?_
  refine v_new d_X11_init_80 ln_X11_50 (by decide) (by decide) ?_
  refine v_dup d_X11_init_83 rfl ?_
  refine v_ci (as := []) (rest := [_, _]) d_X11_init_84 li_X11_52 rfl ⟨by decide, by decide⟩ rfl (Nat.le_of_ble_eq_true rfl) (by decide) (by decide) ?_
  refine t_X7_init rfl ?_
  refine v_pr d_X11_init_87 (lp_X11_53_11) rfl (h1) (fun _ => rfl) (fun _ => rfl) ?_
  refine v_ret (v := none) d_X11_init_90 rfl ⟨rfl, rfl⟩ (by decide) (by decide) ?_
  exact hK

set_option maxRecDepth 100000 in
set_option maxHeartbeats 4000000 in
theorem lw_all {K : x_K} {S : x_S} {P : x_P} {I : x_I} {J : x_J} {N : Nat} {xs : Nat → Int32} (hN : N ≤ 4096) (hs0 : S 0 = .inr (9, N)) (hxs : I 0 = xs) (hK : ∀ (S : x_S) (P : x_P) (I : x_I) (J : x_J) (n : Nat), K (some (.int (nI 1))) S P I J n) : x_V f_L_law K 0 [some (.ref 0), none, none, none] [] S P I J 0 0 0 := by
  refine v_new d_L_law_0 ln_L_7 (by decide) (by decide) ?_
  refine v_dup d_L_law_3 rfl ?_
  refine v_ci (as := []) (rest := [_]) d_L_law_4 li_L_9 rfl ⟨by decide, by decide⟩ rfl (Nat.le_of_ble_eq_true rfl) (by decide) (by decide) ?_
  refine t_X11_init rfl ?_
  refine v_astore_n (ls' := [_, _, _, _]) d_L_law_7 (by decide) rfl ?_
  refine v_new d_L_law_8 ln_L_10 (by decide) (by decide) ?_
  refine v_dup d_L_law_11 rfl ?_
  refine v_ci (as := []) (rest := [_]) d_L_law_12 li_L_12 rfl ⟨by decide, by decide⟩ rfl (Nat.le_of_ble_eq_true rfl) (by decide) (by decide) ?_
  refine t_X12_init rfl ?_
  refine v_astore_n (ls' := [_, _, _, _]) d_L_law_15 (by decide) rfl ?_
  refine v_iconst (v := nI 0) d_L_law_16 x_ic_0 ?_
  refine v_istore_n (ls' := [_, _, _, _]) d_L_law_17 (by decide) rfl ?_
  exact lw_loop hN hK 512 0 (by omega) (by omega) _ _ _ _ _ _ _ hs0 hxs ⟨_, _, k_R S P I J⟩ (k_mI I) (by decide) (by decide)

/-! THE CLAIM OUT OF ONE WALK OF THE LAW'S BODY. Your part is whole_start (and what it stands on); all else here is the same for every law, but numbers. -/
def R_law : String := "BentPicturesLaw"
def lw_P (b : Addr) (xs : List Int32) (args : Array Value) (s : State) : Prop := args = #[.ref b] ∧ s.IntsAt b xs ∧ xs.length ≤ 4096 ∧ (Jvm.Cond.and given_1 narrow_1).before args s = true
def lw_Q (_ : Array Value) (s : State) (o : Outcome) (t : State) : Prop := o = .returned (some (.int 1)) ∧ Framed s o t [] 600000 7302250
def lw_Z (below : List Frame) (a : Array Value) (s : State) : State → Prop := fun t => ∃ o, t.status = .running ∧ Ended t below o ∧ lw_Q a s o t
/-- the law's own end, with 1 on the stack, nothing written that was there before, its room as the claim has it -/
theorem lw_ret {p : Program} {l : Launch} {e : Env} {s : State} {m : MethodId} {below : List Frame} {meth : Method} {c : Code} {b : Nat} (hx : p.tables.exec = Jvm.exec) (hb : c.code = code) (hr : meth.sig.returnType = ret) (hlocks : meth.locks = false) {pc : Nat} {H : Heap} {ls : Array Slot} (hdg : decode code pc = .ok (.ireturn, 1)) : W p l e room_1 s m #[Value.ref b] below meth c H [] 600000 7302250 (lw_Z below #[Value.ref b] s) (F0 m pc ls [.int 1]) := by
  intro T hT X
  obtain ⟨fs, hret, hrun, hended, hW, hframe⟩ := X.leave (v := some (.int 1)) (hlocks := hlocks) (fun h => by rw [hr] at h; cases h)
  have hmeth' : T.vm.method? m = some meth := X.method'
  refine ⟨T.setFrames fs, ?_, .returned (some (.int 1)), hrun, hended, rfl, ⟨_, rfl⟩, hW, hframe⟩
  jvm_step X.here [X.here.top, hx, hb, hdg, hmeth', hr, ret, narrow_b1]
  (try refine ⟨rfl, ?_⟩); (try refine ⟨rfl, ?_⟩)
  first | (intro acts; rw [hret _ acts rfl rfl rfl]) | rw [hret _ _ rfl rfl rfl]
  exact Steps.refl _
/-- what holds at the law's entry: the machine, the code, the tables' words (any of lw_tbl by 'hts w (by decide +kernel)'), the script of L ints xs at the cell b, what the Statement gives of the start (any of its parts by flat_of_before) -/
def lw_At (p : Program) (s : State) (m : MethodId) (meth : Method) (c : Code) (b L : Nat) (xs : Nat → Int32) : Prop :=
  p.tables.exec = Jvm.exec ∧ c.code = code ∧ meth.sig.returnType = ret ∧ c.maxLocals = 4 ∧ s.vm.findClass R_law = some m.cls ∧ (∀ w ∈ lw_tbl, w.before #[Value.ref b] s = true) ∧ va_X b L xs s s.heap ∧ b < s.heap.size ∧ meth.locks = false ∧ (Jvm.Cond.and given_1 narrow_1).before #[Value.ref b] s = true ∧ meth.name = "law"
theorem k_kn {own : String} {idx ci N : Nat} {s : State} (h : x_nl own idx ci N) (hts : ∀ w ∈ lw_tbl, ∀ a : Array Value, w.before a s = true) : ∃ z : ClassId × (Nat → Nat), ∀ q : vw_C, vwCl[ci]? = some q → u_Kn s q.1 q.2.1 q.2.2 z.1 z.2 := by
  obtain ⟨Cn, T, ⟨hck, hin, hty, hnm⟩, hcl, hins, hini, hdv⟩ := h
  obtain ⟨cC, iS, hk⟩ := u_known (ws := lw_tbl) (args := #[]) (fun w hw => hts w hw #[]) hin (hts _ hins #[])
  refine ⟨(cC, iS), fun q hq => ?_⟩
  rw [hck] at hq
  cases hq
  exact hk
theorem k_kns {s : State} (hts : ∀ w ∈ lw_tbl, ∀ a : Array Value, w.before a s = true) : ∃ D : va_G, ∀ (c : Nat) (q : vw_C), vwCl[c]? = some q → u_Kn s q.1 q.2.1 q.2.2 (D.1 c) (D.2 c) := by
  have h : ∀ c : Nat, ∃ z : ClassId × (Nat → Nat), ∀ q : vw_C, vwCl[c]? = some q → u_Kn s q.1 q.2.1 q.2.2 z.1 z.2 := by
    intro c
    by_cases w : c < 13
    · rcases (show c = 0 ∨ c = 1 ∨ c = 2 ∨ c = 3 ∨ c = 4 ∨ c = 5 ∨ c = 6 ∨ c = 7 ∨ c = 8 ∨ c = 9 ∨ c = 10 ∨ c = 11 ∨ c = 12 by omega) with rfl | rfl | rfl | rfl | rfl | rfl | rfl | rfl | rfl | rfl | rfl | rfl | rfl
      · exact k_kn ln_X8_27 hts
      · exact k_kn ln_X2_33 hts
      · exact k_kn ln_X11_34 hts
      · exact k_kn ln_X4_22 hts
      · exact k_kn ln_X11_43 hts
      · exact k_kn ln_X8_24 hts
      · exact k_kn ln_X11_25 hts
      · exact k_kn ln_X11_50 hts
      · exact k_kn ln_X11_18 hts
      · exact k_kn ln_X11_9 hts
      · exact k_kn ln_X8_9 hts
      · exact k_kn ln_L_7 hts
      · exact k_kn ln_L_10 hts
    · obtain ⟨z, _⟩ := k_kn ln_L_10 hts
      refine ⟨z, fun q hq => ?_⟩
      have := (List.getElem?_eq_some_iff.mp hq).1
      exact absurd this w
  exact ⟨(fun c => (Classical.choose (h c)).1, fun c => (Classical.choose (h c)).2), fun c q hq => Classical.choose_spec (h c) q hq⟩
def k_K : x_K := fun v _ _ _ _ _ => v = some (.int (nI 1))
theorem whole_start {p : Program} {e : Env} {s : State} {m : MethodId} {below : List Frame} {meth : Method} {c : Code} (l : Launch) (hflags : l.flags = flags0) {b L : Nat} {xs : Nat → Int32} (hL : L ≤ 4096) (C0 : lw_At p s m meth c b L xs) : W p l e room_1 s m #[Value.ref b] below meth c s.heap [] 0 0 (lw_Z below #[Value.ref b] s) (entryFrame m ([Value.ref b] : List Value).toArray 4) := by
  obtain ⟨a1, a2, a3, a4, a5, a6, a7, a8, a9, a10, a11⟩ := C0
  have hts : ∀ w ∈ lw_tbl, ∀ a : Array Value, w.before a s = true := fun w hw a => x_warm (List.all_eq_true.mp x_tbl_ok w hw) (State.WarmedH.refl s) (a6 w hw)
  obtain ⟨D, hD⟩ := k_kns hts
  have fl := flat_of_before _ a10
  have hWd : x_Wd D s := ⟨hts, hD, va_Nc.of (fl (Cond.not (.castable RX10 RX5)) (by decide +kernel)), va_Nc.of (fl (Cond.not (.castable RX10 RX0)) (by decide +kernel)), va_Nc.of (fl (Cond.not (.castable RX5 RX0)) (by decide +kernel))⟩
  have C : x_Cx f_L_law D b s.heap.size L xs p s m meth c := ⟨a1, a2, a4, a5, a9, a11, a3, hWd, a7, a8, Nat.le_refl _⟩
  have hv := lw_all (K := k_K) (S := x_u1 (fun _ => .inr (8, 0)) 0 (.inr (9, L))) (P := fun _ _ => none) (I := x_u1 (fun _ _ => 0) 0 xs) (J := fun _ _ => 0) hL rfl rfl (fun _ _ _ _ _ => rfl)
  show W p l e room_1 s m #[Value.ref b] below meth c s.heap [] 0 0 (lw_Z below #[Value.ref b] s) (entryFrame m (([Value.ref 0] : List Value).map (x_tr b s.heap.size)).toArray 4)
  rw [lg_entry_eq]
  refine hv D b s.heap.size L xs p l e s m _ below meth c s.heap [] _ _ C ⟨rfl, fun a ha => x_u1_n _ _ (by omega), fun a h1 h2 => absurd h1 (by omega)⟩ va_S.rf rfl rfl (x_L.entry [Value.ref 0] 3 (Nat.le_of_ble_eq_true rfl)) ?_
  intro v S' P' I' J' n' H' locs' pc lr cs sl i hK hH' hS' h0' hI' hd hro hcs hsl
  have hK : v = some (.int (nI 1)) := hK
  subst hK
  obtain ⟨rfl, ty, hr, hnar⟩ := hro
  refine W.widen hcs hsl ?_
  refine W.forget (locs := []) (L := locs') (fun q hq => hS'.2.2 q hq) ?_
  exact lw_ret a1 a2 a3 a9 hd
set_option maxHeartbeats 4000000 in
theorem lw_walk (l : Launch) (hflags : l.flags = flags0) (b : Addr) (xs : List Int32) : MetFree l x (headSpec (Jvm.Cond.code x code maxLocals ret :: tables_1) room_1) (lw_P b xs) (fun _ _ _ _ _ => True) lw_Q := by
  refine MetFree.of_bodyS (code := code) (maxLocals := maxLocals) (ret := ret) (by decide) ?_ ?_
  · intro args s m h hn
    obtain ⟨meth, c, h1, h2, h3, h4, h5, h6, -, -⟩ := Cond.code_spec hn (atoms_spec (ws := Jvm.Cond.code x code maxLocals ret :: tables_1) h _ List.mem_cons_self)
    exact ⟨meth, c, h1, h2, h3, h4, h5, h6⟩
  · intro p e s m args below meth c s₁ B hml0 hP _
    obtain ⟨rfl, hx, hbd, hgv⟩ := hP
    obtain ⟨scr, harrAt, hlist, hof, hsmall⟩ := hx
    obtain ⟨hcb, hkn, -, -⟩ := State.arrayAt?_spec harrAt
    have hown : s.vm.findClass R_law = some m.cls := findClass_of_methodNamed B.named
    have hts0 : ∀ c ∈ (Jvm.Cond.code x code maxLocals ret :: tables_1), c.before #[Value.ref b] s = true := atoms_spec (ws := Jvm.Cond.code x code maxLocals ret :: tables_1) B.pre
    have hts : ∀ w ∈ lw_tbl, w.before #[Value.ref b] s = true := k2_hts_sels lw_privs (fun w hw => hts0 w (List.mem_cons_of_mem _ hw)) lw_privs_ok
    have hml : c.maxLocals = 4 := B.maxLocals_eq (hts0 _ List.mem_cons_self)
    have X₀ : Stand p l e room_1 s m #[Value.ref b] below meth c s₁ [] 0 0 := Stand.of_body B
    have hh0 : s₁.heap = s.heap := by rw [B.state]; rfl
    have hsz : scr.slots.size = xs.length := by rw [← Array.length_toList, hlist, List.length_map]
    have hval : ∀ j : Nat, j < xs.length → scr.slots[j]? = some (.int (xs.getD j 0)) := fun j hj => by
      rw [← Array.getElem?_toList, hlist]
      simp [hj]
    have hbl : b < s.heap.size := (Array.getElem?_eq_some_iff.mp hcb).1
    have hX : va_X b xs.length (fun j => xs.getD j 0) s s.heap := ⟨scr, hcb, hof, hkn, hsz, hval⟩
    have K : W p l e room_1 s m #[Value.ref b] below meth c s₁.heap [] 0 0 (lw_Z below #[Value.ref b] s) (entryFrame m ([Value.ref b] : List Value).toArray 4) := by
      rw [hh0]
      exact whole_start l hflags hbd ⟨B.exec, B.bytes, B.returns, hml, hown, hts, hX, hbl, B.notSynchronized, hgv, (name_of_methodNamed B.named B.method).1⟩
    obtain ⟨t, a1, o, b1, b2, b3⟩ := K s₁ rfl X₀
    exact ⟨t, o, a1, b1, b2, b3⟩
theorem lw_pre_spec {args : Array Value} {s : State} (h : (Jvm.Cond.and given_1 narrow_1).before args s = true) (hr : rest_1_c.before args s = true) : ∃ (b : Addr) (xs : List Int32), lw_P b xs args s := by
  have hs := flat_of_before _ h
  have hq := flat_of_before _ hr
  have hc : (Cond.count 1).before args s = true := hs _ (by decide +kernel)
  have harr : (Cond.arrayOf (.arg 0) .int).before args s = true := hs _ (by decide +kernel)
  have hle : (Cond.le (.length (.arg 0)) (.int 4096)).before args s = true := hs _ (by decide +kernel)
  have hlen : (Cond.isInt (.length (.arg 0))).before args s = true := hq _ (by decide +kernel)
  have hall : (Cond.all (.arg 0) (.isInt (.elem (.arg 0) (.index 0)))).before args s = true := hq _ (by decide +kernel)
  obtain ⟨b, xs, hb, hx⟩ := State.ints_of_pre rfl harr hlen hall
  have hsm : xs.length < 2 ^ 31 := hx.choose_spec.2.2.2
  have hev : (Term.length (.arg 0)).eval args s none [] s = some (.int xs.length.toInt32) := hx.length_eval hb
  have hv := Cond.le_ints hev (show (Term.int 4096).eval args s none [] s = some (.int 4096) from rfl)
  have hd : xs.length.toInt32 ≤ 4096 := by
    simpa [Cond.before, Cond.holds, hv] using hle
  have hN : xs.length ≤ 4096 := (Int32.ofNat_le_ofNat hsm (by decide)).mp (show Int32.ofNat xs.length ≤ Int32.ofNat 4096 from hd)
  exact ⟨b, xs, Cond.one_arg hc (show args[0]? = some (.ref b) from hb), hx, hN, h⟩
theorem lw_comes (l : Launch) (hflags : l.flags = flags0) : Comes l x (Jvm.Cond.code x code maxLocals ret :: tables_1) room_1 (fun tb e args s => Calls_1 tb e args s ∧ rest_1 tb e args s ∧ Pre_1 tb e args s)
    (fun _ _ args s o t => lw_Q args s o t) := by
  intro p e ha hc hk s m args below hf hfit hheap happ hpre
  obtain ⟨b, xs, hP⟩ := lw_pre_spec hpre.2.2 hpre.2.1
  obtain ⟨k, o, h1, h2, h3, hQ⟩ := lw_walk l hflags b xs p e ha hc hk s m args below hf ((Spec.applies_iff_loose hf).mp happ).1 hP trivial
  exact ⟨k, o, h1, h2, h3, hQ⟩
theorem lw_frame {s t : State} {o : Outcome} {args : Array Value} (h : Framed s o t [] 600000 7302250) :
    Framed s o t (fieldLocs frame_1_writes args s ++ arrayLocs frame_1_arrays args s ++ staticLocs frame_1_statics s) 600000 7302250 := h
theorem lw_limb (L : Cond) (hL : ∀ (args : Array Value) (s t : State), L.after args s (.returned (some (.int 1))) t = true) :
    ArmFor flags0 classFile x code maxLocals ret World_1 tables_1 room_1 Calls_1 rest_1 Pre_1
      (fun tb e a s o t => postC L tb e a s o t ∧ Framed s o t (fieldLocs frame_1_writes a s ++ arrayLocs frame_1_arrays a s ++ staticLocs frame_1_statics s) 600000 7302250) := by
  intro l hflags _ _ p e ha hc hk s m args below hf hfit hheap happ hpre
  obtain ⟨k, o, h1, h2, h3, rfl, hF⟩ := lw_comes l hflags p e ha hc hk s m args below hf hfit hheap happ hpre
  exact ⟨k, _, h1, h2, h3, hL args s _, lw_frame hF⟩
theorem i_vc : Claimed_1_1 ∧ Claimed_1_2 := ⟨lw_limb limb_1_1 (fun args s t => by simp [limb_1_1, Cond.after, Cond.holds, Cond.value]), lw_limb limb_1_2 (fun args s t => Cond.after_iff.mpr (by
  first | (rw [show limb_1_2 = Cond.eq .result (.int 1) from rfl, Cond.eq_ints (x := 1) (y := 1) rfl rfl]; simp; done) | (simp [limb_1_2, Cond.value, Term.eval]; done)))⟩
