theorem c_pp {P : x_P} (hP : x_hP P) {e : Nat} (he : e < 4) : P 10 e = some (11 + e) := by
  rcases (show e = 0 ∨ e = 1 ∨ e = 2 ∨ e = 3 by omega) with rfl | rfl | rfl | rfl <;> exact hP _ _ _ rfl
theorem c_sp {S : x_S} (hS : x_hS S) {e : Nat} (he : e < 4) : S (11 + e) = .inr (0, 64) := by
  rcases (show e = 0 ∨ e = 1 ∨ e = 2 ∨ e = 3 by omega) with rfl | rfl | rfl | rfl <;> exact hS _ _ rfl
theorem c_pr {P : x_P} (hP : x_hP P) {e : Nat} (he : e < 4) : P 32 e = some (33 + e) := by
  rcases (show e = 0 ∨ e = 1 ∨ e = 2 ∨ e = 3 by omega) with rfl | rfl | rfl | rfl <;> exact hP _ _ _ rfl
theorem c_sr {S : x_S} (hS : x_hS S) {e : Nat} (he : e < 4) : S (33 + e) = .inr (0, 64) := by
  rcases (show e = 0 ∨ e = 1 ∨ e = 2 ∨ e = 3 by omega) with rfl | rfl | rfl | rfl <;> exact hS _ _ rfl
theorem x_md {u r : Int32} (hu : 0 ≤ u.toInt ∧ u.toInt ≤ 40) (hr : 0 ≤ r.toInt ∧ r.toInt ≤ 64) : (nI 2 * (u + r) + nI 1).toInt = 2 * (u.toInt + r.toInt) + 1 := by
  have e2 : (nI 2).toInt = 2 := by decide
  have e1 : (nI 1).toInt = 1 := by decide
  have a1 : (u + r).toInt = u.toInt + r.toInt := x_add (by omega) (by omega)
  have a2 : (nI 2 * (u + r)).toInt = 2 * (u.toInt + r.toInt) := by rw [x_mul (by rw [e2, a1]; omega) (by rw [e2, a1]; omega), e2, a1]
  rw [x_add (by rw [a2, e1]; omega) (by rw [a2, e1]; omega), a2, e1]
theorem x_t2 {x : Int32} (h : -1000 ≤ x.toInt ∧ x.toInt ≤ 1000) : (nI 2 * x).toInt = 2 * x.toInt := by
  have e2 : (nI 2).toInt = 2 := by decide
  rw [x_mul (by rw [e2]; omega) (by rw [e2]; omega), e2]
theorem r_see {Z I : x_I} {X Y W A B C : Int} (hfo : ∀ s, s < m_ns Z → m_fo Z s) (h6 : ∀ a, a < 3 → (I 6 a).toInt = 2 * r3 X Y W a) (h7 : ∀ a, a < 3 → (I 7 a).toInt = r3 A B C a) : r_end Z 2 (-1) 3 (fun a => (I 6 a).toInt) (fun a => (I 7 a).toInt) 0 1 = r_ray Z 1 (-9) X Y W A B C := by
  rw [r_end_9, r_end_cp hfo 3 (p' := r_2 (r3 X Y W)) (q' := r3 A B C) h6 h7]
  have e := r_end_2 Z (-9) 3 (r3 X Y W) (r3 A B C) 0 1
  rw [Int.mul_zero] at e
  exact e
theorem r_seen_ray {Z : x_I} (hfo : ∀ s, s < m_ns Z → m_fo Z s) (x y z : Int) (j : Nat) : r_seen Z x y z j = r_ray Z 1 (-9) x y z (r_mid Z 10 j 0 - 2 * x) (r_mid Z 10 j 1 - 2 * y) (r_mid Z 10 j 2 - 2 * z) := by
  unfold r_seen
  split
  · rename_i h
    unfold r_ray
    rw [r_end_0q hfo]
    intro a ha
    rcases (show a = 0 ∨ a = 1 ∨ a = 2 by omega) with rfl | rfl | rfl
    · exact h.1
    · exact h.2.1
    · exact h.2.2
  · rfl

set_option maxRecDepth 100000 in
set_option maxHeartbeats 4000000 in
theorem t_X1_twiceMiddle {K : x_K} {S : x_S} {P : x_P} {I : x_I} {J : x_J} {n : Nat} {x y : Int32} (j ax : Nat) (hx : x = nI j) (hy : y = nI ax) (hax : ax < 3) {a : Nat} {Z : x_I} {s : Nat} (hs : S a = .inl 1) (hf : c_fl I a Z s) (hfo : m_fo Z s) (hj : (j : Int) < m_ce Z s) (hK : ∀ r : Int32, r.toInt = r_mid Z s j ax → K (some (.int r)) S P I J n) : x_Call f_X1_twiceMiddle [.ref a, .int x, .int y] K S P I J n := by
  subst hx hy
  have hm := m_ce_in hfo
  have ha := r_a_lt hfo
  have ho := r_o1_lt (r_a Z s)
  have hmc := m_ce_eq hfo
  have hrm := r_mid_in hfo hj ax
  obtain ⟨f0, f1, f2, f3, f4, f5, f6, f7⟩ := id hfo
  have e0 : Z 41 (6 * s) = nI (r_a Z s) := x_of f0.1
  have hne : ¬ Z 41 (6 * s + 4) = 0 := fun z => by rw [z, x_t0] at f4; omega
  have er := x_rem (x := nI j) (y := Z 41 (6 * s + 4)) (by rw [x_ti (by omega)]; omega) (by omega)
  have ed := x_div (x := nI j) (y := Z 41 (6 * s + 4)) (by rw [x_ti (by omega)]; omega) (by omega)
  rw [x_ti (by omega)] at er ed
  have g1 := Int.emod_nonneg (j : Int) (b := (Z 41 (6 * s + 4)).toInt) (by omega)
  have g2 := Int.emod_lt_of_pos (j : Int) (b := (Z 41 (6 * s + 4)).toInt) (by omega)
  have g3 : 0 ≤ (j : Int) / (Z 41 (6 * s + 4)).toInt := Int.ediv_nonneg (by omega) (by omega)
  have g4 : (j : Int) / (Z 41 (6 * s + 4)).toInt ≤ (j : Int) := Int.ediv_le_self _ (by omega)
  refine x_intro (by decide) 0 (ls := [_, _, _]) rfl (Nat.le_of_ble_eq_true rfl) ?_
  refine v_iload_n d_X1_twiceMiddle_0 rfl ?_
  refine v_aload_n d_X1_twiceMiddle_1 rfl ?_
  refine v_gie d_X1_twiceMiddle_2 lf_X1_9_1 rfl (hs) (hf.ax.trans e0) ?_
  refine w_icmp_eq d_X1_twiceMiddle_5 (fun a5 => ?_) (fun a5 => ?_)
  · try simp (disch := omega) only [x_ti, x_tm1] at a5
    refine v_iconst (v := nI 2) d_X1_twiceMiddle_16 x_ic_2 ?_
    refine v_aload_n d_X1_twiceMiddle_17 rfl ?_
    refine v_gie d_X1_twiceMiddle_18 lf_X1_15_1 rfl (hs) (hf.c) ?_
    refine v_imul d_X1_twiceMiddle_21 ?_
    refine v_ret (v := some (.int _)) d_X1_twiceMiddle_22 rfl ⟨rfl, _, rfl, rfl⟩ (by decide) (by decide) ?_
    exact hK _ (by unfold r_mid; rw [if_pos (by omega), x_t2 (by omega)])
  · try simp (disch := omega) only [x_ti, x_tm1] at a5
    refine v_aload_n d_X1_twiceMiddle_8 rfl ?_
    refine v_gie d_X1_twiceMiddle_9 lf_X1_24_1 rfl (hs) (hf.w) ?_
    refine v_iconst (v := nI 1) d_X1_twiceMiddle_12 x_ic_1 ?_
    refine w_icmp_ge d_X1_twiceMiddle_13 (fun h13 => ?_) (fun h13 => False.elim (by (try simp (disch := omega) only [x_ti, x_tm1] at h13); omega))
    refine v_iload_n d_X1_twiceMiddle_23 rfl ?_
    refine v_aload_n d_X1_twiceMiddle_24 rfl ?_
    refine v_gie d_X1_twiceMiddle_25 lf_X1_30_1 rfl (hs) (hf.o1) ?_
    refine w_icmp_ne d_X1_twiceMiddle_28 (fun a28 => ?_) (fun a28 => ?_)
    · try simp (disch := omega) only [x_ti, x_tm1] at a28
      refine v_iconst (v := nI 2) d_X1_twiceMiddle_49 x_ic_2 ?_
      refine v_aload_n d_X1_twiceMiddle_50 rfl ?_
      refine v_gie d_X1_twiceMiddle_51 lf_X1_21_1 rfl (hs) (hf.v) ?_
      refine v_iload_n d_X1_twiceMiddle_54 rfl ?_
      refine v_aload_n d_X1_twiceMiddle_55 rfl ?_
      refine v_gie d_X1_twiceMiddle_56 lf_X1_24_1 rfl (hs) (hf.w) ?_
      refine v_idiv d_X1_twiceMiddle_59 (hne) ?_
      refine v_iadd d_X1_twiceMiddle_60 ?_
      refine v_imul d_X1_twiceMiddle_61 ?_
      refine v_iconst (v := nI 1) d_X1_twiceMiddle_62 x_ic_1 ?_
      refine v_iadd d_X1_twiceMiddle_63 ?_
      refine v_ret (v := some (.int _)) d_X1_twiceMiddle_64 rfl ⟨rfl, _, rfl, rfl⟩ (by decide) (by decide) ?_
      first
        | exact hK _ (by unfold r_mid; rw [if_neg (by omega), if_pos (by omega), x_md (by omega) (by rw [er]; omega), er])
        | exact hK _ (by unfold r_mid; rw [if_neg (by omega), if_neg (by omega), x_md (by omega) (by rw [ed]; omega), ed])
    · try simp (disch := omega) only [x_ti, x_tm1] at a28
      refine v_iconst (v := nI 2) d_X1_twiceMiddle_31 x_ic_2 ?_
      refine v_aload_n d_X1_twiceMiddle_32 rfl ?_
      refine v_gie d_X1_twiceMiddle_33 lf_X1_18_1 rfl (hs) (hf.u) ?_
      refine v_iload_n d_X1_twiceMiddle_36 rfl ?_
      refine v_aload_n d_X1_twiceMiddle_37 rfl ?_
      refine v_gie d_X1_twiceMiddle_38 lf_X1_24_1 rfl (hs) (hf.w) ?_
      refine v_irem d_X1_twiceMiddle_41 (hne) ?_
      refine v_iadd d_X1_twiceMiddle_42 ?_
      refine v_imul d_X1_twiceMiddle_43 ?_
      refine v_iconst (v := nI 1) d_X1_twiceMiddle_44 x_ic_1 ?_
      refine v_iadd d_X1_twiceMiddle_45 ?_
      refine v_goto d_X1_twiceMiddle_46 ?_
      refine v_ret (v := some (.int _)) d_X1_twiceMiddle_64 rfl ⟨rfl, _, rfl, rfl⟩ (by decide) (by decide) ?_
      first
        | exact hK _ (by unfold r_mid; rw [if_neg (by omega), if_pos (by omega), x_md (by omega) (by rw [er]; omega), er])
        | exact hK _ (by unfold r_mid; rw [if_neg (by omega), if_neg (by omega), x_md (by omega) (by rw [ed]; omega), ed])

set_option maxRecDepth 100000 in
set_option maxHeartbeats 4000000 in
theorem t_X2_lookFrom {K : x_K} {S : x_S} {P : x_P} {I : x_I} {J : x_J} {n : Nat} {x y z c : Int32} {fa : Nat → Nat} {bd : Nat} {Z : x_I} (hR : c_R fa bd Z S P I J n) (mi : m_I Z) (hnb : m_nb Z = Z) (j : Nat) (hc : c = nI j) (hpl : g_pl x y z) (hj : (j : Int) < m_ce Z 10) (hK : ∀ (P' : x_P) (I' : x_I), p_ex P P' → x_ex cE I I' J J → K (some (.int (r_ans (r_seen Z x.toInt y.toInt z.toInt j).1))) S P' I' J n) : x_Call f_X2_lookFrom [.ref 8, .int x, .int y, .int z, .int c] K S P I J n := by
  have hS := hR.hS
  have hP := hR.hP
  have hn := mi.hn
  have hfo := mi.fo
  have h9 : m_ns Z = (Z 39 2).toInt.toNat := rfl
  have hbo := mi.bo
  rw [hnb] at hbo
  subst hc
  obtain ⟨q1, q2, q3⟩ := id hpl
  have w0 := r_mid_in hbo hj 0
  have w1 := r_mid_in hbo hj 1
  have w2 := r_mid_in hbo hj 2
  have y1 := x_t2 (x := x) (by omega)
  have y2 := x_t2 (x := y) (by omega)
  have y3 := x_t2 (x := z) (by omega)
  refine x_intro (by decide) 0 (ls := [_, _, _, _, _]) rfl (Nat.le_of_ble_eq_true rfl) ?_
  refine v_aload_n d_X2_lookFrom_0 rfl ?_
  refine v_gr d_X2_lookFrom_1 lf_X2_46_2 rfl (hS _ _ rfl) (hP _ _ _ rfl) ?_
  refine v_iconst (v := nI 2) d_X2_lookFrom_4 x_ic_2 ?_
  refine v_iload_n d_X2_lookFrom_5 rfl ?_
  refine v_imul d_X2_lookFrom_6 ?_
  refine v_iconst (v := nI 2) d_X2_lookFrom_7 x_ic_2 ?_
  refine v_iload_n d_X2_lookFrom_8 rfl ?_
  refine v_imul d_X2_lookFrom_9 ?_
  refine v_iconst (v := nI 2) d_X2_lookFrom_10 x_ic_2 ?_
  refine v_iload_n d_X2_lookFrom_11 rfl ?_
  refine v_imul d_X2_lookFrom_12 ?_
  refine v_cv (as := [_, _, _]) (rest := []) d_X2_lookFrom_13 lv_X2_80_6 (hS _ _ rfl) rfl ⟨by decide, by decide⟩ rfl (Nat.le_of_ble_eq_true rfl) (by decide) (by decide) ?_
  refine t_X6_standAt hS hP ?_
  have hx1 : x_ex cE I (x_u2 (x_u2 (x_u2 I 6 0 (nI 2 * x)) 6 1 (nI 2 * y)) 6 2 (nI 2 * z)) J J := ((x_ex.rf.ui rfl).ui rfl).ui rfl
  have hR1 := hR.cgE hx1 p_ex.rf
  have hfb := hR1.fb
  rw [hnb] at hfb
  refine v_aload_n d_X2_lookFrom_16 rfl ?_
  refine v_gr d_X2_lookFrom_17 lf_X2_46_2 rfl (hS _ _ rfl) (hP _ _ _ rfl) ?_
  refine v_aload_n d_X2_lookFrom_20 rfl ?_
  refine v_gr d_X2_lookFrom_21 lf_X2_38_2 rfl (hS _ _ rfl) (hR.pb) ?_
  refine v_iload d_X2_lookFrom_24 rfl ?_
  refine v_iconst (v := nI 0) d_X2_lookFrom_26 x_ic_0 ?_
  refine v_cv (as := [_, _]) (rest := [_]) d_X2_lookFrom_27 lv_X2_86_1 (hR.sb) rfl ⟨by decide, by decide⟩ rfl (Nat.le_of_ble_eq_true rfl) (by decide) (by decide) ?_
  refine t_X1_twiceMiddle j 0 rfl rfl (by decide) hR1.sb hfb hbo hj (fun r0 z0 => ?_)
  refine v_iconst (v := nI 2) d_X2_lookFrom_30 x_ic_2 ?_
  refine v_iload_n d_X2_lookFrom_31 rfl ?_
  refine v_imul d_X2_lookFrom_32 ?_
  refine v_isub d_X2_lookFrom_33 ?_
  refine v_aload_n d_X2_lookFrom_34 rfl ?_
  refine v_gr d_X2_lookFrom_35 lf_X2_38_2 rfl (hS _ _ rfl) (hR.pb) ?_
  refine v_iload d_X2_lookFrom_38 rfl ?_
  refine v_iconst (v := nI 1) d_X2_lookFrom_40 x_ic_1 ?_
  refine v_cv (as := [_, _]) (rest := [_, _]) d_X2_lookFrom_41 lv_X2_86_1 (hR.sb) rfl ⟨by decide, by decide⟩ rfl (Nat.le_of_ble_eq_true rfl) (by decide) (by decide) ?_
  refine t_X1_twiceMiddle j 1 rfl rfl (by decide) hR1.sb hfb hbo hj (fun r1 z1 => ?_)
  refine v_iconst (v := nI 2) d_X2_lookFrom_44 x_ic_2 ?_
  refine v_iload_n d_X2_lookFrom_45 rfl ?_
  refine v_imul d_X2_lookFrom_46 ?_
  refine v_isub d_X2_lookFrom_47 ?_
  refine v_aload_n d_X2_lookFrom_48 rfl ?_
  refine v_gr d_X2_lookFrom_49 lf_X2_38_2 rfl (hS _ _ rfl) (hR.pb) ?_
  refine v_iload d_X2_lookFrom_52 rfl ?_
  refine v_iconst (v := nI 2) d_X2_lookFrom_54 x_ic_2 ?_
  refine v_cv (as := [_, _]) (rest := [_, _, _]) d_X2_lookFrom_55 lv_X2_86_1 (hR.sb) rfl ⟨by decide, by decide⟩ rfl (Nat.le_of_ble_eq_true rfl) (by decide) (by decide) ?_
  refine t_X1_twiceMiddle j 2 rfl rfl (by decide) hR1.sb hfb hbo hj (fun r2 z2 => ?_)
  refine v_iconst (v := nI 2) d_X2_lookFrom_58 x_ic_2 ?_
  refine v_iload_n d_X2_lookFrom_59 rfl ?_
  refine v_imul d_X2_lookFrom_60 ?_
  refine v_isub d_X2_lookFrom_61 ?_
  refine v_cv (as := [_, _, _]) (rest := []) d_X2_lookFrom_62 lv_X2_89_6 (hS _ _ rfl) rfl ⟨by decide, by decide⟩ rfl (Nat.le_of_ble_eq_true rfl) (by decide) (by decide) ?_
  refine t_X6_headFor hS hP ?_
  have hx2 := ((hx1.ui (a := 7) (k := 0) (v := r0 - nI 2 * x) rfl).ui (a := 7) (k := 1) (v := r1 - nI 2 * y) rfl).ui (a := 7) (k := 2) (v := r2 - nI 2 * z) rfl
  have hR2 := hR.cgE hx2 p_ex.rf
  have v0 : (r0 - nI 2 * x).toInt = r_mid Z 10 j 0 - 2 * x.toInt := by rw [x_sub (by omega) (by omega)]; omega
  have v1 : (r1 - nI 2 * y).toInt = r_mid Z 10 j 1 - 2 * y.toInt := by rw [x_sub (by omega) (by omega)]; omega
  have v2 : (r2 - nI 2 * z).toInt = r_mid Z 10 j 2 - 2 * z.toInt := by rw [x_sub (by omega) (by omega)]; omega
  refine v_aload_n d_X2_lookFrom_65 rfl ?_
  refine v_gr d_X2_lookFrom_66 lf_X2_46_2 rfl (hS _ _ rfl) (hP _ _ _ rfl) ?_
  refine v_iconst (v := (-1)) d_X2_lookFrom_69 x_ic_m1 ?_
  refine v_cv (as := [_]) (rest := []) d_X2_lookFrom_70 lv_X2_92_6 (hS _ _ rfl) rfl ⟨by decide, by decide⟩ rfl (Nat.le_of_ble_eq_true rfl) (by decide) (by decide) ?_
  refine t_X6_go hR2 mi (fun a ha => by
    rcases (show a = 0 ∨ a = 1 ∨ a = 2 by omega) with rfl | rfl | rfl
    · show -90 ≤ (nI 2 * x).toInt ∧ (nI 2 * x).toInt ≤ 90; omega
    · show -90 ≤ (nI 2 * y).toInt ∧ (nI 2 * y).toInt ≤ 90; omega
    · show -90 ≤ (nI 2 * z).toInt ∧ (nI 2 * z).toInt ≤ 90; omega) (fun a ha => by
    rcases (show a = 0 ∨ a = 1 ∨ a = 2 by omega) with rfl | rfl | rfl
    · show -100 ≤ (r0 - nI 2 * x).toInt ∧ (r0 - nI 2 * x).toInt ≤ 100; omega
    · show -100 ≤ (r1 - nI 2 * y).toInt ∧ (r1 - nI 2 * y).toInt ≤ 100; omega
    · show -100 ≤ (r2 - nI 2 * z).toInt ∧ (r2 - nI 2 * z).toInt ≤ 100; omega) (fun P' I' h1 h2 h3 => ?_)
  refine v_ret (v := some (.int _)) d_X2_lookFrom_73 rfl ⟨rfl, _, rfl, rfl⟩ (by decide) (by decide) ?_
  have hk := hK P' I' h1 (hx2.tr h2)
  rw [r_seen_ray hfo, ← r_see (I := (x_u2 (x_u2 (x_u2 (x_u2 (x_u2 (x_u2 I 6 0 (nI 2 * x)) 6 1 (nI 2 * y)) 6 2 (nI 2 * z)) 7 0 (r0 - nI 2 * x)) 7 1 (r1 - nI 2 * y)) 7 2 (r2 - nI 2 * z))) hfo (fun a ha => by
    rcases (show a = 0 ∨ a = 1 ∨ a = 2 by omega) with rfl | rfl | rfl
    · exact y1
    · exact y2
    · exact y3) (fun a ha => by
    rcases (show a = 0 ∨ a = 1 ∨ a = 2 by omega) with rfl | rfl | rfl
    · exact v0
    · exact v1
    · exact v2)] at hk
  exact hk

set_option maxRecDepth 100000 in
set_option maxHeartbeats 4000000 in
theorem t_X2_look {K : x_K} {S : x_S} {P : x_P} {I : x_I} {J : x_J} {n : Nat} {x c : Int32} {fa : Nat → Nat} {bd : Nat} {Z : x_I} (hR : c_R fa bd Z S P I J n) (mi : m_I Z) (hnb : m_nb Z = Z) (e j : Nat) (hx : x = nI e) (he : e < 4) (hc : c = nI j) (hj : (j : Int) < m_ce Z 10) (hK : ∀ (P' : x_P) (I' : x_I), p_ex P P' → x_ex cE I I' J J → K (some (.int (r_ans (r_sby Z e j).1))) S P' I' J n) : x_Call f_X2_look [.ref 8, .int x, .int c] K S P I J n := by
  have hS := hR.hS
  have hP := hR.hP
  have hn := mi.hn
  have hfo := mi.fo
  have h9 : m_ns Z = (Z 39 2).toInt.toNat := rfl
  subst hx hc
  refine x_intro (by decide) 0 (ls := [_, _, _]) rfl (Nat.le_of_ble_eq_true rfl) ?_
  refine v_aload_n d_X2_look_0 rfl ?_
  refine v_aload_n d_X2_look_1 rfl ?_
  refine v_gr d_X2_look_2 lf_X2_9_2 rfl (hS _ _ rfl) (hP _ _ _ rfl) ?_
  refine v_iconst (v := nI 3) d_X2_look_5 x_ic_3 ?_
  refine v_iload_n d_X2_look_6 rfl ?_
  first | refine v_imulN d_X2_look_7 ?_ | refine v_imul d_X2_look_7 ?_
  refine v_iald _ d_X2_look_8 (rfl) (hS _ _ rfl) (⟨by omega, by omega⟩) (hR.Ey (3 * e) (by omega)) ?_
  refine v_aload_n d_X2_look_9 rfl ?_
  refine v_gr d_X2_look_10 lf_X2_9_2 rfl (hS _ _ rfl) (hP _ _ _ rfl) ?_
  refine v_iconst (v := nI 3) d_X2_look_13 x_ic_3 ?_
  refine v_iload_n d_X2_look_14 rfl ?_
  first | refine v_imulN d_X2_look_15 ?_ | refine v_imul d_X2_look_15 ?_
  refine v_iconst (v := nI 1) d_X2_look_16 x_ic_1 ?_
  first | refine v_iaddN d_X2_look_17 ?_ | refine v_iadd d_X2_look_17 ?_
  refine v_iald _ d_X2_look_18 (rfl) (hS _ _ rfl) (⟨by omega, by omega⟩) (hR.Ey (3 * e + 1) (by omega)) ?_
  refine v_aload_n d_X2_look_19 rfl ?_
  refine v_gr d_X2_look_20 lf_X2_9_2 rfl (hS _ _ rfl) (hP _ _ _ rfl) ?_
  refine v_iconst (v := nI 3) d_X2_look_23 x_ic_3 ?_
  refine v_iload_n d_X2_look_24 rfl ?_
  first | refine v_imulN d_X2_look_25 ?_ | refine v_imul d_X2_look_25 ?_
  refine v_iconst (v := nI 2) d_X2_look_26 x_ic_2 ?_
  first | refine v_iaddN d_X2_look_27 ?_ | refine v_iadd d_X2_look_27 ?_
  refine v_iald _ d_X2_look_28 (rfl) (hS _ _ rfl) (⟨by omega, by omega⟩) (hR.Ey (3 * e + 2) (by omega)) ?_
  refine v_iload_n d_X2_look_29 rfl ?_
  refine v_cv (as := [_, _, _, _]) (rest := []) d_X2_look_30 lv_X2_76_2 (hS _ _ rfl) rfl ⟨by decide, by decide⟩ rfl (Nat.le_of_ble_eq_true rfl) (by decide) (by decide) ?_
  refine t_X2_lookFrom hR mi hnb j rfl ⟨mi.es _ (by omega), mi.es _ (by omega), mi.es _ (by omega)⟩ hj (fun P' I' h1 h2 => ?_)
  refine v_ret (v := some (.int _)) d_X2_look_33 rfl ⟨rfl, _, rfl, rfl⟩ (by decide) (by decide) ?_
  exact hK P' I' h1 h2

set_option maxRecDepth 100000 in
set_option maxHeartbeats 4000000 in
theorem t_X2_sees {K : x_K} {S : x_S} {P : x_P} {I : x_I} {J : x_J} {n : Nat} {e c : Int32} {fa : Nat → Nat} {bd : Nat} {Z : x_I} (hR : c_R fa bd Z S P I J n) (mi : m_I Z) (ht : g_ey e ∧ 0 ≤ c.toInt ∧ c.toInt < m_ce (m_nb Z) 10 → K (some (.int (nI 1))) S P I J n) (hf : ¬ (g_ey e ∧ 0 ≤ c.toInt ∧ c.toInt < m_ce (m_nb Z) 10) → K (some (.int (nI 0))) S P I J n) : x_Call f_X2_sees [.ref 8, .int e, .int c] K S P I J n := by
  have hS := hR.hS
  have hP := hR.hP
  have hn := mi.hn
  have hfo := mi.fo
  have h9 : m_ns Z = (Z 39 2).toInt.toNat := rfl
  refine x_intro (by decide) 0 (ls := [_, _, _]) rfl (Nat.le_of_ble_eq_true rfl) ?_
  refine v_iload_n d_X2_sees_0 rfl ?_
  refine v_cs (as := [_]) (rest := []) d_X2_sees_1 ls_X2_50 rfl ⟨by decide, by decide⟩ rfl (Nat.le_of_ble_eq_true rfl) (by decide) (by decide) ?_
  refine t_X2_hasEye (fun q1 => ?_) (fun q1 => ?_)
  · refine w_if_eq d_X2_sees_4 (fun h4 => absurd h4 (by decide)) (fun _ => ?_)
    refine v_aload_n d_X2_sees_7 rfl ?_
    refine v_gr d_X2_sees_8 lf_X2_38_2 rfl (hS _ _ rfl) (hR.pb) ?_
    refine v_iload_n d_X2_sees_11 rfl ?_
    refine v_cv (as := [_]) (rest := []) d_X2_sees_12 lv_X2_54_1 (hR.sb) rfl ⟨by decide, by decide⟩ rfl (Nat.le_of_ble_eq_true rfl) (by decide) (by decide) ?_
    refine t_X1_has hR.sb hR.fb (fun q2 => ?_) (fun q2 => ?_)
    · refine w_if_eq d_X2_sees_15 (fun h15 => absurd h15 (by decide)) (fun _ => ?_)
      refine v_iconst (v := nI 1) d_X2_sees_18 x_ic_1 ?_
      refine v_goto d_X2_sees_19 ?_
      refine v_ret (v := some (.int _)) d_X2_sees_23 rfl ⟨rfl, _, rfl, rfl⟩ (by decide) (by decide) ?_
      exact ht ⟨q1, q2⟩
    · refine w_if_eq d_X2_sees_15 (fun _ => ?_) (fun h15 => absurd h15 (by decide))
      refine v_iconst (v := nI 0) d_X2_sees_22 x_ic_0 ?_
      refine v_ret (v := some (.int _)) d_X2_sees_23 rfl ⟨rfl, _, rfl, rfl⟩ (by decide) (by decide) ?_
      first | exact hf (fun z => q1 z.1) | exact hf (fun z => q2 z.2)
  · refine w_if_eq d_X2_sees_4 (fun _ => ?_) (fun h4 => absurd h4 (by decide))
    refine v_iconst (v := nI 0) d_X2_sees_22 x_ic_0 ?_
    refine v_ret (v := some (.int _)) d_X2_sees_23 rfl ⟨rfl, _, rfl, rfl⟩ (by decide) (by decide) ?_
    first | exact hf (fun z => q1 z.1) | exact hf (fun z => q2 z.2)

set_option maxRecDepth 100000 in
set_option maxHeartbeats 4000000 in
theorem t_X2_isWish {K : x_K} {S : x_S} {P : x_P} {I : x_I} {J : x_J} {n : Nat} {x y set : Int32} {fa : Nat → Nat} {bd : Nat} {Z : x_I} (hR : c_R fa bd Z S P I J n) (mi : m_I Z) (e j : Nat) (hx : x = nI e) (he : e < 4) (hy : y = nI j) (hj : j < 64) (ht : x_bt set e = 1 ∧ w_is Z e j = true → K (some (.int (nI 1))) S P I J n) (hf : ¬ (x_bt set e = 1 ∧ w_is Z e j = true) → K (some (.int (nI 0))) S P I J n) : x_Call f_X2_isWish [.ref 8, .int set, .int x, .int y] K S P I J n := by
  have hS := hR.hS
  have hP := hR.hP
  have hn := mi.hn
  have hfo := mi.fo
  have h9 : m_ns Z = (Z 39 2).toInt.toNat := rfl
  subst hx hy
  refine x_intro (by decide) 0 (ls := [_, _, _, _]) rfl (Nat.le_of_ble_eq_true rfl) ?_
  refine v_iload_n d_X2_isWish_0 rfl ?_
  refine v_iload_n d_X2_isWish_1 rfl ?_
  refine v_ishr d_X2_isWish_2 ?_
  refine v_iconst (v := nI 1) d_X2_isWish_3 x_ic_1 ?_
  refine v_iand d_X2_isWish_4 ?_
  refine v_iconst (v := nI 1) d_X2_isWish_5 x_ic_1 ?_
  refine w_icmp_ne d_X2_isWish_6 (fun a6 => ?_) (fun a6 => ?_)
  · try simp (disch := omega) only [x_ti, x_tm1] at a6
    refine v_iconst (v := nI 0) d_X2_isWish_24 x_ic_0 ?_
    refine v_ret (v := some (.int _)) d_X2_isWish_25 rfl ⟨rfl, _, rfl, rfl⟩ (by decide) (by decide) ?_
    first | exact hf (fun z => a6 (by have := z.1; unfold x_bt at this; omega)) | exact hf (fun z => by have := z.2; unfold w_is at this; exact absurd a17 (of_decide_eq_true this))
  · try simp (disch := omega) only [x_ti, x_tm1] at a6
    refine v_aload_n d_X2_isWish_9 rfl ?_
    refine v_gr d_X2_isWish_10 lf_X2_17_2 rfl (hS _ _ rfl) (hP _ _ _ rfl) ?_
    refine v_iload_n d_X2_isWish_13 rfl ?_
    refine v_aald _ d_X2_isWish_14 (rfl) (hS _ _ rfl) (by decide) (⟨by omega, by omega⟩) (c_pp hP he) ?_
    refine v_iload_n d_X2_isWish_15 rfl ?_
    refine v_iald _ d_X2_isWish_16 (rfl) (c_sp hS he) (⟨by omega, by omega⟩) (hR.Pi e j he hj) ?_
    refine w_if_eq d_X2_isWish_17 (fun a17 => ?_) (fun a17 => ?_)
    · try simp (disch := omega) only [x_ti, x_tm1] at a17
      refine v_iconst (v := nI 0) d_X2_isWish_24 x_ic_0 ?_
      refine v_ret (v := some (.int _)) d_X2_isWish_25 rfl ⟨rfl, _, rfl, rfl⟩ (by decide) (by decide) ?_
      first | exact hf (fun z => a6 (by have := z.1; unfold x_bt at this; omega)) | exact hf (fun z => by have := z.2; unfold w_is at this; exact absurd a17 (of_decide_eq_true this))
    · try simp (disch := omega) only [x_ti, x_tm1] at a17
      refine v_iconst (v := nI 1) d_X2_isWish_20 x_ic_1 ?_
      refine v_goto d_X2_isWish_21 ?_
      refine v_ret (v := some (.int _)) d_X2_isWish_25 rfl ⟨rfl, _, rfl, rfl⟩ (by decide) (by decide) ?_
      exact ht ⟨by unfold x_bt; omega, by unfold w_is; exact decide_eq_true a17⟩

set_option maxRecDepth 100000 in
set_option maxHeartbeats 4000000 in
theorem t_X2_wished {K : x_K} {S : x_S} {P : x_P} {I : x_I} {J : x_J} {n : Nat} {x y : Int32} {fa : Nat → Nat} {bd : Nat} {Z : x_I} (hR : c_R fa bd Z S P I J n) (mi : m_I Z) (e j : Nat) (hx : x = nI e) (he : e < 4) (hy : y = nI j) (hj : j < 64) (hK : K (some (.int (Z 44 (64 * e + j)))) S P I J n) : x_Call f_X2_wished [.ref 8, .int x, .int y] K S P I J n := by
  have hS := hR.hS
  have hP := hR.hP
  have hn := mi.hn
  have hfo := mi.fo
  have h9 : m_ns Z = (Z 39 2).toInt.toNat := rfl
  subst hx hy
  refine x_intro (by decide) 0 (ls := [_, _, _]) rfl (Nat.le_of_ble_eq_true rfl) ?_
  refine v_aload_n d_X2_wished_0 rfl ?_
  refine v_gr d_X2_wished_1 lf_X2_17_2 rfl (hS _ _ rfl) (hP _ _ _ rfl) ?_
  refine v_iload_n d_X2_wished_4 rfl ?_
  refine v_aald _ d_X2_wished_5 (rfl) (hS _ _ rfl) (by decide) (⟨by omega, by omega⟩) (c_pp hP he) ?_
  refine v_iload_n d_X2_wished_6 rfl ?_
  refine v_iald _ d_X2_wished_7 (rfl) (c_sp hS he) (⟨by omega, by omega⟩) (hR.Pi e j he hj) ?_
  refine v_ret (v := some (.int _)) d_X2_wished_8 rfl ⟨rfl, _, rfl, rfl⟩ (by decide) (by decide) ?_
  exact hK

