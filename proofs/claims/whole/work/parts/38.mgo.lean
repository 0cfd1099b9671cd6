set_option maxRecDepth 100000 in
set_option maxHeartbeats 4000000 in
theorem t_X12_endOf {K : x_K} {S : x_S} {P : x_P} {I : x_I} {J : x_J} {n : Nat} (p q : Nat → Int) (ep : r_eq (fun a => (I 48 a).toInt) p) (eq : r_eq (fun a => (I 49 a).toInt) q) (hp : ∀ a, a < 3 → -90 ≤ p a ∧ p a ≤ 90) (hq : ∀ a, a < 3 → -100 ≤ q a ∧ q a ≤ 100) (hf : (I 39 14).toInt = 1 ∨ (I 39 14).toInt = 2) (hn : 0 ≤ (I 39 2).toInt ∧ (I 39 2).toInt ≤ 10) (hfo : ∀ s, s < m_ns I → m_fo I s) (hS : x_hS S) (hP : x_hP P) (hK : ∀ (I' : x_I) (J' : x_J), x_ex mE I I' J J' → I' 39 16 = nI (r_end I (I 39 14).toInt (I 39 15).toInt 3 p q 0 1).2 → K (some (.int (r_ans (r_end I (I 39 14).toInt (I 39 15).toInt 3 p q 0 1).1))) S P I' J' n) : x_Call f_X12_endOf [.ref 39] K S P I J n := by
  refine x_intro (by decide) 8 (ls := [_, _, _, _, _, _, _, _, _]) rfl (Nat.le_of_ble_eq_true rfl) ?_
  refine v_aload_n d_X12_endOf_0 rfl ?_
  refine v_iconst (v := nI 0) d_X12_endOf_1 x_ic_0 ?_
  refine v_pi d_X12_endOf_2 (lp_X12_180_12 _) rfl (hS _ _ rfl) (rfl) rfl ?_
  refine v_aload_n d_X12_endOf_5 rfl ?_
  refine v_lconst (v := 0) d_X12_endOf_6 rfl ?_
  refine v_pl d_X12_endOf_7 (lp_X12_167_12 _) rfl (hS _ _ rfl) rfl rfl ?_
  refine v_aload_n d_X12_endOf_10 rfl ?_
  refine v_lconst (v := 1) d_X12_endOf_11 rfl ?_
  refine v_pl d_X12_endOf_12 (lp_X12_164_12 _) rfl (hS _ _ rfl) rfl rfl ?_
  have ec : r_end I (I 39 14).toInt (I 39 15).toInt 3 (fun a => (x_u2 I 39 16 (nI 0) 48 a).toInt) (fun a => (x_u2 I 39 16 (nI 0) 49 a).toInt) 0 1 = (r_end I (I 39 14).toInt (I 39 15).toInt 3 p q 0 1) := r_end_cp hfo 3 ep eq
  refine l_X12_endOf_o I J (I 39 14).toInt (I 39 15).toInt hn hfo hf hS hP 3 0 rfl (x_u2 I 39 16 (nI 0)) (x_u2 (x_u2 J 39 17 0) 39 18 1) (((x_ex.rf.ui (a := 39) (k := 16) rfl).uj (a := 39) (k := 17) rfl).uj (a := 39) (k := 18) rfl) rfl rfl rfl (fun a ha => by have h := hp a ha; rw [← ep a ha] at h; show -(90 + 160 * ((0 : Nat) : Int)) ≤ (I 48 a).toInt ∧ (I 48 a).toInt ≤ 90 + 160 * ((0 : Nat) : Int); have h : -90 ≤ (I 48 a).toInt ∧ (I 48 a).toInt ≤ 90 := h; omega) (fun a ha => by have := hq a ha; rw [← eq a ha] at this; exact this) (show -2000 ≤ (0 : Int64).toInt ∧ (0 : Int64).toInt ≤ 2000 by decide) (show 1 ≤ (1 : Int64).toInt ∧ (1 : Int64).toInt ≤ 100 by decide) ?_
  intro I' J' h1 h2
  have e7 : (x_u2 (x_u2 J 39 17 0) 39 18 1 39 17).toInt = 0 := show (0 : Int64).toInt = 0 by decide
  have e8 : (x_u2 (x_u2 J 39 17 0) 39 18 1 39 18).toInt = 1 := show (1 : Int64).toInt = 1 by decide
  rw [e7, e8, ec, Nat.zero_add] at h2
  rw [e7, e8, ec]
  exact hK I' J' h1 h2

set_option maxRecDepth 100000 in
set_option maxHeartbeats 4000000 in
theorem t_X12_isRay {K : x_K} {S : x_S} {P : x_P} {I : x_I} {J : x_J} {n : Nat} {x y z a b c : Int32} (hS : x_hS S) (hP : x_hP P) (ht : g_ry x y z a b c → K (some (.int (nI 1))) S P I J n) (hf : ¬ (g_ry x y z a b c) → K (some (.int (nI 0))) S P I J n) : x_Call f_X12_isRay [.ref 39, .int x, .int y, .int z, .int a, .int b, .int c] K S P I J n := by
  refine x_intro (by decide) 0 (ls := [_, _, _, _, _, _, _]) rfl (Nat.le_of_ble_eq_true rfl) ?_
  refine v_iload_n d_X12_isRay_0 rfl ?_
  refine v_iload_n d_X12_isRay_1 rfl ?_
  refine v_iload_n d_X12_isRay_2 rfl ?_
  refine v_cs (as := [_, _, _]) (rest := []) d_X12_isRay_3 ls_X12_126 rfl ⟨by decide, by decide⟩ rfl (Nat.le_of_ble_eq_true rfl) (by decide) (by decide) ?_
  refine t_X12_isPlace (fun q0 => ?_) (fun q0 => ?_)
  · refine w_if_eq d_X12_isRay_6 (fun h6 => absurd h6 (by decide)) (fun _ => ?_)
    refine v_iload d_X12_isRay_9 rfl ?_
    refine v_bipush (v := (-99)) d_X12_isRay_11 x_bp_m99 ?_
    refine v_bipush (v := nI 99) d_X12_isRay_13 x_bp_99 ?_
    refine v_cs (as := [_, _, _]) (rest := []) d_X12_isRay_15 ls_X12_90 rfl ⟨by decide, by decide⟩ rfl (Nat.le_of_ble_eq_true rfl) (by decide) (by decide) ?_
    refine t_X12_within (show (-99 : Int32).toInt = -99 by decide) (x_ti (k := 99) (by decide)) (fun q1 => ?_) (fun q1 => ?_)
    · refine w_if_eq d_X12_isRay_18 (fun h18 => absurd h18 (by decide)) (fun _ => ?_)
      refine v_iload d_X12_isRay_21 rfl ?_
      refine v_bipush (v := (-99)) d_X12_isRay_23 x_bp_m99 ?_
      refine v_bipush (v := nI 99) d_X12_isRay_25 x_bp_99 ?_
      refine v_cs (as := [_, _, _]) (rest := []) d_X12_isRay_27 ls_X12_90 rfl ⟨by decide, by decide⟩ rfl (Nat.le_of_ble_eq_true rfl) (by decide) (by decide) ?_
      refine t_X12_within (show (-99 : Int32).toInt = -99 by decide) (x_ti (k := 99) (by decide)) (fun q2 => ?_) (fun q2 => ?_)
      · refine w_if_eq d_X12_isRay_30 (fun h30 => absurd h30 (by decide)) (fun _ => ?_)
        refine v_iload d_X12_isRay_33 rfl ?_
        refine v_bipush (v := (-99)) d_X12_isRay_35 x_bp_m99 ?_
        refine v_bipush (v := nI 99) d_X12_isRay_37 x_bp_99 ?_
        refine v_cs (as := [_, _, _]) (rest := []) d_X12_isRay_39 ls_X12_90 rfl ⟨by decide, by decide⟩ rfl (Nat.le_of_ble_eq_true rfl) (by decide) (by decide) ?_
        refine t_X12_within (show (-99 : Int32).toInt = -99 by decide) (x_ti (k := 99) (by decide)) (fun q3 => ?_) (fun q3 => ?_)
        · refine w_if_eq d_X12_isRay_42 (fun h42 => absurd h42 (by decide)) (fun _ => ?_)
          refine v_iload d_X12_isRay_45 rfl ?_
          refine w_if_ne d_X12_isRay_47 (fun h47 => ?_) (fun h47 => ?_)
          · try simp (disch := omega) only [x_ti, x_tm1] at h47
            refine v_iconst (v := nI 1) d_X12_isRay_60 x_ic_1 ?_
            refine v_goto d_X12_isRay_61 ?_
            refine v_ret (v := some (.int _)) d_X12_isRay_65 rfl ⟨rfl, _, rfl, rfl⟩ (by decide) (by decide) ?_
            exact ht (by unfold g_ry g_pl g_dr; omega)
          · try simp (disch := omega) only [x_ti, x_tm1] at h47
            refine v_iload d_X12_isRay_50 rfl ?_
            refine w_if_ne d_X12_isRay_52 (fun h52 => ?_) (fun h52 => ?_)
            · try simp (disch := omega) only [x_ti, x_tm1] at h52
              refine v_iconst (v := nI 1) d_X12_isRay_60 x_ic_1 ?_
              refine v_goto d_X12_isRay_61 ?_
              refine v_ret (v := some (.int _)) d_X12_isRay_65 rfl ⟨rfl, _, rfl, rfl⟩ (by decide) (by decide) ?_
              exact ht (by unfold g_ry g_pl g_dr; omega)
            · try simp (disch := omega) only [x_ti, x_tm1] at h52
              refine v_iload d_X12_isRay_55 rfl ?_
              refine w_if_eq d_X12_isRay_57 (fun h57 => ?_) (fun h57 => ?_)
              · try simp (disch := omega) only [x_ti, x_tm1] at h57
                refine v_iconst (v := nI 0) d_X12_isRay_64 x_ic_0 ?_
                refine v_ret (v := some (.int _)) d_X12_isRay_65 rfl ⟨rfl, _, rfl, rfl⟩ (by decide) (by decide) ?_
                exact hf (by unfold g_ry g_pl g_dr; omega)
              · try simp (disch := omega) only [x_ti, x_tm1] at h57
                refine v_iconst (v := nI 1) d_X12_isRay_60 x_ic_1 ?_
                refine v_goto d_X12_isRay_61 ?_
                refine v_ret (v := some (.int _)) d_X12_isRay_65 rfl ⟨rfl, _, rfl, rfl⟩ (by decide) (by decide) ?_
                exact ht (by unfold g_ry g_pl g_dr; omega)
        · refine w_if_eq d_X12_isRay_42 (fun _ => ?_) (fun h42 => absurd h42 (by decide))
          refine v_iconst (v := nI 0) d_X12_isRay_64 x_ic_0 ?_
          refine v_ret (v := some (.int _)) d_X12_isRay_65 rfl ⟨rfl, _, rfl, rfl⟩ (by decide) (by decide) ?_
          exact hf (by unfold g_ry g_pl g_dr; omega)
      · refine w_if_eq d_X12_isRay_30 (fun _ => ?_) (fun h30 => absurd h30 (by decide))
        refine v_iconst (v := nI 0) d_X12_isRay_64 x_ic_0 ?_
        refine v_ret (v := some (.int _)) d_X12_isRay_65 rfl ⟨rfl, _, rfl, rfl⟩ (by decide) (by decide) ?_
        exact hf (by unfold g_ry g_pl g_dr; omega)
    · refine w_if_eq d_X12_isRay_18 (fun _ => ?_) (fun h18 => absurd h18 (by decide))
      refine v_iconst (v := nI 0) d_X12_isRay_64 x_ic_0 ?_
      refine v_ret (v := some (.int _)) d_X12_isRay_65 rfl ⟨rfl, _, rfl, rfl⟩ (by decide) (by decide) ?_
      exact hf (by unfold g_ry g_pl g_dr; omega)
  · refine w_if_eq d_X12_isRay_6 (fun _ => ?_) (fun h6 => absurd h6 (by decide))
    refine v_iconst (v := nI 0) d_X12_isRay_64 x_ic_0 ?_
    refine v_ret (v := some (.int _)) d_X12_isRay_65 rfl ⟨rfl, _, rfl, rfl⟩ (by decide) (by decide) ?_
    exact hf (by unfold g_ry g_pl g_dr; omega)

set_option maxRecDepth 100000 in
set_option maxHeartbeats 4000000 in
theorem t_X12_go {K : x_K} {S : x_S} {P : x_P} {I : x_I} {J : x_J} {n : Nat} {x y z a b c : Int32} (hpl : g_pl x y z) (hdr : (-100 ≤ a.toInt ∧ a.toInt ≤ 100) ∧ (-100 ≤ b.toInt ∧ b.toInt ≤ 100) ∧ (-100 ≤ c.toInt ∧ c.toInt ≤ 100)) (hn : 0 ≤ (I 39 2).toInt ∧ (I 39 2).toInt ≤ 10) (hfo : ∀ s, s < m_ns I → m_fo I s) (hS : x_hS S) (hP : x_hP P) (hK : ∀ (I' : x_I) (J' : x_J), x_ex mE I I' J J' → I' 39 16 = nI (r_ray I 1 (-9) x.toInt y.toInt z.toInt a.toInt b.toInt c.toInt).2 → K (some (.int (r_ans (r_ray I 1 (-9) x.toInt y.toInt z.toInt a.toInt b.toInt c.toInt).1))) S P I' J' n) : x_Call f_X12_go [.ref 39, .int x, .int y, .int z, .int a, .int b, .int c] K S P I J n := by
  unfold g_pl at hpl
  have hex : x_ex mE I (x_u2 (x_u2 (x_u2 (x_u2 (x_u2 (x_u2 (x_u2 (x_u2 I 48 0 x) 48 1 y) 48 2 z) 49 0 a) 49 1 b) 49 2 c) 39 14 (nI 1)) 39 15 (-9)) J J := ((((((((x_ex.rf.ui (a := 48) (k := 0) rfl).ui (a := 48) (k := 1) rfl).ui (a := 48) (k := 2) rfl).ui (a := 49) (k := 0) rfl).ui (a := 49) (k := 1) rfl).ui (a := 49) (k := 2) rfl).ui (a := 39) (k := 14) rfl).ui (a := 39) (k := 15) rfl)
  have b3 : ∀ k, k < 3 → -90 ≤ r3 x.toInt y.toInt z.toInt k ∧ r3 x.toInt y.toInt z.toInt k ≤ 90 := fun k _ => r3_in (by omega) (by omega) (by omega) k
  have b4 : ∀ k, k < 3 → -100 ≤ r3 a.toInt b.toInt c.toInt k ∧ r3 a.toInt b.toInt c.toInt k ≤ 100 := fun k _ => r3_in (by omega) (by omega) (by omega) k
  have e9 : r_end (x_u2 (x_u2 (x_u2 (x_u2 (x_u2 (x_u2 (x_u2 (x_u2 I 48 0 x) 48 1 y) 48 2 z) 49 0 a) 49 1 b) 49 2 c) 39 14 (nI 1)) 39 15 (-9)) 1 (-9) 3 (r3 x.toInt y.toInt z.toInt) (r3 a.toInt b.toInt c.toInt) 0 1 = (r_ray I 1 (-9) x.toInt y.toInt z.toInt a.toInt b.toInt c.toInt) := r_end_cg (fun j => hex.i 41 j rfl) (fun s _ => hex.i 40 s rfl) (fun s j _ _ => hex.i 42 _ rfl) (hex.i 39 2 rfl) hfo (Or.inl rfl) 3 0 rfl (fun k hk => by have := b3 k hk; omega) b4
  refine x_intro (by decide) 0 (ls := [_, _, _, _, _, _, _]) rfl (Nat.le_of_ble_eq_true rfl) ?_
  refine v_aload_n d_X12_go_0 rfl ?_
  refine v_gr d_X12_go_1 lf_X12_34_12 rfl (hS _ _ rfl) (hP _ _ _ rfl) ?_
  refine v_iconst (v := nI 0) d_X12_go_4 x_ic_0 ?_
  refine v_iload_n d_X12_go_5 rfl ?_
  refine v_iast _ d_X12_go_6 (rfl) (hS _ _ rfl) (⟨by omega, by omega⟩) ?_
  refine v_aload_n d_X12_go_7 rfl ?_
  refine v_gr d_X12_go_8 lf_X12_34_12 rfl (hS _ _ rfl) (hP _ _ _ rfl) ?_
  refine v_iconst (v := nI 1) d_X12_go_11 x_ic_1 ?_
  refine v_iload_n d_X12_go_12 rfl ?_
  refine v_iast _ d_X12_go_13 (rfl) (hS _ _ rfl) (⟨by omega, by omega⟩) ?_
  refine v_aload_n d_X12_go_14 rfl ?_
  refine v_gr d_X12_go_15 lf_X12_34_12 rfl (hS _ _ rfl) (hP _ _ _ rfl) ?_
  refine v_iconst (v := nI 2) d_X12_go_18 x_ic_2 ?_
  refine v_iload_n d_X12_go_19 rfl ?_
  refine v_iast _ d_X12_go_20 (rfl) (hS _ _ rfl) (⟨by omega, by omega⟩) ?_
  refine v_aload_n d_X12_go_21 rfl ?_
  refine v_gr d_X12_go_22 lf_X12_37_12 rfl (hS _ _ rfl) (hP _ _ _ rfl) ?_
  refine v_iconst (v := nI 0) d_X12_go_25 x_ic_0 ?_
  refine v_iload d_X12_go_26 rfl ?_
  refine v_iast _ d_X12_go_28 (rfl) (hS _ _ rfl) (⟨by omega, by omega⟩) ?_
  refine v_aload_n d_X12_go_29 rfl ?_
  refine v_gr d_X12_go_30 lf_X12_37_12 rfl (hS _ _ rfl) (hP _ _ _ rfl) ?_
  refine v_iconst (v := nI 1) d_X12_go_33 x_ic_1 ?_
  refine v_iload d_X12_go_34 rfl ?_
  refine v_iast _ d_X12_go_36 (rfl) (hS _ _ rfl) (⟨by omega, by omega⟩) ?_
  refine v_aload_n d_X12_go_37 rfl ?_
  refine v_gr d_X12_go_38 lf_X12_37_12 rfl (hS _ _ rfl) (hP _ _ _ rfl) ?_
  refine v_iconst (v := nI 2) d_X12_go_41 x_ic_2 ?_
  refine v_iload d_X12_go_42 rfl ?_
  refine v_iast _ d_X12_go_44 (rfl) (hS _ _ rfl) (⟨by omega, by omega⟩) ?_
  refine v_aload_n d_X12_go_45 rfl ?_
  refine v_iconst (v := nI 1) d_X12_go_46 x_ic_1 ?_
  refine v_pi d_X12_go_47 (lp_X12_157_12 _) rfl (hS _ _ rfl) (rfl) rfl ?_
  refine v_aload_n d_X12_go_50 rfl ?_
  refine v_bipush (v := (-9)) d_X12_go_51 x_bp_m9 ?_
  refine v_pi d_X12_go_53 (lp_X12_183_12 _) rfl (hS _ _ rfl) (rfl) rfl ?_
  refine v_aload_n d_X12_go_56 rfl ?_
  refine v_cv (as := []) (rest := []) d_X12_go_57 lv_X12_192_12 (hS _ _ rfl) rfl ⟨by decide, by decide⟩ rfl (Nat.le_of_ble_eq_true rfl) (by decide) (by decide) ?_
  refine t_X12_endOf (I := (x_u2 (x_u2 (x_u2 (x_u2 (x_u2 (x_u2 (x_u2 (x_u2 I 48 0 x) 48 1 y) 48 2 z) 49 0 a) 49 1 b) 49 2 c) 39 14 (nI 1)) 39 15 (-9))) (r3 x.toInt y.toInt z.toInt) (r3 a.toInt b.toInt c.toInt) (fun k hk => by rcases (show k = 0 ∨ k = 1 ∨ k = 2 by omega) with rfl | rfl | rfl <;> rfl) (fun k hk => by rcases (show k = 0 ∨ k = 1 ∨ k = 2 by omega) with rfl | rfl | rfl <;> rfl) b3 b4 (Or.inl (show (nI 1).toInt = 1 by decide)) (by rw [hex.i 39 2 rfl]; exact hn) (fun s hs => m_fo_cg (fun j => hex.i 41 j rfl) (hfo s (by unfold m_ns at hs ⊢; rw [hex.i 39 2 rfl] at hs; exact hs))) hS hP (fun I' J' h1 h2 => ?_)
  refine v_ret (v := some (.int _)) d_X12_go_60 rfl ⟨rfl, _, rfl, rfl⟩ (by decide) (by decide) ?_
  have f1 : ((x_u2 (x_u2 (x_u2 (x_u2 (x_u2 (x_u2 (x_u2 (x_u2 I 48 0 x) 48 1 y) 48 2 z) 49 0 a) 49 1 b) 49 2 c) 39 14 (nI 1)) 39 15 (-9)) 39 14).toInt = 1 := show (nI 1).toInt = 1 by decide
  have f2 : ((x_u2 (x_u2 (x_u2 (x_u2 (x_u2 (x_u2 (x_u2 (x_u2 I 48 0 x) 48 1 y) 48 2 z) 49 0 a) 49 1 b) 49 2 c) 39 14 (nI 1)) 39 15 (-9)) 39 15).toInt = -9 := show (-9 : Int32).toInt = -9 by decide
  rw [f1, f2, e9] at h2 ⊢
  exact hK I' J' (hex.tr h1) h2

