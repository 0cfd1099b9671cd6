set_option maxRecDepth 100000 in
set_option maxHeartbeats 4000000 in
theorem l_X12_endOf_i {K : x_K} {S : x_S} {P : x_P} {I : x_I} {J : x_J} {n : Nat} (N : Nat) (lu ld : Int) (J0 : x_J) (hN : (I 39 2).toInt = (N : Int)) (hN10 : N ≤ 10) (hfo : ∀ s, s < N → m_fo I s) (hp : ∀ a, a < 3 → -1000 ≤ (I 48 a).toInt ∧ (I 48 a).toInt ≤ 1000) (hq : ∀ a, a < 3 → -100 ≤ (I 49 a).toInt ∧ (I 49 a).toInt ≤ 100) (hf : (I 39 14).toInt = 1 ∨ (I 39 14).toInt = 2) (blu : -2000 ≤ lu ∧ lu ≤ 2000) (bld : 1 ≤ ld ∧ ld ≤ 100) (hS : x_hS S) (hP : x_hP P)
    (hc : ∀ (J : x_J) (x1 x2 : Int32) (x3 x5 : Int64), x_ex mE I I J0 J → r_rel (r_best I (I 39 14).toInt (fun a => (I 48 a).toInt) (fun a => (I 49 a).toInt) lu ld (I 39 15).toInt N) x1 x2 x3 x5 → x_V f_X12_endOf K 112 [some (.ref 39), some (.int x1), some (.int x2), some (.long x3), none, some (.long x5), none, some (.int (nI N)), none] [] S P I J n 0 0) :
    ∀ d s : Nat, s + d = N → ∀ (J : x_J) (x1 x2 : Int32) (x3 x5 : Int64), (J 39 17).toInt = lu → (J 39 18).toInt = ld → x_ex mE I I J0 J → r_rel (r_best I (I 39 14).toInt (fun a => (I 48 a).toInt) (fun a => (I 49 a).toInt) lu ld (I 39 15).toInt s) x1 x2 x3 x5 → x_V f_X12_endOf K 28 [some (.ref 39), some (.int x1), some (.int x2), some (.long x3), none, some (.long x5), none, some (.int (nI s)), none] [] S P I J n 0 0 := by
  intro d
  have t9 : (-9 : Int32).toInt = -9 := by decide
  induction d with
  | zero =>
    intro s hd J x1 x2 x3 x5 hlu hld hex hr
    refine v_iload d_X12_endOf_28 rfl ?_
    refine v_aload_n d_X12_endOf_30 rfl ?_
    refine v_gi d_X12_endOf_31 lf_X12_94_12 rfl (hS _ _ rfl) ?_
    refine w_icmp_ge d_X12_endOf_34 (fun h34 => ?_) (fun h34 => False.elim (by (try simp (disch := omega) only [x_ti, x_tm1] at h34); omega))
    have e9 : s = N := by omega
    subst e9
    exact hc J x1 x2 x3 x5 hex hr
  | succ d ih =>
    intro s hd J x1 x2 x3 x5 hlu hld hex hr
    cases hb : (r_best I (I 39 14).toInt (fun a => (I 48 a).toInt) (fun a => (I 49 a).toInt) lu ld (I 39 15).toInt s) with
    | none =>
      rw [hb] at hr
      have hr : x1 = -9 := hr
      refine v_iload d_X12_endOf_28 rfl ?_
      refine v_aload_n d_X12_endOf_30 rfl ?_
      refine v_gi d_X12_endOf_31 lf_X12_94_12 rfl (hS _ _ rfl) ?_
      refine w_icmp_ge d_X12_endOf_34 (fun h34 => False.elim (by (try simp (disch := omega) only [x_ti, x_tm1] at h34); omega)) (fun h34 => ?_)
      refine v_iload d_X12_endOf_37 rfl ?_
      refine v_aload_n d_X12_endOf_39 rfl ?_
      refine v_gi d_X12_endOf_40 lf_X12_183_12 rfl (hS _ _ rfl) ?_
      refine w_icmp_ne d_X12_endOf_43 (fun a43 => ?_) (fun a43 => ?_)
      · try simp (disch := omega) only [x_ti, x_tm1] at a43
        refine v_aload_n d_X12_endOf_51 rfl ?_
        refine v_iload d_X12_endOf_52 rfl ?_
        refine v_cv (as := [_]) (rest := []) d_X12_endOf_54 lv_X12_186_12 (hS _ _ rfl) rfl ⟨by decide, by decide⟩ rfl (Nat.le_of_ble_eq_true rfl) (by decide) (by decide) ?_
        refine t_X12_comesTo s rfl (by omega) hp hq (by omega) (by omega) hf (hfo s (by omega)) hS hP (fun J' hx h7 h8 hcm => ?_) (fun J' c u d hx h7 h8 hcm hu hd' => ?_)
        · refine v_istore (ls' := [_, _, _, _, _, _, _, _, _]) d_X12_endOf_57 (by decide) rfl ?_
          refine v_iload d_X12_endOf_59 rfl ?_
          refine v_bipush (v := (-9)) d_X12_endOf_61 x_bp_m9 ?_
          refine w_icmp_eq d_X12_endOf_63 (fun _ => ?_) (fun a63 => absurd a63 (by decide))
          first | refine v_iinc (ls' := [_, _, _, _, _, _, _, _, _]) d_X12_endOf_106 rfl (x_inc_1 _) (by decide) rfl ?_ | refine v_iinc (ls' := [_, _, _, _, _, _, _, _, _]) d_X12_endOf_106 rfl rfl (by decide) rfl ?_
          refine v_goto d_X12_endOf_109 ?_
          refine x_V.fg1 8 (ls' := [_, _, _, _, _, _, _, _, _]) rfl ?_
          exact ih (s + 1) (by omega) J' _ _ _ _ (by rw [h7]; exact hlu) (by rw [h8]; exact hld) (hex.tr hx) (by rw [r_best_n a43 (by rw [← hlu, ← hld]; exact hcm)]; exact hb ▸ hr)
        · refine v_istore (ls' := [_, _, _, _, _, _, _, _, _]) d_X12_endOf_57 (by decide) rfl ?_
          refine v_iload d_X12_endOf_59 rfl ?_
          refine v_bipush (v := (-9)) d_X12_endOf_61 x_bp_m9 ?_
          refine w_icmp_eq d_X12_endOf_63 (fun a63 => False.elim (by (try simp (disch := omega) only [x_ti, x_tm1] at a63); have hin := r_com_in (hfo s (by omega)) hp hq hf hcm; rw [x_ti (by omega), t9] at a63; omega)) (fun a63 => ?_)
          refine v_iload_n d_X12_endOf_66 rfl ?_
          refine v_bipush (v := (-9)) d_X12_endOf_67 x_bp_m9 ?_
          refine w_icmp_eq d_X12_endOf_69 (fun a69 => ?_) (fun a69 => False.elim (by (try simp (disch := omega) only [x_ti, x_tm1] at a69); rw [hr] at a69; exact a69 rfl))
          refine v_iload d_X12_endOf_89 rfl ?_
          refine v_istore_n (ls' := [_, _, _, _, _, _, _, _, _]) d_X12_endOf_91 (by decide) rfl ?_
          refine v_iload d_X12_endOf_92 rfl ?_
          refine v_istore_n (ls' := [_, _, _, _, _, _, _, _, _]) d_X12_endOf_94 (by decide) rfl ?_
          refine v_aload_n d_X12_endOf_95 rfl ?_
          refine v_gl d_X12_endOf_96 lf_X12_154_12 rfl (hS _ _ rfl) ?_
          refine v_lstore_n (ls' := [_, _, _, _, _, _, _, _, _]) d_X12_endOf_99 (by decide) rfl ?_
          refine v_aload_n d_X12_endOf_100 rfl ?_
          refine v_gl d_X12_endOf_101 lf_X12_150_12 rfl (hS _ _ rfl) ?_
          refine v_lstore (ls' := [_, _, _, _, _, _, _, _, _]) d_X12_endOf_104 (by decide) rfl ?_
          first | refine v_iinc (ls' := [_, _, _, _, _, _, _, _, _]) d_X12_endOf_106 rfl (x_inc_1 _) (by decide) rfl ?_ | refine v_iinc (ls' := [_, _, _, _, _, _, _, _, _]) d_X12_endOf_106 rfl rfl (by decide) rfl ?_
          refine v_goto d_X12_endOf_109 ?_
          refine x_V.fg1 8 (ls' := [_, _, _, _, _, _, _, _, _]) rfl ?_
          exact ih (s + 1) (by omega) J' _ _ _ _ (by rw [h7]; exact hlu) (by rw [h8]; exact hld) (hex.tr hx) (by rw [r_best_f a43 (by rw [← hlu, ← hld]; exact hcm) hb]; exact ⟨rfl, rfl, hu, hd'⟩)
      · try simp (disch := omega) only [x_ti, x_tm1] at a43
        refine v_bipush (v := (-9)) d_X12_endOf_46 x_bp_m9 ?_
        refine v_goto d_X12_endOf_48 ?_
        refine v_istore (ls' := [_, _, _, _, _, _, _, _, _]) d_X12_endOf_57 (by decide) rfl ?_
        refine v_iload d_X12_endOf_59 rfl ?_
        refine v_bipush (v := (-9)) d_X12_endOf_61 x_bp_m9 ?_
        refine w_icmp_eq d_X12_endOf_63 (fun _ => ?_) (fun a63 => absurd a63 (by decide))
        first | refine v_iinc (ls' := [_, _, _, _, _, _, _, _, _]) d_X12_endOf_106 rfl (x_inc_1 _) (by decide) rfl ?_ | refine v_iinc (ls' := [_, _, _, _, _, _, _, _, _]) d_X12_endOf_106 rfl rfl (by decide) rfl ?_
        refine v_goto d_X12_endOf_109 ?_
        refine x_V.fg1 8 (ls' := [_, _, _, _, _, _, _, _, _]) rfl ?_
        exact ih (s + 1) (by omega) J _ _ _ _ hlu hld hex (by rw [r_best_w a43]; exact hb ▸ hr)
    | some v =>
      obtain ⟨s2, c2, u2, d2⟩ := v
      rw [hb] at hr
      refine v_iload d_X12_endOf_28 rfl ?_
      refine v_aload_n d_X12_endOf_30 rfl ?_
      refine v_gi d_X12_endOf_31 lf_X12_94_12 rfl (hS _ _ rfl) ?_
      refine w_icmp_ge d_X12_endOf_34 (fun h34 => False.elim (by (try simp (disch := omega) only [x_ti, x_tm1] at h34); omega)) (fun h34 => ?_)
      refine v_iload d_X12_endOf_37 rfl ?_
      refine v_aload_n d_X12_endOf_39 rfl ?_
      refine v_gi d_X12_endOf_40 lf_X12_183_12 rfl (hS _ _ rfl) ?_
      refine w_icmp_ne d_X12_endOf_43 (fun a43 => ?_) (fun a43 => ?_)
      · try simp (disch := omega) only [x_ti, x_tm1] at a43
        refine v_aload_n d_X12_endOf_51 rfl ?_
        refine v_iload d_X12_endOf_52 rfl ?_
        refine v_cv (as := [_]) (rest := []) d_X12_endOf_54 lv_X12_186_12 (hS _ _ rfl) rfl ⟨by decide, by decide⟩ rfl (Nat.le_of_ble_eq_true rfl) (by decide) (by decide) ?_
        refine t_X12_comesTo s rfl (by omega) hp hq (by omega) (by omega) hf (hfo s (by omega)) hS hP (fun J' hx h7 h8 hcm => ?_) (fun J' c u d hx h7 h8 hcm hu hd' => ?_)
        · refine v_istore (ls' := [_, _, _, _, _, _, _, _, _]) d_X12_endOf_57 (by decide) rfl ?_
          refine v_iload d_X12_endOf_59 rfl ?_
          refine v_bipush (v := (-9)) d_X12_endOf_61 x_bp_m9 ?_
          refine w_icmp_eq d_X12_endOf_63 (fun _ => ?_) (fun a63 => absurd a63 (by decide))
          first | refine v_iinc (ls' := [_, _, _, _, _, _, _, _, _]) d_X12_endOf_106 rfl (x_inc_1 _) (by decide) rfl ?_ | refine v_iinc (ls' := [_, _, _, _, _, _, _, _, _]) d_X12_endOf_106 rfl rfl (by decide) rfl ?_
          refine v_goto d_X12_endOf_109 ?_
          refine x_V.fg1 8 (ls' := [_, _, _, _, _, _, _, _, _]) rfl ?_
          exact ih (s + 1) (by omega) J' _ _ _ _ (by rw [h7]; exact hlu) (by rw [h8]; exact hld) (hex.tr hx) (by rw [r_best_n a43 (by rw [← hlu, ← hld]; exact hcm), hb]; exact hr)
        · refine v_istore (ls' := [_, _, _, _, _, _, _, _, _]) d_X12_endOf_57 (by decide) rfl ?_
          refine v_iload d_X12_endOf_59 rfl ?_
          refine v_bipush (v := (-9)) d_X12_endOf_61 x_bp_m9 ?_
          refine w_icmp_eq d_X12_endOf_63 (fun a63 => False.elim (by (try simp (disch := omega) only [x_ti, x_tm1] at a63); have hin := r_com_in (hfo s (by omega)) hp hq hf hcm; rw [x_ti (by omega), t9] at a63; omega)) (fun a63 => ?_)
          have hin := r_com_in (hfo s (by omega)) hp hq hf hcm
          have hbi := r_best_in hp hq hf s (fun z hz => hfo z (by omega)) hb
          obtain ⟨rfl, rfl, hx3, hx5⟩ := hr
          have g1 := x_pb (a := u) (b := d2) (A := 2000) (B := 100) (by omega) (by omega) (by omega) (by omega)
          have g2 := x_pb (a := u2) (b := d) (A := 2000) (B := 100) (by omega) (by omega) (by omega) (by omega)
          have pm1 : (J' 39 19 * x5).toInt = u * d2 := by rw [x_mulL (by rw [hu, hx5]; omega) (by rw [hu, hx5]; omega), hu, hx5]
          have pm2 : (x3 * J' 39 20).toInt = u2 * d := by rw [x_mulL (by rw [hx3, hd']; omega) (by rw [hx3, hd']; omega), hx3, hd']
          have hr : r_rel (some (s2, c2, u2, d2)) (nI s2) (nI c2) x3 x5 := ⟨rfl, rfl, hx3, hx5⟩
          refine v_iload_n d_X12_endOf_66 rfl ?_
          refine v_bipush (v := (-9)) d_X12_endOf_67 x_bp_m9 ?_
          refine w_icmp_eq d_X12_endOf_69 (fun a69 => False.elim (by (try simp (disch := omega) only [x_ti, x_tm1] at a69); rw [t9] at a69; omega)) (fun a69 => ?_)
          refine v_aload_n d_X12_endOf_72 rfl ?_
          refine v_gl d_X12_endOf_73 lf_X12_154_12 rfl (hS _ _ rfl) ?_
          refine v_lload d_X12_endOf_76 rfl ?_
          refine v_lmul d_X12_endOf_78 ?_
          refine v_lload_n d_X12_endOf_79 rfl ?_
          refine v_aload_n d_X12_endOf_80 rfl ?_
          refine v_gl d_X12_endOf_81 lf_X12_150_12 rfl (hS _ _ rfl) ?_
          refine v_lmul d_X12_endOf_84 ?_
          refine w_lc_ge d_X12_endOf_85 d_X12_endOf_86 (fun a85 => ?_) (fun a85 => ?_)
          · first | refine v_iinc (ls' := [_, _, _, _, _, _, _, _, _]) d_X12_endOf_106 rfl (x_inc_1 _) (by decide) rfl ?_ | refine v_iinc (ls' := [_, _, _, _, _, _, _, _, _]) d_X12_endOf_106 rfl rfl (by decide) rfl ?_
            refine v_goto d_X12_endOf_109 ?_
            refine x_V.fg1 8 (ls' := [_, _, _, _, _, _, _, _, _]) rfl ?_
            exact ih (s + 1) (by omega) J' _ _ _ _ (by rw [h7]; exact hlu) (by rw [h8]; exact hld) (hex.tr hx) (by rw [r_best_g a43 (by rw [← hlu, ← hld]; exact hcm) hb (by rw [pm1, pm2] at a85; omega), hb]; exact hr)
          · refine v_iload d_X12_endOf_89 rfl ?_
            refine v_istore_n (ls' := [_, _, _, _, _, _, _, _, _]) d_X12_endOf_91 (by decide) rfl ?_
            refine v_iload d_X12_endOf_92 rfl ?_
            refine v_istore_n (ls' := [_, _, _, _, _, _, _, _, _]) d_X12_endOf_94 (by decide) rfl ?_
            refine v_aload_n d_X12_endOf_95 rfl ?_
            refine v_gl d_X12_endOf_96 lf_X12_154_12 rfl (hS _ _ rfl) ?_
            refine v_lstore_n (ls' := [_, _, _, _, _, _, _, _, _]) d_X12_endOf_99 (by decide) rfl ?_
            refine v_aload_n d_X12_endOf_100 rfl ?_
            refine v_gl d_X12_endOf_101 lf_X12_150_12 rfl (hS _ _ rfl) ?_
            refine v_lstore (ls' := [_, _, _, _, _, _, _, _, _]) d_X12_endOf_104 (by decide) rfl ?_
            first | refine v_iinc (ls' := [_, _, _, _, _, _, _, _, _]) d_X12_endOf_106 rfl (x_inc_1 _) (by decide) rfl ?_ | refine v_iinc (ls' := [_, _, _, _, _, _, _, _, _]) d_X12_endOf_106 rfl rfl (by decide) rfl ?_
            refine v_goto d_X12_endOf_109 ?_
            refine x_V.fg1 8 (ls' := [_, _, _, _, _, _, _, _, _]) rfl ?_
            exact ih (s + 1) (by omega) J' _ _ _ _ (by rw [h7]; exact hlu) (by rw [h8]; exact hld) (hex.tr hx) (by rw [r_best_l a43 (by rw [← hlu, ← hld]; exact hcm) hb (by rw [pm1, pm2] at a85; omega)]; exact ⟨rfl, rfl, hu, hd'⟩)
      · try simp (disch := omega) only [x_ti, x_tm1] at a43
        refine v_bipush (v := (-9)) d_X12_endOf_46 x_bp_m9 ?_
        refine v_goto d_X12_endOf_48 ?_
        refine v_istore (ls' := [_, _, _, _, _, _, _, _, _]) d_X12_endOf_57 (by decide) rfl ?_
        refine v_iload d_X12_endOf_59 rfl ?_
        refine v_bipush (v := (-9)) d_X12_endOf_61 x_bp_m9 ?_
        refine w_icmp_eq d_X12_endOf_63 (fun _ => ?_) (fun a63 => absurd a63 (by decide))
        first | refine v_iinc (ls' := [_, _, _, _, _, _, _, _, _]) d_X12_endOf_106 rfl (x_inc_1 _) (by decide) rfl ?_ | refine v_iinc (ls' := [_, _, _, _, _, _, _, _, _]) d_X12_endOf_106 rfl rfl (by decide) rfl ?_
        refine v_goto d_X12_endOf_109 ?_
        refine x_V.fg1 8 (ls' := [_, _, _, _, _, _, _, _, _]) rfl ?_
        exact ih (s + 1) (by omega) J _ _ _ _ hlu hld hex (by rw [r_best_w a43, hb]; exact hr)

