def f_rel (o : Option (Nat × Nat)) (a b : Int32) : Prop := match o with
  | none => a = -9 ∧ b = nI 0
  | some w => a = nI w.1 ∧ b = nI w.2 ∧ w.1 < 1024 ∧ w.2 ≤ 23040
noncomputable def f_fin (o : Option (Nat × Nat)) (what : Int32) : Int32 := match o with
  | none => x_if (what.toInt = 0) (-9) (nI 0)
  | some w => x_if (what.toInt = 0) (nI w.1) (nI w.2)
theorem f_of_le (Z : x_I) (c : Nat) : f_of Z c ≤ 256 := x_ct_le _ _
noncomputable def q_few (I : x_I) (k what : Int32) : Int32 := x_if (¬ ((1 ≤ k.toInt ∧ k.toInt ≤ 9) ∧ 0 ≤ what.toInt ∧ what.toInt ≤ 1)) (-2) (f_fin (f_be (f_of I) (x_k k) 511) what)

set_option maxRecDepth 100000 in
set_option maxHeartbeats 4000000 in
theorem l_X12_few_c {K : x_K} {S : x_S} {P : x_P} {n : Nat} {what : Int32} (Z : x_I) (J0 : x_J) (q : Nat) (hq : q < 10) (hS : x_hS S) (hP : x_hP P) (hK : ∀ (I : x_I) (J : x_J), x_ex mF Z I J0 J → K (some (.int (f_fin (f_be (f_of Z) q 511) what))) S P I J n) :
    ∀ d j : Nat, j + d = 511 → ∀ (I : x_I) (J : x_J), x_ex mF Z I J0 J → (∀ c, c < 10 → I 62 c = nI (f_of Z c)) → f_rel (f_be (f_of Z) q j) (I 39 37) (I 39 38) → x_V f_X12_few K 86 [some (.ref 39), some (.int (nI q)), some (.int what), some (.int (nI (2 * (j + 1)))), none] [] S P I J n 0 0 := by
  intro d
  have t9 : (-9 : Int32).toInt = -9 := by decide
  induction d with
  | zero =>
    intro j hd I J hex hv hr
    refine v_iload_n d_X12_few_86 rfl ?_
    refine v_sipush (v := nI 1024) d_X12_few_87 x_sp_1024 ?_
    refine w_icmp_ge d_X12_few_90 (fun h90 => ?_) (fun h90 => False.elim (by (try simp (disch := omega) only [x_ti, x_tm1] at h90); omega))
    have e9 : j = 511 := by omega
    subst e9
    refine v_iload_n d_X12_few_146 rfl ?_
    refine w_if_ne d_X12_few_147 (fun a147 => ?_) (fun a147 => ?_)
    · refine v_aload_n d_X12_few_157 rfl ?_
      refine v_gi d_X12_few_158 lf_X12_260_12 rfl (hS _ _ rfl) ?_
      refine v_ret (v := some (.int _)) d_X12_few_161 rfl ⟨rfl, _, rfl, rfl⟩ (by decide) (by decide) ?_
      first
        | (cases hs : f_be (f_of Z) q 511 with
           | none =>
             rw [hs] at hr hK
             simp only [f_fin, x_if_t a147] at hK
             rw [hr.1]
             exact hK I J hex
           | some w =>
             rw [hs] at hr hK
             obtain ⟨r1, r2, -, -⟩ := hr
             simp only [f_fin, x_if_t a147] at hK
             rw [r1]
             exact hK I J hex)
        | (cases hs : f_be (f_of Z) q 511 with
           | none =>
             rw [hs] at hr hK
             simp only [f_fin, x_if_f a147] at hK
             rw [hr.2]
             exact hK I J hex
           | some w =>
             rw [hs] at hr hK
             obtain ⟨r1, r2, -, -⟩ := hr
             simp only [f_fin, x_if_f a147] at hK
             rw [r2]
             exact hK I J hex)
    · refine v_aload_n d_X12_few_150 rfl ?_
      refine v_gi d_X12_few_151 lf_X12_257_12 rfl (hS _ _ rfl) ?_
      refine v_goto d_X12_few_154 ?_
      refine v_ret (v := some (.int _)) d_X12_few_161 rfl ⟨rfl, _, rfl, rfl⟩ (by decide) (by decide) ?_
      first
        | (cases hs : f_be (f_of Z) q 511 with
           | none =>
             rw [hs] at hr hK
             simp only [f_fin, x_if_t a147] at hK
             rw [hr.1]
             exact hK I J hex
           | some w =>
             rw [hs] at hr hK
             obtain ⟨r1, r2, -, -⟩ := hr
             simp only [f_fin, x_if_t a147] at hK
             rw [r1]
             exact hK I J hex)
        | (cases hs : f_be (f_of Z) q 511 with
           | none =>
             rw [hs] at hr hK
             simp only [f_fin, x_if_f a147] at hK
             rw [hr.2]
             exact hK I J hex
           | some w =>
             rw [hs] at hr hK
             obtain ⟨r1, r2, -, -⟩ := hr
             simp only [f_fin, x_if_f a147] at hK
             rw [r2]
             exact hK I J hex)
  | succ d ih =>
    intro j hd I J hex hv hr
    have hsu := f_su_le (of := f_of Z) (m := 2 * (j + 1)) (f_of_le Z) 9
    have hzz : f_sz (2 * (j + 1)) ≤ 9 * 1 := x_sm_le 9 (fun k _ => f_bi_le _ _)
    refine v_iload_n d_X12_few_86 rfl ?_
    refine v_sipush (v := nI 1024) d_X12_few_87 x_sp_1024 ?_
    refine w_icmp_ge d_X12_few_90 (fun h90 => False.elim (by (try simp (disch := omega) only [x_ti, x_tm1] at h90); omega)) (fun h90 => ?_)
    refine v_iload_n d_X12_few_93 rfl ?_
    refine v_cs (as := [_]) (rest := []) d_X12_few_94 ls_X12_263 rfl ⟨by decide, by decide⟩ rfl (Nat.le_of_ble_eq_true rfl) (by decide) (by decide) ?_
    refine t_X12_sizeOf (2 * (j + 1)) rfl (by omega) ?_
    refine v_iload_n d_X12_few_97 rfl ?_
    refine w_icmp_eq d_X12_few_98 (fun a98 => ?_) (fun a98 => ?_)
    · try simp (disch := omega) only [x_ti, x_tm1] at a98
      refine v_aload_n d_X12_few_104 rfl ?_
      refine v_iload_n d_X12_few_105 rfl ?_
      refine v_cv (as := [_]) (rest := []) d_X12_few_106 lv_X12_266_12 (hS _ _ rfl) rfl ⟨by decide, by decide⟩ rfl (Nat.le_of_ble_eq_true rfl) (by decide) (by decide) ?_
      refine t_X12_sumOf (f_of Z) (2 * (j + 1)) rfl (by omega) (f_of_le Z) hv hS hP ?_
      refine v_istore (ls' := [_, _, _, _, _]) d_X12_few_109 (by decide) rfl ?_
      refine v_aload_n d_X12_few_111 rfl ?_
      refine v_gi d_X12_few_112 lf_X12_257_12 rfl (hS _ _ rfl) ?_
      refine v_bipush (v := (-9)) d_X12_few_115 x_bp_m9 ?_
      refine w_icmp_eq d_X12_few_117 (fun a117 => ?_) (fun a117 => ?_)
      · refine v_aload_n d_X12_few_129 rfl ?_
        refine v_iload_n d_X12_few_130 rfl ?_
        refine v_pi d_X12_few_131 (lp_X12_257_12 _) rfl (hS _ _ rfl) (rfl) rfl ?_
        refine v_aload_n d_X12_few_134 rfl ?_
        refine v_iload d_X12_few_135 rfl ?_
        refine v_pi d_X12_few_137 (lp_X12_260_12 _) rfl (hS _ _ rfl) (rfl) rfl ?_
        first | refine v_iinc (ls' := [_, _, _, _, _]) d_X12_few_140 rfl (x_inc_2 _) (by decide) rfl ?_ | refine v_iinc (ls' := [_, _, _, _, _]) d_X12_few_140 rfl rfl (by decide) rfl ?_
        refine v_goto d_X12_few_143 ?_
        refine x_V.fg1 4 (ls' := [_, _, _, _, _]) rfl ?_
        have e2 : 2 * (j + 1) + 2 = 2 * (j + 1 + 1) := by omega
        rw [e2]
        have hsz : f_sz (2 * (j + 1)) = q := by omega
        have hup : f_be (f_of Z) q (j + 1) = f_up (f_be (f_of Z) q j) (2 * (j + 1), f_su (f_of Z) (2 * (j + 1)) 9) := by rw [f_be, if_pos hsz]
        refine ih (j + 1) (by omega) _ J ((hex.ui (a := 39) (k := 37) rfl).ui (a := 39) (k := 38) rfl) (fun c hc => hv c hc) ?_
        rw [hup]
        cases hs : f_be (f_of Z) q j with
        | none => exact ⟨rfl, rfl, by omega, by omega⟩
        | some w =>
          rw [hs] at hr
          obtain ⟨r1, r2, r3, r4⟩ := hr
          rw [r1, x_ti (by omega), t9] at a117
          exact absurd a117 (by omega)
      · refine v_iload d_X12_few_120 rfl ?_
        refine v_aload_n d_X12_few_122 rfl ?_
        refine v_gi d_X12_few_123 lf_X12_260_12 rfl (hS _ _ rfl) ?_
        refine w_icmp_ge d_X12_few_126 (fun a126 => ?_) (fun a126 => ?_)
        · first | refine v_iinc (ls' := [_, _, _, _, _]) d_X12_few_140 rfl (x_inc_2 _) (by decide) rfl ?_ | refine v_iinc (ls' := [_, _, _, _, _]) d_X12_few_140 rfl rfl (by decide) rfl ?_
          refine v_goto d_X12_few_143 ?_
          refine x_V.fg1 4 (ls' := [_, _, _, _, _]) rfl ?_
          have e2 : 2 * (j + 1) + 2 = 2 * (j + 1 + 1) := by omega
          rw [e2]
          have hsz : f_sz (2 * (j + 1)) = q := by omega
          have hup : f_be (f_of Z) q (j + 1) = f_up (f_be (f_of Z) q j) (2 * (j + 1), f_su (f_of Z) (2 * (j + 1)) 9) := by rw [f_be, if_pos hsz]
          refine ih (j + 1) (by omega) I J hex hv ?_
          rw [hup]
          cases hs : f_be (f_of Z) q j with
          | none =>
            rw [hs] at hr
            exact absurd (show (I 39 37).toInt = (-9 : Int32).toInt by rw [hr.1]) a117
          | some w =>
            rw [hs] at hr
            obtain ⟨r1, r2, r3, r4⟩ := hr
            rw [r2, x_ti (by omega), x_ti (by omega)] at a126
            unfold f_up
            simp only
            rw [if_neg (by omega)]
            exact ⟨r1, r2, r3, r4⟩
        · refine v_aload_n d_X12_few_129 rfl ?_
          refine v_iload_n d_X12_few_130 rfl ?_
          refine v_pi d_X12_few_131 (lp_X12_257_12 _) rfl (hS _ _ rfl) (rfl) rfl ?_
          refine v_aload_n d_X12_few_134 rfl ?_
          refine v_iload d_X12_few_135 rfl ?_
          refine v_pi d_X12_few_137 (lp_X12_260_12 _) rfl (hS _ _ rfl) (rfl) rfl ?_
          first | refine v_iinc (ls' := [_, _, _, _, _]) d_X12_few_140 rfl (x_inc_2 _) (by decide) rfl ?_ | refine v_iinc (ls' := [_, _, _, _, _]) d_X12_few_140 rfl rfl (by decide) rfl ?_
          refine v_goto d_X12_few_143 ?_
          refine x_V.fg1 4 (ls' := [_, _, _, _, _]) rfl ?_
          have e2 : 2 * (j + 1) + 2 = 2 * (j + 1 + 1) := by omega
          rw [e2]
          have hsz : f_sz (2 * (j + 1)) = q := by omega
          have hup : f_be (f_of Z) q (j + 1) = f_up (f_be (f_of Z) q j) (2 * (j + 1), f_su (f_of Z) (2 * (j + 1)) 9) := by rw [f_be, if_pos hsz]
          refine ih (j + 1) (by omega) _ J ((hex.ui (a := 39) (k := 37) rfl).ui (a := 39) (k := 38) rfl) (fun c hc => hv c hc) ?_
          rw [hup]
          cases hs : f_be (f_of Z) q j with
          | none =>
            rw [hs] at hr
            exact absurd (show (I 39 37).toInt = (-9 : Int32).toInt by rw [hr.1]) a117
          | some w =>
            rw [hs] at hr
            obtain ⟨r1, r2, r3, r4⟩ := hr
            rw [r2, x_ti (by omega), x_ti (by omega)] at a126
            unfold f_up
            simp only
            rw [if_pos (by omega)]
            exact ⟨rfl, rfl, by omega, by omega⟩
    · try simp (disch := omega) only [x_ti, x_tm1] at a98
      refine v_goto d_X12_few_101 ?_
      first | refine v_iinc (ls' := [_, _, _, _, _]) d_X12_few_140 rfl (x_inc_2 _) (by decide) rfl ?_ | refine v_iinc (ls' := [_, _, _, _, _]) d_X12_few_140 rfl rfl (by decide) rfl ?_
      refine v_goto d_X12_few_143 ?_
      have e2 : 2 * (j + 1) + 2 = 2 * (j + 1 + 1) := by omega
      rw [e2]
      refine ih (j + 1) (by omega) I J hex hv ?_
      rw [f_be, if_neg (by omega)]
      exact hr

set_option maxRecDepth 100000 in
set_option maxHeartbeats 4000000 in
theorem l_X12_few_b {K : x_K} {S : x_S} {P : x_P} {n : Nat} {what : Int32} (Z : x_I) (J0 : x_J) (q : Nat) (hpc : g_pc Z) (hS : x_hS S) (hP : x_hP P) (hc : ∀ (I : x_I) (J : x_J), x_ex mF Z I J0 J → (∀ c, c < 10 → I 62 c = nI (f_of Z c)) → f_rel none (I 39 37) (I 39 38) → x_V f_X12_few K 86 [some (.ref 39), some (.int (nI q)), some (.int what), some (.int (nI 2)), none] [] S P I J n 0 0) :
    ∀ d k : Nat, k + d = 256 → ∀ (I : x_I) (J : x_J), x_ex mF Z I J0 J → (∀ c, c < 10 → I 62 c = nI (x_ct (fun i => decide ((Z 44 i).toInt = (c : Int))) k)) → x_V f_X12_few K 45 [some (.ref 39), some (.int (nI q)), some (.int what), some (.int (nI k)), none] [] S P I J n 0 0 := by
  intro d
  induction d with
  | zero =>
    intro k hd I J hex hv
    refine v_iload_n d_X12_few_45 rfl ?_
    refine v_sipush (v := nI 256) d_X12_few_46 x_sp_256 ?_
    refine w_icmp_ge d_X12_few_49 (fun h49 => ?_) (fun h49 => False.elim (by (try simp (disch := omega) only [x_ti, x_tm1] at h49); omega))
    refine v_aload_n d_X12_few_73 rfl ?_
    refine v_bipush (v := (-9)) d_X12_few_74 x_bp_m9 ?_
    refine v_pi d_X12_few_76 (lp_X12_257_12 _) rfl (hS _ _ rfl) (rfl) rfl ?_
    refine v_aload_n d_X12_few_79 rfl ?_
    refine v_iconst (v := nI 0) d_X12_few_80 x_ic_0 ?_
    refine v_pi d_X12_few_81 (lp_X12_260_12 _) rfl (hS _ _ rfl) (rfl) rfl ?_
    refine v_iconst (v := nI 2) d_X12_few_84 x_ic_2 ?_
    refine v_istore_n (ls' := [_, _, _, _, _]) d_X12_few_85 (by decide) rfl ?_
    have e9 : k = 256 := by omega
    subst e9
    exact hc _ J ((hex.ui (a := 39) (k := 37) rfl).ui (a := 39) (k := 38) rfl) (fun c h => hv c h) ⟨rfl, rfl⟩
  | succ d ih =>
    intro k hd I J hex hv
    have hpz := hpc k (by omega)
    obtain ⟨p, hp, hp1, hp2, hp3⟩ := x_ex1 (s := Z 44 k) (by omega)
    refine v_iload_n d_X12_few_45 rfl ?_
    refine v_sipush (v := nI 256) d_X12_few_46 x_sp_256 ?_
    refine w_icmp_ge d_X12_few_49 (fun h49 => False.elim (by (try simp (disch := omega) only [x_ti, x_tm1] at h49); omega)) (fun h49 => ?_)
    refine v_aload_n d_X12_few_52 rfl ?_
    refine v_gr d_X12_few_53 lf_X12_82_12 rfl (hS _ _ rfl) (hP _ _ _ rfl) ?_
    refine v_aload_n d_X12_few_56 rfl ?_
    refine v_gr d_X12_few_57 lf_X12_22_12 rfl (hS _ _ rfl) (hP _ _ _ rfl) ?_
    refine v_iload_n d_X12_few_60 rfl ?_
    refine v_iald _ d_X12_few_61 (rfl) (hS _ _ rfl) (⟨by omega, by omega⟩) ((hex.i 44 k rfl).trans hp) ?_
    refine v_dup2 d_X12_few_62 rfl rfl ?_
    refine v_iald _ d_X12_few_63 (rfl) (hS _ _ rfl) (⟨by omega, by omega⟩) (hv p (by omega)) ?_
    refine v_iconst (v := nI 1) d_X12_few_64 x_ic_1 ?_
    first | refine v_iaddN d_X12_few_65 ?_ | refine v_iadd d_X12_few_65 ?_
    refine v_iast _ d_X12_few_66 (rfl) (hS _ _ rfl) (⟨by omega, by omega⟩) ?_
    first | refine v_iinc (ls' := [_, _, _, _, _]) d_X12_few_67 rfl (x_inc_1 _) (by decide) rfl ?_ | refine v_iinc (ls' := [_, _, _, _, _]) d_X12_few_67 rfl rfl (by decide) rfl ?_
    refine v_goto d_X12_few_70 ?_
    refine ih (k + 1) (by omega) _ J (hex.ui (a := 62) (k := p) rfl) (fun c hc => ?_)
    rw [x_u2_at]
    by_cases hcp : c = p
    · have r1 := x_ct_y (p := fun i => decide ((Z 44 i).toInt = (c : Int))) (k := k) (decide_eq_true (by rw [hp2, hcp]))
      rw [if_pos ⟨rfl, hcp⟩, ← r1, hcp]
    · have r1 := x_ct_n (p := fun i => decide ((Z 44 i).toInt = (c : Int))) (k := k) (decide_eq_false (by rw [hp2]; omega))
      rw [if_neg (fun z => hcp z.2), ← r1, Nat.add_zero]
      exact hv c hc

set_option maxRecDepth 100000 in
set_option maxHeartbeats 4000000 in
theorem l_X12_few_a {K : x_K} {S : x_S} {P : x_P} {I : x_I} {J : x_J} {n : Nat} {what : Int32} (q : Nat) (hS : x_hS S) (hP : x_hP P) (hc : x_V f_X12_few K 45 [some (.ref 39), some (.int (nI q)), some (.int what), some (.int (nI 0)), none] [] S P (x_fi I 62 0 10 0) J n 0 0) : ∀ d k : Nat, k + d = 10 → x_V f_X12_few K 24 [some (.ref 39), some (.int (nI q)), some (.int what), some (.int (nI k)), none] [] S P (x_fi I 62 0 k 0) J n 0 0 := by
  intro d
  induction d with
  | zero =>
    intro k hd
    have e9 : k = 10 := by omega
    subst e9
    refine v_iload_n d_X12_few_24 rfl ?_
    refine v_bipush (v := nI 10) d_X12_few_25 x_bp_10 ?_
    refine w_icmp_ge d_X12_few_27 (fun h27 => ?_) (fun h27 => False.elim (by (try simp (disch := omega) only [x_ti, x_tm1] at h27); omega))
    refine v_iconst (v := nI 0) d_X12_few_43 x_ic_0 ?_
    refine v_istore_n (ls' := [_, _, _, _, _]) d_X12_few_44 (by decide) rfl ?_
    exact hc
  | succ d ih =>
    intro k hd
    refine v_iload_n d_X12_few_24 rfl ?_
    refine v_bipush (v := nI 10) d_X12_few_25 x_bp_10 ?_
    refine w_icmp_ge d_X12_few_27 (fun h27 => False.elim (by (try simp (disch := omega) only [x_ti, x_tm1] at h27); omega)) (fun h27 => ?_)
    refine v_aload_n d_X12_few_30 rfl ?_
    refine v_gr d_X12_few_31 lf_X12_82_12 rfl (hS _ _ rfl) (hP _ _ _ rfl) ?_
    refine v_iload_n d_X12_few_34 rfl ?_
    refine v_iconst (v := nI 0) d_X12_few_35 x_ic_0 ?_
    refine v_iast _ d_X12_few_36 (rfl) (hS _ _ rfl) (⟨by omega, by omega⟩) ?_
    first | refine v_iinc (ls' := [_, _, _, _, _]) d_X12_few_37 rfl (x_inc_1 _) (by decide) rfl ?_ | refine v_iinc (ls' := [_, _, _, _, _]) d_X12_few_37 rfl rfl (by decide) rfl ?_
    refine v_goto d_X12_few_40 ?_
    rw [show nI 0 = 0 from rfl, x_fi_s0]
    exact ih (k + 1) (by omega)

set_option maxRecDepth 100000 in
set_option maxHeartbeats 4000000 in
theorem t_X12_few {K : x_K} {S : x_S} {P : x_P} {I : x_I} {J : x_J} {n : Nat} {k what : Int32} (hpc : g_pc I) (hS : x_hS S) (hP : x_hP P) (hK : ∀ (I' : x_I) (J' : x_J), x_ex mF I I' J J' → K (some (.int (q_few I k what))) S P I' J' n) : x_Call f_X12_few [.ref 39, .int k, .int what] K S P I J n := by
  refine x_intro (by decide) 2 (ls := [_, _, _, _, _]) rfl (Nat.le_of_ble_eq_true rfl) ?_
  refine v_iload_n d_X12_few_0 rfl ?_
  refine v_iconst (v := nI 1) d_X12_few_1 x_ic_1 ?_
  refine v_bipush (v := nI 9) d_X12_few_2 x_bp_9 ?_
  refine v_cs (as := [_, _, _]) (rest := []) d_X12_few_4 ls_X12_90 rfl ⟨by decide, by decide⟩ rfl (Nat.le_of_ble_eq_true rfl) (by decide) (by decide) ?_
  refine t_X12_within (x_ti (k := 1) (by decide)) (x_ti (k := 9) (by decide)) (fun q1 => ?_) (fun q1 => ?_)
  · refine w_if_eq d_X12_few_7 (fun h7 => absurd h7 (by decide)) (fun _ => ?_)
    refine v_iload_n d_X12_few_10 rfl ?_
    refine v_iconst (v := nI 0) d_X12_few_11 x_ic_0 ?_
    refine v_iconst (v := nI 1) d_X12_few_12 x_ic_1 ?_
    refine v_cs (as := [_, _, _]) (rest := []) d_X12_few_13 ls_X12_90 rfl ⟨by decide, by decide⟩ rfl (Nat.le_of_ble_eq_true rfl) (by decide) (by decide) ?_
    refine t_X12_within (x_ti (k := 0) (by decide)) (x_ti (k := 1) (by decide)) (fun q2 => ?_) (fun q2 => ?_)
    · refine w_if_ne d_X12_few_16 (fun _ => ?_) (fun h16 => absurd h16 (by decide))
      obtain ⟨q, rfl, hk_q, t_q, y_q⟩ := x_ex1 (s := k) (by omega)
      refine v_iconst (v := nI 0) d_X12_few_22 x_ic_0 ?_
      refine v_istore_n (ls' := [_, _, _, _, _]) d_X12_few_23 (by decide) rfl ?_
      have e0 : ¬ (¬ ((1 ≤ (nI q).toInt ∧ (nI q).toInt ≤ 9) ∧ 0 ≤ what.toInt ∧ what.toInt ≤ 1)) := by omega
      simp only [q_few, x_if_f e0, y_q] at hK
      have hl := l_X12_few_a (I := I) (J := J) (K := K) (n := n) (what := what) q hS hP ?_ 10 0 (by omega)
      · rw [x_fi_0] at hl
        exact hl
      refine l_X12_few_b I J q hpc hS hP ?_ 256 0 (by omega) _ J (x_ex.rf.fi (fun j => rfl)) (fun c h => by rw [x_fi_in _ _ (by omega) (by omega)]; rfl)
      intro I2 J2 hx hv hr
      exact l_X12_few_c I J q (by omega) hS hP hK 511 0 rfl I2 J2 hx hv hr
    · refine w_if_ne d_X12_few_16 (fun h16 => absurd h16 (by decide)) (fun _ => ?_)
      refine v_bipush (v := (-2)) d_X12_few_19 x_bp_m2 ?_
      refine v_ret (v := some (.int _)) d_X12_few_21 rfl ⟨rfl, _, rfl, rfl⟩ (by decide) (by decide) ?_
      have e0 : ¬ ((1 ≤ k.toInt ∧ k.toInt ≤ 9) ∧ 0 ≤ what.toInt ∧ what.toInt ≤ 1) := by omega
      simp only [q_few, x_if_t e0] at hK
      exact hK I J x_ex.rf
  · refine w_if_eq d_X12_few_7 (fun _ => ?_) (fun h7 => absurd h7 (by decide))
    refine v_bipush (v := (-2)) d_X12_few_19 x_bp_m2 ?_
    refine v_ret (v := some (.int _)) d_X12_few_21 rfl ⟨rfl, _, rfl, rfl⟩ (by decide) (by decide) ?_
    have e0 : ¬ ((1 ≤ k.toInt ∧ k.toInt ≤ 9) ∧ 0 ≤ what.toInt ∧ what.toInt ≤ 1) := by omega
    simp only [q_few, x_if_t e0] at hK
    exact hK I J x_ex.rf

