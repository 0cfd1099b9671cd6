theorem w_nm_eq (Z : x_I) (e : Nat) (x y z : Int) (k : Nat) : w_nm Z e x y z k = decide (¬ (Z 44 (64 * e + k)).toInt = 0 ∧ ¬ (w_col Z (r_seen Z x y z k).1).toInt = (Z 44 (64 * e + k)).toInt) := by
  unfold w_nm w_is w_met w_col
  cases (r_seen Z x y z k).1 with
  | none =>
    have t0 : (nI 0).toInt = 0 := by decide
    simp only [t0, Bool.not_false, Bool.and_true]
    congr 1
    apply propext
    constructor
    · intro h; exact ⟨h, fun q => h q.symm⟩
    · intro h; exact h.1
  | some v =>
    obtain ⟨s, c⟩ := v
    rw [← decide_not, ← Bool.decide_and]

set_option maxRecDepth 100000 in
set_option maxHeartbeats 4000000 in
theorem l_X2_unmet {K : x_K} {x y z : Int32} {S : x_S} {J : x_J} {n : Nat} {fa : Nat → Nat} {bd : Nat} {Z : x_I} (P0 : x_P) (I0 : x_I) (hR0 : c_R fa bd Z S P0 I0 J n) (mi : m_I Z) (hnb : m_nb Z = Z) (N : Nat) (hN : (N : Int) = m_ce Z 10) (e : Nat) (he : e < 4) (hpl : g_pl x y z) (hK : ∀ (P : x_P) (I : x_I), p_ex P0 P → x_ex cE I0 I J J →  K (some (.int (nI (x_ct (w_nm Z e x.toInt y.toInt z.toInt) N)))) S P I J n) :
    ∀ d k : Nat, k + d = N → ∀ (P : x_P) (I : x_I), p_ex P0 P → x_ex cE I0 I J J →  x_V f_X2_countUnmet K 6 [some (.ref 8), some (.int (nI e)), some (.int x), some (.int y), some (.int z), some (.int (nI (x_ct (w_nm Z e x.toInt y.toInt z.toInt) k))), some (.int (nI k)), none] [] S P I J n 0 0 := by
  have hn := mi.hn
  have hfo := mi.fo
  have hbo := mi.bo
  rw [hnb] at hbo
  have hbm := m_ce_in hbo
  intro d
  induction d with
  | zero =>
    intro k hd P I hpe hex
    have hR := hR0.cgE hex hpe
    have hS := hR.hS
    have hP := hR.hP
    have hceN := hR.fb.ce
    rw [hnb] at hceN
    have hceN := hceN.trans (x_of' (k := N) (by unfold m_ce at hN; omega))
    refine v_iload d_X2_countUnmet_6 rfl ?_
    refine v_aload_n d_X2_countUnmet_8 rfl ?_
    refine v_gr d_X2_countUnmet_9 lf_X2_38_2 rfl (hS _ _ rfl) (hR.pb) ?_
    refine v_gie d_X2_countUnmet_12 lf_X2_63_1 rfl (hR.sb) (hceN) ?_
    refine w_icmp_ge d_X2_countUnmet_15 (fun h15 => ?_) (fun h15 => False.elim (by (try simp (disch := omega) only [x_ti, x_tm1] at h15); omega))
    refine v_iload d_X2_countUnmet_65 rfl ?_
    refine v_ret (v := some (.int _)) d_X2_countUnmet_67 rfl ⟨rfl, _, rfl, rfl⟩ (by decide) (by decide) ?_
    have e1 : k = N := by omega
    subst e1
    exact hK P I hpe hex
  | succ d ih =>
    intro k hd P I hpe hex
    have hR := hR0.cgE hex hpe
    have hS := hR.hS
    have hP := hR.hP
    have hceN := hR.fb.ce
    rw [hnb] at hceN
    have hceN := hceN.trans (x_of' (k := N) (by unfold m_ce at hN; omega))
    refine v_iload d_X2_countUnmet_6 rfl ?_
    refine v_aload_n d_X2_countUnmet_8 rfl ?_
    refine v_gr d_X2_countUnmet_9 lf_X2_38_2 rfl (hS _ _ rfl) (hR.pb) ?_
    refine v_gie d_X2_countUnmet_12 lf_X2_63_1 rfl (hR.sb) (hceN) ?_
    refine w_icmp_ge d_X2_countUnmet_15 (fun h15 => False.elim (by (try simp (disch := omega) only [x_ti, x_tm1] at h15); omega)) (fun h15 => ?_)
    refine v_aload_n d_X2_countUnmet_18 rfl ?_
    refine v_gr d_X2_countUnmet_19 lf_X2_17_2 rfl (hS _ _ rfl) (hP _ _ _ rfl) ?_
    refine v_iload_n d_X2_countUnmet_22 rfl ?_
    refine v_aald _ d_X2_countUnmet_23 (rfl) (hS _ _ rfl) (by decide) (⟨by omega, by omega⟩) (c_pp hP he) ?_
    refine v_iload d_X2_countUnmet_24 rfl ?_
    refine v_iald _ d_X2_countUnmet_26 (rfl) (c_sp hS he) (⟨by omega, by omega⟩) ((hR.Pi e k he (by omega))) ?_
    refine v_istore (ls' := [_, _, _, _, _, _, _, _]) d_X2_countUnmet_27 (by decide) rfl ?_
    refine v_iload d_X2_countUnmet_29 rfl ?_
    refine w_if_eq d_X2_countUnmet_31 (fun a31 => ?_) (fun a31 => ?_)
    · first | refine v_iinc (ls' := [_, _, _, _, _, _, _, _]) d_X2_countUnmet_59 rfl (x_inc_1 _) (by decide) rfl ?_ | refine v_iinc (ls' := [_, _, _, _, _, _, _, _]) d_X2_countUnmet_59 rfl rfl (by decide) rfl ?_
      refine v_goto d_X2_countUnmet_62 ?_
      refine x_V.fg1 7 (ls' := [_, _, _, _, _, _, _, _]) rfl ?_
      first
        | (rw [← Nat.zero_add (x_ct (w_nm Z e x.toInt y.toInt z.toInt) k), x_ct_a (p := (w_nm Z e x.toInt y.toInt z.toInt)) (k := k) (by rw [w_nm_eq]; exact decide_eq_true ⟨a31, a53⟩), Nat.zero_add]
           exact ih (k + 1) (by omega) P' I' (hpe.tr h1) (hex.tr h2))
        | (rw [← Nat.zero_add (x_ct (w_nm Z e x.toInt y.toInt z.toInt) k), x_ct_b (p := (w_nm Z e x.toInt y.toInt z.toInt)) (k := k) (by rw [w_nm_eq]; exact decide_eq_false (fun w => w.1 a31)), Nat.zero_add]
           exact ih (k + 1) (by omega) P I hpe hex)
        | (rw [← Nat.zero_add (x_ct (w_nm Z e x.toInt y.toInt z.toInt) k), x_ct_b (p := (w_nm Z e x.toInt y.toInt z.toInt)) (k := k) (by rw [w_nm_eq]; exact decide_eq_false (fun w => w.2 a53)), Nat.zero_add]
           exact ih (k + 1) (by omega) P' I' (hpe.tr h1) (hex.tr h2))
    · refine v_aload_n d_X2_countUnmet_34 rfl ?_
      refine v_gr d_X2_countUnmet_35 lf_X2_42_2 rfl (hS _ _ rfl) (hP _ _ _ rfl) ?_
      refine v_aload_n d_X2_countUnmet_38 rfl ?_
      refine v_iload_n d_X2_countUnmet_39 rfl ?_
      refine v_iload_n d_X2_countUnmet_40 rfl ?_
      refine v_iload d_X2_countUnmet_41 rfl ?_
      refine v_iload d_X2_countUnmet_43 rfl ?_
      refine v_cv (as := [_, _, _, _]) (rest := [_]) d_X2_countUnmet_45 lv_X2_76_2 (hS _ _ rfl) rfl ⟨by decide, by decide⟩ rfl (Nat.le_of_ble_eq_true rfl) (by decide) (by decide) ?_
      refine t_X2_lookFrom hR mi hnb k rfl hpl (by omega) (fun P' I' h1 h2 => ?_)
      refine v_cv (as := [_]) (rest := []) d_X2_countUnmet_48 lv_X2_106_8 (hS _ _ rfl) rfl ⟨by decide, by decide⟩ rfl (Nat.le_of_ble_eq_true rfl) (by decide) (by decide) ?_
      refine t_X8_colourOf (hR.cgE h2 h1) mi (r_seen Z x.toInt y.toInt z.toInt k).1 rfl (o_in_seen mi hnb hpl (by omega)) ?_
      refine v_iload d_X2_countUnmet_51 rfl ?_
      refine w_icmp_eq d_X2_countUnmet_53 (fun a53 => ?_) (fun a53 => ?_)
      · first | refine v_iinc (ls' := [_, _, _, _, _, _, _, _]) d_X2_countUnmet_59 rfl (x_inc_1 _) (by decide) rfl ?_ | refine v_iinc (ls' := [_, _, _, _, _, _, _, _]) d_X2_countUnmet_59 rfl rfl (by decide) rfl ?_
        refine v_goto d_X2_countUnmet_62 ?_
        refine x_V.fg1 7 (ls' := [_, _, _, _, _, _, _, _]) rfl ?_
        first
          | (rw [← Nat.zero_add (x_ct (w_nm Z e x.toInt y.toInt z.toInt) k), x_ct_a (p := (w_nm Z e x.toInt y.toInt z.toInt)) (k := k) (by rw [w_nm_eq]; exact decide_eq_true ⟨a31, a53⟩), Nat.zero_add]
             exact ih (k + 1) (by omega) P' I' (hpe.tr h1) (hex.tr h2))
          | (rw [← Nat.zero_add (x_ct (w_nm Z e x.toInt y.toInt z.toInt) k), x_ct_b (p := (w_nm Z e x.toInt y.toInt z.toInt)) (k := k) (by rw [w_nm_eq]; exact decide_eq_false (fun w => w.1 a31)), Nat.zero_add]
             exact ih (k + 1) (by omega) P I hpe hex)
          | (rw [← Nat.zero_add (x_ct (w_nm Z e x.toInt y.toInt z.toInt) k), x_ct_b (p := (w_nm Z e x.toInt y.toInt z.toInt)) (k := k) (by rw [w_nm_eq]; exact decide_eq_false (fun w => w.2 a53)), Nat.zero_add]
             exact ih (k + 1) (by omega) P' I' (hpe.tr h1) (hex.tr h2))
      · first | refine v_iinc (ls' := [_, _, _, _, _, _, _, _]) d_X2_countUnmet_56 rfl (x_inc_1 _) (by decide) rfl ?_ | refine v_iinc (ls' := [_, _, _, _, _, _, _, _]) d_X2_countUnmet_56 rfl rfl (by decide) rfl ?_
        first | refine v_iinc (ls' := [_, _, _, _, _, _, _, _]) d_X2_countUnmet_59 rfl (x_inc_1 _) (by decide) rfl ?_ | refine v_iinc (ls' := [_, _, _, _, _, _, _, _]) d_X2_countUnmet_59 rfl rfl (by decide) rfl ?_
        refine v_goto d_X2_countUnmet_62 ?_
        refine x_V.fg1 7 (ls' := [_, _, _, _, _, _, _, _]) rfl ?_
        first
          | (rw [← Nat.zero_add (x_ct (w_nm Z e x.toInt y.toInt z.toInt) k), x_ct_a (p := (w_nm Z e x.toInt y.toInt z.toInt)) (k := k) (by rw [w_nm_eq]; exact decide_eq_true ⟨a31, a53⟩), Nat.zero_add]
             exact ih (k + 1) (by omega) P' I' (hpe.tr h1) (hex.tr h2))
          | (rw [← Nat.zero_add (x_ct (w_nm Z e x.toInt y.toInt z.toInt) k), x_ct_b (p := (w_nm Z e x.toInt y.toInt z.toInt)) (k := k) (by rw [w_nm_eq]; exact decide_eq_false (fun w => w.1 a31)), Nat.zero_add]
             exact ih (k + 1) (by omega) P I hpe hex)
          | (rw [← Nat.zero_add (x_ct (w_nm Z e x.toInt y.toInt z.toInt) k), x_ct_b (p := (w_nm Z e x.toInt y.toInt z.toInt)) (k := k) (by rw [w_nm_eq]; exact decide_eq_false (fun w => w.2 a53)), Nat.zero_add]
             exact ih (k + 1) (by omega) P' I' (hpe.tr h1) (hex.tr h2))

set_option maxRecDepth 100000 in
set_option maxHeartbeats 4000000 in
theorem t_X2_countUnmet {K : x_K} {S : x_S} {P : x_P} {I : x_I} {J : x_J} {n : Nat} {w x y z : Int32} {fa : Nat → Nat} {bd : Nat} {Z : x_I} (hR : c_R fa bd Z S P I J n) (mi : m_I Z) (hnb : m_nb Z = Z) (N : Nat) (hN : (N : Int) = m_ce Z 10) (e : Nat) (he : e < 4) (hpl : g_pl x y z) (hw : w = nI e) (hK : ∀ (P' : x_P) (I' : x_I), p_ex P P' → x_ex cE I I' J J → K (some (.int (nI (x_ct (w_nm Z e x.toInt y.toInt z.toInt) N)))) S P' I' J n) : x_Call f_X2_countUnmet [.ref 8, .int w, .int x, .int y, .int z] K S P I J n := by
  subst hw
  refine x_intro (by decide) 3 (ls := [_, _, _, _, _, _, _, _]) rfl (Nat.le_of_ble_eq_true rfl) ?_
  refine v_iconst (v := nI 0) d_X2_countUnmet_0 x_ic_0 ?_
  refine v_istore (ls' := [_, _, _, _, _, _, _, _]) d_X2_countUnmet_1 (by decide) rfl ?_
  refine v_iconst (v := nI 0) d_X2_countUnmet_3 x_ic_0 ?_
  refine v_istore (ls' := [_, _, _, _, _, _, _, _]) d_X2_countUnmet_4 (by decide) rfl ?_
  exact l_X2_unmet P I hR mi hnb N hN e he hpl hK N 0 (by omega) P I p_ex.rf x_ex.rf

def c_sw (o : Option (Nat × Int × Int × Int)) (I : x_I) : Prop := match o with
  | none => I 8 9 = -1
  | some v => I 8 9 = nI v.1 ∧ (I 8 10).toInt = v.2.1 ∧ (I 8 11).toInt = v.2.2.1 ∧ (I 8 12).toInt = v.2.2.2 ∧ v.1 ≤ 64

theorem x_swy {p d : Int32} {q : Nat} (hp : 0 ≤ p.toInt ∧ p.toInt ≤ 40) (hd : 1 ≤ d.toInt ∧ d.toInt ≤ 9) (hq : q < 3) : (p + (nI q - nI 1) * d).toInt = p.toInt + d.toInt * ((q : Nat) - 1 : Int) := by
  have e1 : (nI 1).toInt = 1 := by decide
  have e0 : (nI q).toInt = (q : Int) := x_ti (by omega)
  have a1 : (nI q - nI 1).toInt = (q : Int) - 1 := by rw [x_sub (by omega) (by omega), e0, e1]
  have b := x_pb (a := (q : Int) - 1) (b := d.toInt) (A := 1) (B := 9) (by omega) (by omega) (by omega) (by omega)
  have a2 : ((nI q - nI 1) * d).toInt = ((q : Int) - 1) * d.toInt := by rw [x_mul (by rw [a1]; omega) (by rw [a1]; omega), a1]
  rw [x_add (by rw [a2]; omega) (by rw [a2]; omega), a2, Int.mul_comm]

set_option maxRecDepth 100000 in
set_option maxHeartbeats 4000000 in
theorem l_X2_worst {K : x_K} {d : Int32} {S : x_S} {J : x_J} {n : Nat} {fa : Nat → Nat} {bd : Nat} {Z : x_I} (P0 : x_P) (I0 : x_I) (hR0 : c_R fa bd Z S P0 I0 J n) (mi : m_I Z) (hnb : m_nb Z = Z) (N : Nat) (hN : (N : Int) = m_ce Z 10) (e : Nat) (he : e < 4) (hd9 : 1 ≤ d.toInt ∧ d.toInt ≤ 9) (hK : ∀ (P : x_P) (I : x_I), p_ex P0 P → x_ex cF I0 I J J → c_sw (s_w Z e d.toInt 27) I → K none S P I J n) :
    ∀ m k : Nat, k + m = 27 → ∀ (P : x_P) (I : x_I), p_ex P0 P → x_ex cF I0 I J J → c_sw (s_w Z e d.toInt k) I → x_V f_X2_findWorst K 7 [some (.ref 8), some (.int (nI e)), some (.int d), some (.int (nI k)), none, none, none, none] [] S P I J n 0 0 := by
  have hn := mi.hn
  have hfo := mi.fo
  have hbo := mi.bo
  rw [hnb] at hbo
  have hbm := m_ce_in hbo
  intro m
  induction m with
  | zero =>
    intro k hd P I hpe hex hsr
    have hR := hR0.cgF hex hpe
    have hS := hR.hS
    have hP := hR.hP
    have hceN := hR.fb.ce
    rw [hnb] at hceN
    have hceN := hceN.trans (x_of' (k := N) (by unfold m_ce at hN; omega))
    refine v_iload_n d_X2_findWorst_7 rfl ?_
    refine v_bipush (v := nI 27) d_X2_findWorst_8 x_bp_27 ?_
    refine w_icmp_ge d_X2_findWorst_10 (fun h10 => ?_) (fun h10 => False.elim (by (try simp (disch := omega) only [x_ti, x_tm1] at h10); omega))
    refine v_ret (v := none) d_X2_findWorst_142 rfl ⟨rfl, rfl⟩ (by decide) (by decide) ?_
    have e1 : k = 27 := by omega
    subst e1
    exact hK P I hpe hex hsr
  | succ m ih =>
    intro k hd P I hpe hex hsr
    have hR := hR0.cgF hex hpe
    have hS := hR.hS
    have hP := hR.hP
    have hceN := hR.fb.ce
    rw [hnb] at hceN
    have hceN := hceN.trans (x_of' (k := N) (by unfold m_ce at hN; omega))
    cases ho : s_w Z e d.toInt k with
    | none =>
      rw [ho] at hsr
      have e89 : (I 8 9).toInt = -1 := by rw [show I 8 9 = -1 from hsr]; decide
      refine v_iload_n d_X2_findWorst_7 rfl ?_
      refine v_bipush (v := nI 27) d_X2_findWorst_8 x_bp_27 ?_
      refine w_icmp_ge d_X2_findWorst_10 (fun h10 => False.elim (by (try simp (disch := omega) only [x_ti, x_tm1] at h10); omega)) (fun h10 => ?_)
      refine v_aload_n d_X2_findWorst_13 rfl ?_
      refine v_gr d_X2_findWorst_14 lf_X2_9_2 rfl (hS _ _ rfl) (hP _ _ _ rfl) ?_
      refine v_iconst (v := nI 3) d_X2_findWorst_17 x_ic_3 ?_
      refine v_iload_n d_X2_findWorst_18 rfl ?_
      first | refine v_imulN d_X2_findWorst_19 ?_ | refine v_imul d_X2_findWorst_19 ?_
      refine v_iald _ d_X2_findWorst_20 (rfl) (hS _ _ rfl) (⟨by omega, by omega⟩) (hR.Ey (3 * e) (by omega)) ?_
      refine v_iload_n d_X2_findWorst_21 rfl ?_
      refine v_bipush (v := nI 9) d_X2_findWorst_22 x_bp_9 ?_
      refine v_idiv d_X2_findWorst_24 (by decide) ?_
      rw [x_divN (by omega) (by decide) (by decide)]
      refine v_iconst (v := nI 1) d_X2_findWorst_25 x_ic_1 ?_
      refine v_isub d_X2_findWorst_26 ?_
      refine v_iload_n d_X2_findWorst_27 rfl ?_
      refine v_imul d_X2_findWorst_28 ?_
      refine v_iadd d_X2_findWorst_29 ?_
      refine v_istore (ls' := [_, _, _, _, _, _, _, _]) d_X2_findWorst_30 (by decide) rfl ?_
      refine v_aload_n d_X2_findWorst_32 rfl ?_
      refine v_gr d_X2_findWorst_33 lf_X2_9_2 rfl (hS _ _ rfl) (hP _ _ _ rfl) ?_
      refine v_iconst (v := nI 3) d_X2_findWorst_36 x_ic_3 ?_
      refine v_iload_n d_X2_findWorst_37 rfl ?_
      first | refine v_imulN d_X2_findWorst_38 ?_ | refine v_imul d_X2_findWorst_38 ?_
      refine v_iconst (v := nI 1) d_X2_findWorst_39 x_ic_1 ?_
      first | refine v_iaddN d_X2_findWorst_40 ?_ | refine v_iadd d_X2_findWorst_40 ?_
      refine v_iald _ d_X2_findWorst_41 (rfl) (hS _ _ rfl) (⟨by omega, by omega⟩) (hR.Ey (3 * e + 1) (by omega)) ?_
      refine v_iload_n d_X2_findWorst_42 rfl ?_
      refine v_iconst (v := nI 3) d_X2_findWorst_43 x_ic_3 ?_
      refine v_idiv d_X2_findWorst_44 (by decide) ?_
      rw [x_divN (by omega) (by decide) (by decide)]
      refine v_iconst (v := nI 3) d_X2_findWorst_45 x_ic_3 ?_
      refine v_irem d_X2_findWorst_46 (by decide) ?_
      rw [x_remN (by omega) (by decide) (by decide)]
      refine v_iconst (v := nI 1) d_X2_findWorst_47 x_ic_1 ?_
      refine v_isub d_X2_findWorst_48 ?_
      refine v_iload_n d_X2_findWorst_49 rfl ?_
      refine v_imul d_X2_findWorst_50 ?_
      refine v_iadd d_X2_findWorst_51 ?_
      refine v_istore (ls' := [_, _, _, _, _, _, _, _]) d_X2_findWorst_52 (by decide) rfl ?_
      refine v_aload_n d_X2_findWorst_54 rfl ?_
      refine v_gr d_X2_findWorst_55 lf_X2_9_2 rfl (hS _ _ rfl) (hP _ _ _ rfl) ?_
      refine v_iconst (v := nI 3) d_X2_findWorst_58 x_ic_3 ?_
      refine v_iload_n d_X2_findWorst_59 rfl ?_
      first | refine v_imulN d_X2_findWorst_60 ?_ | refine v_imul d_X2_findWorst_60 ?_
      refine v_iconst (v := nI 2) d_X2_findWorst_61 x_ic_2 ?_
      first | refine v_iaddN d_X2_findWorst_62 ?_ | refine v_iadd d_X2_findWorst_62 ?_
      refine v_iald _ d_X2_findWorst_63 (rfl) (hS _ _ rfl) (⟨by omega, by omega⟩) (hR.Ey (3 * e + 2) (by omega)) ?_
      refine v_iload_n d_X2_findWorst_64 rfl ?_
      refine v_iconst (v := nI 3) d_X2_findWorst_65 x_ic_3 ?_
      refine v_irem d_X2_findWorst_66 (by decide) ?_
      rw [x_remN (by omega) (by decide) (by decide)]
      refine v_iconst (v := nI 1) d_X2_findWorst_67 x_ic_1 ?_
      refine v_isub d_X2_findWorst_68 ?_
      refine v_iload_n d_X2_findWorst_69 rfl ?_
      refine v_imul d_X2_findWorst_70 ?_
      refine v_iadd d_X2_findWorst_71 ?_
      refine v_istore (ls' := [_, _, _, _, _, _, _, _]) d_X2_findWorst_72 (by decide) rfl ?_
      have b0 := mi.es (3 * e) (by omega)
      have b1 := mi.es (3 * e + 1) (by omega)
      have b2 := mi.es (3 * e + 2) (by omega)
      have v0 := x_swy (p := Z 43 (3 * e)) (d := d) (q := k / 9) b0 hd9 (by omega)
      have v1 := x_swy (p := Z 43 (3 * e + 1)) (d := d) (q := k / 3 % 3) b1 hd9 (by omega)
      have v2 := x_swy (p := Z 43 (3 * e + 2)) (d := d) (q := k % 3) b2 hd9 (by omega)
      refine v_iload d_X2_findWorst_74 rfl ?_
      refine v_iload d_X2_findWorst_76 rfl ?_
      refine v_iload d_X2_findWorst_78 rfl ?_
      refine v_cs (as := [_, _, _]) (rest := []) d_X2_findWorst_80 ls_X2_160 rfl ⟨by decide, by decide⟩ rfl (Nat.le_of_ble_eq_true rfl) (by decide) (by decide) ?_
      refine t_X11_isPlace (fun q => ?_) (fun q => ?_)
      · refine w_if_eq d_X2_findWorst_83 (fun h83 => absurd h83 (by decide)) (fun _ => ?_)
        refine v_aload_n d_X2_findWorst_86 rfl ?_
        refine v_iload_n d_X2_findWorst_87 rfl ?_
        refine v_iload d_X2_findWorst_88 rfl ?_
        refine v_iload d_X2_findWorst_90 rfl ?_
        refine v_iload d_X2_findWorst_92 rfl ?_
        refine v_cv (as := [_, _, _, _]) (rest := []) d_X2_findWorst_94 lv_X2_163_2 (hS _ _ rfl) rfl ⟨by decide, by decide⟩ rfl (Nat.le_of_ble_eq_true rfl) (by decide) (by decide) ?_
        refine t_X2_countUnmet hR mi hnb N hN e he q rfl (fun P' I' h1 h2 => ?_)
        have hok : s_ok Z e d.toInt k := by unfold g_pl at q; rw [v0, v1, v2] at q; exact q
        have hS := hS
        have hP := h1.hP hP
        have hlen := x_ct_le (w_nm Z e (Z 43 (3 * e) + (nI (k / 9) - nI 1) * d).toInt (Z 43 (3 * e + 1) + (nI (k / 3 % 3) - nI 1) * d).toInt (Z 43 (3 * e + 2) + (nI (k % 3) - nI 1) * d).toInt) N
        have en : x_ct (w_nm Z e (Z 43 (3 * e) + (nI (k / 9) - nI 1) * d).toInt (Z 43 (3 * e + 1) + (nI (k / 3 % 3) - nI 1) * d).toInt (Z 43 (3 * e + 2) + (nI (k % 3) - nI 1) * d).toInt) N = s_n Z e d.toInt k := by unfold s_n; rw [v0, v1, v2]; congr 1; omega
        have e89b := h2.i 8 9 rfl
        refine v_goto d_X2_findWorst_97 ?_
        refine v_istore (ls' := [_, _, _, _, _, _, _, _]) d_X2_findWorst_101 (by decide) rfl ?_
        refine v_iload d_X2_findWorst_103 rfl ?_
        refine v_aload_n d_X2_findWorst_105 rfl ?_
        refine v_gi d_X2_findWorst_106 lf_X2_157_2 rfl (hS _ _ rfl) ?_
        refine w_icmp_le d_X2_findWorst_109 (fun a109 => ?_) (fun a109 => ?_)
        · first | refine v_iinc (ls' := [_, _, _, _, _, _, _, _]) d_X2_findWorst_136 rfl (x_inc_1 _) (by decide) rfl ?_ | refine v_iinc (ls' := [_, _, _, _, _, _, _, _]) d_X2_findWorst_136 rfl rfl (by decide) rfl ?_
          refine v_goto d_X2_findWorst_139 ?_
          refine x_V.fg1 4 (ls' := [_, _, _, _, _, _, _, _]) rfl ?_
          refine x_V.fg1 5 (ls' := [_, _, _, _, _, _, _, _]) rfl ?_
          refine x_V.fg1 6 (ls' := [_, _, _, _, _, _, _, _]) rfl ?_
          refine x_V.fg1 7 (ls' := [_, _, _, _, _, _, _, _]) rfl ?_
          first
            | (rw [e89b, e89, x_ti (by omega)] at a109
               refine ih (k + 1) (by omega) P' _ (hpe.tr h1) ((((((hex.tr h2.EF).ui (a := 8) (k := 9) rfl).ui (a := 8) (k := 10) rfl).ui (a := 8) (k := 11) rfl).ui (a := 8) (k := 12) rfl)) ?_
               rw [s_w, x_if_t hok, ho]
               show c_sw (some _) _
               exact ⟨by show nI _ = nI _; rw [en], v0, v1, v2, by rw [← en]; omega⟩)
            | (exfalso
               rw [e89b, e89, x_ti (by omega)] at a109
               omega)
            | (refine ih (k + 1) (by omega) P I hpe hex ?_
               rw [s_w, x_if_f (fun w => q (by unfold g_pl; rw [v0, v1, v2]; exact w)), ho]
               exact hsr)
            | (exfalso
               rw [e89, x_tm1] at a109
               omega)
        · refine v_aload_n d_X2_findWorst_112 rfl ?_
          refine v_iload d_X2_findWorst_113 rfl ?_
          refine v_pi d_X2_findWorst_115 (lp_X2_157_2 _) rfl (hS _ _ rfl) (rfl) rfl ?_
          refine v_aload_n d_X2_findWorst_118 rfl ?_
          refine v_iload d_X2_findWorst_119 rfl ?_
          refine v_pi d_X2_findWorst_121 (lp_X2_166_2 _) rfl (hS _ _ rfl) (rfl) rfl ?_
          refine v_aload_n d_X2_findWorst_124 rfl ?_
          refine v_iload d_X2_findWorst_125 rfl ?_
          refine v_pi d_X2_findWorst_127 (lp_X2_169_2 _) rfl (hS _ _ rfl) (rfl) rfl ?_
          refine v_aload_n d_X2_findWorst_130 rfl ?_
          refine v_iload d_X2_findWorst_131 rfl ?_
          refine v_pi d_X2_findWorst_133 (lp_X2_172_2 _) rfl (hS _ _ rfl) (rfl) rfl ?_
          first | refine v_iinc (ls' := [_, _, _, _, _, _, _, _]) d_X2_findWorst_136 rfl (x_inc_1 _) (by decide) rfl ?_ | refine v_iinc (ls' := [_, _, _, _, _, _, _, _]) d_X2_findWorst_136 rfl rfl (by decide) rfl ?_
          refine v_goto d_X2_findWorst_139 ?_
          refine x_V.fg1 4 (ls' := [_, _, _, _, _, _, _, _]) rfl ?_
          refine x_V.fg1 5 (ls' := [_, _, _, _, _, _, _, _]) rfl ?_
          refine x_V.fg1 6 (ls' := [_, _, _, _, _, _, _, _]) rfl ?_
          refine x_V.fg1 7 (ls' := [_, _, _, _, _, _, _, _]) rfl ?_
          first
            | (rw [e89b, e89, x_ti (by omega)] at a109
               refine ih (k + 1) (by omega) P' _ (hpe.tr h1) ((((((hex.tr h2.EF).ui (a := 8) (k := 9) rfl).ui (a := 8) (k := 10) rfl).ui (a := 8) (k := 11) rfl).ui (a := 8) (k := 12) rfl)) ?_
               rw [s_w, x_if_t hok, ho]
               show c_sw (some _) _
               exact ⟨by show nI _ = nI _; rw [en], v0, v1, v2, by rw [← en]; omega⟩)
            | (exfalso
               rw [e89b, e89, x_ti (by omega)] at a109
               omega)
            | (refine ih (k + 1) (by omega) P I hpe hex ?_
               rw [s_w, x_if_f (fun w => q (by unfold g_pl; rw [v0, v1, v2]; exact w)), ho]
               exact hsr)
            | (exfalso
               rw [e89, x_tm1] at a109
               omega)
      · refine w_if_eq d_X2_findWorst_83 (fun _ => ?_) (fun h83 => absurd h83 (by decide))
        refine v_iconst (v := (-1)) d_X2_findWorst_100 x_ic_m1 ?_
        refine v_istore (ls' := [_, _, _, _, _, _, _, _]) d_X2_findWorst_101 (by decide) rfl ?_
        refine v_iload d_X2_findWorst_103 rfl ?_
        refine v_aload_n d_X2_findWorst_105 rfl ?_
        refine v_gi d_X2_findWorst_106 lf_X2_157_2 rfl (hS _ _ rfl) ?_
        refine w_icmp_le d_X2_findWorst_109 (fun a109 => ?_) (fun a109 => ?_)
        · first | refine v_iinc (ls' := [_, _, _, _, _, _, _, _]) d_X2_findWorst_136 rfl (x_inc_1 _) (by decide) rfl ?_ | refine v_iinc (ls' := [_, _, _, _, _, _, _, _]) d_X2_findWorst_136 rfl rfl (by decide) rfl ?_
          refine v_goto d_X2_findWorst_139 ?_
          refine x_V.fg1 4 (ls' := [_, _, _, _, _, _, _, _]) rfl ?_
          refine x_V.fg1 5 (ls' := [_, _, _, _, _, _, _, _]) rfl ?_
          refine x_V.fg1 6 (ls' := [_, _, _, _, _, _, _, _]) rfl ?_
          refine x_V.fg1 7 (ls' := [_, _, _, _, _, _, _, _]) rfl ?_
          first
            | (rw [e89b, e89, x_ti (by omega)] at a109
               refine ih (k + 1) (by omega) P' _ (hpe.tr h1) ((((((hex.tr h2.EF).ui (a := 8) (k := 9) rfl).ui (a := 8) (k := 10) rfl).ui (a := 8) (k := 11) rfl).ui (a := 8) (k := 12) rfl)) ?_
               rw [s_w, x_if_t hok, ho]
               show c_sw (some _) _
               exact ⟨by show nI _ = nI _; rw [en], v0, v1, v2, by rw [← en]; omega⟩)
            | (exfalso
               rw [e89b, e89, x_ti (by omega)] at a109
               omega)
            | (refine ih (k + 1) (by omega) P I hpe hex ?_
               rw [s_w, x_if_f (fun w => q (by unfold g_pl; rw [v0, v1, v2]; exact w)), ho]
               exact hsr)
            | (exfalso
               rw [e89, x_tm1] at a109
               omega)
        · refine v_aload_n d_X2_findWorst_112 rfl ?_
          refine v_iload d_X2_findWorst_113 rfl ?_
          refine v_pi d_X2_findWorst_115 (lp_X2_157_2 _) rfl (hS _ _ rfl) (rfl) rfl ?_
          refine v_aload_n d_X2_findWorst_118 rfl ?_
          refine v_iload d_X2_findWorst_119 rfl ?_
          refine v_pi d_X2_findWorst_121 (lp_X2_166_2 _) rfl (hS _ _ rfl) (rfl) rfl ?_
          refine v_aload_n d_X2_findWorst_124 rfl ?_
          refine v_iload d_X2_findWorst_125 rfl ?_
          refine v_pi d_X2_findWorst_127 (lp_X2_169_2 _) rfl (hS _ _ rfl) (rfl) rfl ?_
          refine v_aload_n d_X2_findWorst_130 rfl ?_
          refine v_iload d_X2_findWorst_131 rfl ?_
          refine v_pi d_X2_findWorst_133 (lp_X2_172_2 _) rfl (hS _ _ rfl) (rfl) rfl ?_
          first | refine v_iinc (ls' := [_, _, _, _, _, _, _, _]) d_X2_findWorst_136 rfl (x_inc_1 _) (by decide) rfl ?_ | refine v_iinc (ls' := [_, _, _, _, _, _, _, _]) d_X2_findWorst_136 rfl rfl (by decide) rfl ?_
          refine v_goto d_X2_findWorst_139 ?_
          refine x_V.fg1 4 (ls' := [_, _, _, _, _, _, _, _]) rfl ?_
          refine x_V.fg1 5 (ls' := [_, _, _, _, _, _, _, _]) rfl ?_
          refine x_V.fg1 6 (ls' := [_, _, _, _, _, _, _, _]) rfl ?_
          refine x_V.fg1 7 (ls' := [_, _, _, _, _, _, _, _]) rfl ?_
          first
            | (rw [e89b, e89, x_ti (by omega)] at a109
               refine ih (k + 1) (by omega) P' _ (hpe.tr h1) ((((((hex.tr h2.EF).ui (a := 8) (k := 9) rfl).ui (a := 8) (k := 10) rfl).ui (a := 8) (k := 11) rfl).ui (a := 8) (k := 12) rfl)) ?_
               rw [s_w, x_if_t hok, ho]
               show c_sw (some _) _
               exact ⟨by show nI _ = nI _; rw [en], v0, v1, v2, by rw [← en]; omega⟩)
            | (exfalso
               rw [e89b, e89, x_ti (by omega)] at a109
               omega)
            | (refine ih (k + 1) (by omega) P I hpe hex ?_
               rw [s_w, x_if_f (fun w => q (by unfold g_pl; rw [v0, v1, v2]; exact w)), ho]
               exact hsr)
            | (exfalso
               rw [e89, x_tm1] at a109
               omega)
    | some w =>
      rw [ho] at hsr
      have hw64 := hsr.2.2.2.2
      have e89 : (I 8 9).toInt = (w.1 : Int) := by rw [hsr.1, x_ti (by omega)]
      refine v_iload_n d_X2_findWorst_7 rfl ?_
      refine v_bipush (v := nI 27) d_X2_findWorst_8 x_bp_27 ?_
      refine w_icmp_ge d_X2_findWorst_10 (fun h10 => False.elim (by (try simp (disch := omega) only [x_ti, x_tm1] at h10); omega)) (fun h10 => ?_)
      refine v_aload_n d_X2_findWorst_13 rfl ?_
      refine v_gr d_X2_findWorst_14 lf_X2_9_2 rfl (hS _ _ rfl) (hP _ _ _ rfl) ?_
      refine v_iconst (v := nI 3) d_X2_findWorst_17 x_ic_3 ?_
      refine v_iload_n d_X2_findWorst_18 rfl ?_
      first | refine v_imulN d_X2_findWorst_19 ?_ | refine v_imul d_X2_findWorst_19 ?_
      refine v_iald _ d_X2_findWorst_20 (rfl) (hS _ _ rfl) (⟨by omega, by omega⟩) (hR.Ey (3 * e) (by omega)) ?_
      refine v_iload_n d_X2_findWorst_21 rfl ?_
      refine v_bipush (v := nI 9) d_X2_findWorst_22 x_bp_9 ?_
      refine v_idiv d_X2_findWorst_24 (by decide) ?_
      rw [x_divN (by omega) (by decide) (by decide)]
      refine v_iconst (v := nI 1) d_X2_findWorst_25 x_ic_1 ?_
      refine v_isub d_X2_findWorst_26 ?_
      refine v_iload_n d_X2_findWorst_27 rfl ?_
      refine v_imul d_X2_findWorst_28 ?_
      refine v_iadd d_X2_findWorst_29 ?_
      refine v_istore (ls' := [_, _, _, _, _, _, _, _]) d_X2_findWorst_30 (by decide) rfl ?_
      refine v_aload_n d_X2_findWorst_32 rfl ?_
      refine v_gr d_X2_findWorst_33 lf_X2_9_2 rfl (hS _ _ rfl) (hP _ _ _ rfl) ?_
      refine v_iconst (v := nI 3) d_X2_findWorst_36 x_ic_3 ?_
      refine v_iload_n d_X2_findWorst_37 rfl ?_
      first | refine v_imulN d_X2_findWorst_38 ?_ | refine v_imul d_X2_findWorst_38 ?_
      refine v_iconst (v := nI 1) d_X2_findWorst_39 x_ic_1 ?_
      first | refine v_iaddN d_X2_findWorst_40 ?_ | refine v_iadd d_X2_findWorst_40 ?_
      refine v_iald _ d_X2_findWorst_41 (rfl) (hS _ _ rfl) (⟨by omega, by omega⟩) (hR.Ey (3 * e + 1) (by omega)) ?_
      refine v_iload_n d_X2_findWorst_42 rfl ?_
      refine v_iconst (v := nI 3) d_X2_findWorst_43 x_ic_3 ?_
      refine v_idiv d_X2_findWorst_44 (by decide) ?_
      rw [x_divN (by omega) (by decide) (by decide)]
      refine v_iconst (v := nI 3) d_X2_findWorst_45 x_ic_3 ?_
      refine v_irem d_X2_findWorst_46 (by decide) ?_
      rw [x_remN (by omega) (by decide) (by decide)]
      refine v_iconst (v := nI 1) d_X2_findWorst_47 x_ic_1 ?_
      refine v_isub d_X2_findWorst_48 ?_
      refine v_iload_n d_X2_findWorst_49 rfl ?_
      refine v_imul d_X2_findWorst_50 ?_
      refine v_iadd d_X2_findWorst_51 ?_
      refine v_istore (ls' := [_, _, _, _, _, _, _, _]) d_X2_findWorst_52 (by decide) rfl ?_
      refine v_aload_n d_X2_findWorst_54 rfl ?_
      refine v_gr d_X2_findWorst_55 lf_X2_9_2 rfl (hS _ _ rfl) (hP _ _ _ rfl) ?_
      refine v_iconst (v := nI 3) d_X2_findWorst_58 x_ic_3 ?_
      refine v_iload_n d_X2_findWorst_59 rfl ?_
      first | refine v_imulN d_X2_findWorst_60 ?_ | refine v_imul d_X2_findWorst_60 ?_
      refine v_iconst (v := nI 2) d_X2_findWorst_61 x_ic_2 ?_
      first | refine v_iaddN d_X2_findWorst_62 ?_ | refine v_iadd d_X2_findWorst_62 ?_
      refine v_iald _ d_X2_findWorst_63 (rfl) (hS _ _ rfl) (⟨by omega, by omega⟩) (hR.Ey (3 * e + 2) (by omega)) ?_
      refine v_iload_n d_X2_findWorst_64 rfl ?_
      refine v_iconst (v := nI 3) d_X2_findWorst_65 x_ic_3 ?_
      refine v_irem d_X2_findWorst_66 (by decide) ?_
      rw [x_remN (by omega) (by decide) (by decide)]
      refine v_iconst (v := nI 1) d_X2_findWorst_67 x_ic_1 ?_
      refine v_isub d_X2_findWorst_68 ?_
      refine v_iload_n d_X2_findWorst_69 rfl ?_
      refine v_imul d_X2_findWorst_70 ?_
      refine v_iadd d_X2_findWorst_71 ?_
      refine v_istore (ls' := [_, _, _, _, _, _, _, _]) d_X2_findWorst_72 (by decide) rfl ?_
      have b0 := mi.es (3 * e) (by omega)
      have b1 := mi.es (3 * e + 1) (by omega)
      have b2 := mi.es (3 * e + 2) (by omega)
      have v0 := x_swy (p := Z 43 (3 * e)) (d := d) (q := k / 9) b0 hd9 (by omega)
      have v1 := x_swy (p := Z 43 (3 * e + 1)) (d := d) (q := k / 3 % 3) b1 hd9 (by omega)
      have v2 := x_swy (p := Z 43 (3 * e + 2)) (d := d) (q := k % 3) b2 hd9 (by omega)
      refine v_iload d_X2_findWorst_74 rfl ?_
      refine v_iload d_X2_findWorst_76 rfl ?_
      refine v_iload d_X2_findWorst_78 rfl ?_
      refine v_cs (as := [_, _, _]) (rest := []) d_X2_findWorst_80 ls_X2_160 rfl ⟨by decide, by decide⟩ rfl (Nat.le_of_ble_eq_true rfl) (by decide) (by decide) ?_
      refine t_X11_isPlace (fun q => ?_) (fun q => ?_)
      · refine w_if_eq d_X2_findWorst_83 (fun h83 => absurd h83 (by decide)) (fun _ => ?_)
        refine v_aload_n d_X2_findWorst_86 rfl ?_
        refine v_iload_n d_X2_findWorst_87 rfl ?_
        refine v_iload d_X2_findWorst_88 rfl ?_
        refine v_iload d_X2_findWorst_90 rfl ?_
        refine v_iload d_X2_findWorst_92 rfl ?_
        refine v_cv (as := [_, _, _, _]) (rest := []) d_X2_findWorst_94 lv_X2_163_2 (hS _ _ rfl) rfl ⟨by decide, by decide⟩ rfl (Nat.le_of_ble_eq_true rfl) (by decide) (by decide) ?_
        refine t_X2_countUnmet hR mi hnb N hN e he q rfl (fun P' I' h1 h2 => ?_)
        have hok : s_ok Z e d.toInt k := by unfold g_pl at q; rw [v0, v1, v2] at q; exact q
        have hS := hS
        have hP := h1.hP hP
        have hlen := x_ct_le (w_nm Z e (Z 43 (3 * e) + (nI (k / 9) - nI 1) * d).toInt (Z 43 (3 * e + 1) + (nI (k / 3 % 3) - nI 1) * d).toInt (Z 43 (3 * e + 2) + (nI (k % 3) - nI 1) * d).toInt) N
        have en : x_ct (w_nm Z e (Z 43 (3 * e) + (nI (k / 9) - nI 1) * d).toInt (Z 43 (3 * e + 1) + (nI (k / 3 % 3) - nI 1) * d).toInt (Z 43 (3 * e + 2) + (nI (k % 3) - nI 1) * d).toInt) N = s_n Z e d.toInt k := by unfold s_n; rw [v0, v1, v2]; congr 1; omega
        have e89b := h2.i 8 9 rfl
        refine v_goto d_X2_findWorst_97 ?_
        refine v_istore (ls' := [_, _, _, _, _, _, _, _]) d_X2_findWorst_101 (by decide) rfl ?_
        refine v_iload d_X2_findWorst_103 rfl ?_
        refine v_aload_n d_X2_findWorst_105 rfl ?_
        refine v_gi d_X2_findWorst_106 lf_X2_157_2 rfl (hS _ _ rfl) ?_
        refine w_icmp_le d_X2_findWorst_109 (fun a109 => ?_) (fun a109 => ?_)
        · first | refine v_iinc (ls' := [_, _, _, _, _, _, _, _]) d_X2_findWorst_136 rfl (x_inc_1 _) (by decide) rfl ?_ | refine v_iinc (ls' := [_, _, _, _, _, _, _, _]) d_X2_findWorst_136 rfl rfl (by decide) rfl ?_
          refine v_goto d_X2_findWorst_139 ?_
          refine x_V.fg1 4 (ls' := [_, _, _, _, _, _, _, _]) rfl ?_
          refine x_V.fg1 5 (ls' := [_, _, _, _, _, _, _, _]) rfl ?_
          refine x_V.fg1 6 (ls' := [_, _, _, _, _, _, _, _]) rfl ?_
          refine x_V.fg1 7 (ls' := [_, _, _, _, _, _, _, _]) rfl ?_
          first
            | (rw [e89b, e89, x_ti (by omega)] at a109
               refine ih (k + 1) (by omega) P' _ (hpe.tr h1) ((((((hex.tr h2.EF).ui (a := 8) (k := 9) rfl).ui (a := 8) (k := 10) rfl).ui (a := 8) (k := 11) rfl).ui (a := 8) (k := 12) rfl)) ?_
               rw [s_w, x_if_t hok, ho]
               show c_sw (if w.1 < s_n Z e d.toInt k then some _ else some _) _
               rw [if_pos (by rw [← en]; omega)]
               exact ⟨by show nI _ = nI _; rw [en], v0, v1, v2, by rw [← en]; omega⟩)
            | (rw [e89b, e89, x_ti (by omega)] at a109
               refine ih (k + 1) (by omega) P' I' (hpe.tr h1) (hex.tr h2.EF) ?_
               rw [s_w, x_if_t hok, ho]
               show c_sw (if w.1 < s_n Z e d.toInt k then some _ else some _) _
               rw [if_neg (by rw [← en]; omega)]
               exact ⟨by rw [h2.i 8 9 rfl]; exact hsr.1, by rw [h2.i 8 10 rfl]; exact hsr.2.1, by rw [h2.i 8 11 rfl]; exact hsr.2.2.1, by rw [h2.i 8 12 rfl]; exact hsr.2.2.2.1, hsr.2.2.2.2⟩)
            | (refine ih (k + 1) (by omega) P I hpe hex ?_
               rw [s_w, x_if_f (fun w => q (by unfold g_pl; rw [v0, v1, v2]; exact w)), ho]
               exact hsr)
            | (exfalso
               rw [e89, x_tm1] at a109
               omega)
        · refine v_aload_n d_X2_findWorst_112 rfl ?_
          refine v_iload d_X2_findWorst_113 rfl ?_
          refine v_pi d_X2_findWorst_115 (lp_X2_157_2 _) rfl (hS _ _ rfl) (rfl) rfl ?_
          refine v_aload_n d_X2_findWorst_118 rfl ?_
          refine v_iload d_X2_findWorst_119 rfl ?_
          refine v_pi d_X2_findWorst_121 (lp_X2_166_2 _) rfl (hS _ _ rfl) (rfl) rfl ?_
          refine v_aload_n d_X2_findWorst_124 rfl ?_
          refine v_iload d_X2_findWorst_125 rfl ?_
          refine v_pi d_X2_findWorst_127 (lp_X2_169_2 _) rfl (hS _ _ rfl) (rfl) rfl ?_
          refine v_aload_n d_X2_findWorst_130 rfl ?_
          refine v_iload d_X2_findWorst_131 rfl ?_
          refine v_pi d_X2_findWorst_133 (lp_X2_172_2 _) rfl (hS _ _ rfl) (rfl) rfl ?_
          first | refine v_iinc (ls' := [_, _, _, _, _, _, _, _]) d_X2_findWorst_136 rfl (x_inc_1 _) (by decide) rfl ?_ | refine v_iinc (ls' := [_, _, _, _, _, _, _, _]) d_X2_findWorst_136 rfl rfl (by decide) rfl ?_
          refine v_goto d_X2_findWorst_139 ?_
          refine x_V.fg1 4 (ls' := [_, _, _, _, _, _, _, _]) rfl ?_
          refine x_V.fg1 5 (ls' := [_, _, _, _, _, _, _, _]) rfl ?_
          refine x_V.fg1 6 (ls' := [_, _, _, _, _, _, _, _]) rfl ?_
          refine x_V.fg1 7 (ls' := [_, _, _, _, _, _, _, _]) rfl ?_
          first
            | (rw [e89b, e89, x_ti (by omega)] at a109
               refine ih (k + 1) (by omega) P' _ (hpe.tr h1) ((((((hex.tr h2.EF).ui (a := 8) (k := 9) rfl).ui (a := 8) (k := 10) rfl).ui (a := 8) (k := 11) rfl).ui (a := 8) (k := 12) rfl)) ?_
               rw [s_w, x_if_t hok, ho]
               show c_sw (if w.1 < s_n Z e d.toInt k then some _ else some _) _
               rw [if_pos (by rw [← en]; omega)]
               exact ⟨by show nI _ = nI _; rw [en], v0, v1, v2, by rw [← en]; omega⟩)
            | (rw [e89b, e89, x_ti (by omega)] at a109
               refine ih (k + 1) (by omega) P' I' (hpe.tr h1) (hex.tr h2.EF) ?_
               rw [s_w, x_if_t hok, ho]
               show c_sw (if w.1 < s_n Z e d.toInt k then some _ else some _) _
               rw [if_neg (by rw [← en]; omega)]
               exact ⟨by rw [h2.i 8 9 rfl]; exact hsr.1, by rw [h2.i 8 10 rfl]; exact hsr.2.1, by rw [h2.i 8 11 rfl]; exact hsr.2.2.1, by rw [h2.i 8 12 rfl]; exact hsr.2.2.2.1, hsr.2.2.2.2⟩)
            | (refine ih (k + 1) (by omega) P I hpe hex ?_
               rw [s_w, x_if_f (fun w => q (by unfold g_pl; rw [v0, v1, v2]; exact w)), ho]
               exact hsr)
            | (exfalso
               rw [e89, x_tm1] at a109
               omega)
      · refine w_if_eq d_X2_findWorst_83 (fun _ => ?_) (fun h83 => absurd h83 (by decide))
        refine v_iconst (v := (-1)) d_X2_findWorst_100 x_ic_m1 ?_
        refine v_istore (ls' := [_, _, _, _, _, _, _, _]) d_X2_findWorst_101 (by decide) rfl ?_
        refine v_iload d_X2_findWorst_103 rfl ?_
        refine v_aload_n d_X2_findWorst_105 rfl ?_
        refine v_gi d_X2_findWorst_106 lf_X2_157_2 rfl (hS _ _ rfl) ?_
        refine w_icmp_le d_X2_findWorst_109 (fun a109 => ?_) (fun a109 => ?_)
        · first | refine v_iinc (ls' := [_, _, _, _, _, _, _, _]) d_X2_findWorst_136 rfl (x_inc_1 _) (by decide) rfl ?_ | refine v_iinc (ls' := [_, _, _, _, _, _, _, _]) d_X2_findWorst_136 rfl rfl (by decide) rfl ?_
          refine v_goto d_X2_findWorst_139 ?_
          refine x_V.fg1 4 (ls' := [_, _, _, _, _, _, _, _]) rfl ?_
          refine x_V.fg1 5 (ls' := [_, _, _, _, _, _, _, _]) rfl ?_
          refine x_V.fg1 6 (ls' := [_, _, _, _, _, _, _, _]) rfl ?_
          refine x_V.fg1 7 (ls' := [_, _, _, _, _, _, _, _]) rfl ?_
          first
            | (rw [e89b, e89, x_ti (by omega)] at a109
               refine ih (k + 1) (by omega) P' _ (hpe.tr h1) ((((((hex.tr h2.EF).ui (a := 8) (k := 9) rfl).ui (a := 8) (k := 10) rfl).ui (a := 8) (k := 11) rfl).ui (a := 8) (k := 12) rfl)) ?_
               rw [s_w, x_if_t hok, ho]
               show c_sw (if w.1 < s_n Z e d.toInt k then some _ else some _) _
               rw [if_pos (by rw [← en]; omega)]
               exact ⟨by show nI _ = nI _; rw [en], v0, v1, v2, by rw [← en]; omega⟩)
            | (rw [e89b, e89, x_ti (by omega)] at a109
               refine ih (k + 1) (by omega) P' I' (hpe.tr h1) (hex.tr h2.EF) ?_
               rw [s_w, x_if_t hok, ho]
               show c_sw (if w.1 < s_n Z e d.toInt k then some _ else some _) _
               rw [if_neg (by rw [← en]; omega)]
               exact ⟨by rw [h2.i 8 9 rfl]; exact hsr.1, by rw [h2.i 8 10 rfl]; exact hsr.2.1, by rw [h2.i 8 11 rfl]; exact hsr.2.2.1, by rw [h2.i 8 12 rfl]; exact hsr.2.2.2.1, hsr.2.2.2.2⟩)
            | (refine ih (k + 1) (by omega) P I hpe hex ?_
               rw [s_w, x_if_f (fun w => q (by unfold g_pl; rw [v0, v1, v2]; exact w)), ho]
               exact hsr)
            | (exfalso
               rw [e89, x_tm1] at a109
               omega)
        · refine v_aload_n d_X2_findWorst_112 rfl ?_
          refine v_iload d_X2_findWorst_113 rfl ?_
          refine v_pi d_X2_findWorst_115 (lp_X2_157_2 _) rfl (hS _ _ rfl) (rfl) rfl ?_
          refine v_aload_n d_X2_findWorst_118 rfl ?_
          refine v_iload d_X2_findWorst_119 rfl ?_
          refine v_pi d_X2_findWorst_121 (lp_X2_166_2 _) rfl (hS _ _ rfl) (rfl) rfl ?_
          refine v_aload_n d_X2_findWorst_124 rfl ?_
          refine v_iload d_X2_findWorst_125 rfl ?_
          refine v_pi d_X2_findWorst_127 (lp_X2_169_2 _) rfl (hS _ _ rfl) (rfl) rfl ?_
          refine v_aload_n d_X2_findWorst_130 rfl ?_
          refine v_iload d_X2_findWorst_131 rfl ?_
          refine v_pi d_X2_findWorst_133 (lp_X2_172_2 _) rfl (hS _ _ rfl) (rfl) rfl ?_
          first | refine v_iinc (ls' := [_, _, _, _, _, _, _, _]) d_X2_findWorst_136 rfl (x_inc_1 _) (by decide) rfl ?_ | refine v_iinc (ls' := [_, _, _, _, _, _, _, _]) d_X2_findWorst_136 rfl rfl (by decide) rfl ?_
          refine v_goto d_X2_findWorst_139 ?_
          refine x_V.fg1 4 (ls' := [_, _, _, _, _, _, _, _]) rfl ?_
          refine x_V.fg1 5 (ls' := [_, _, _, _, _, _, _, _]) rfl ?_
          refine x_V.fg1 6 (ls' := [_, _, _, _, _, _, _, _]) rfl ?_
          refine x_V.fg1 7 (ls' := [_, _, _, _, _, _, _, _]) rfl ?_
          first
            | (rw [e89b, e89, x_ti (by omega)] at a109
               refine ih (k + 1) (by omega) P' _ (hpe.tr h1) ((((((hex.tr h2.EF).ui (a := 8) (k := 9) rfl).ui (a := 8) (k := 10) rfl).ui (a := 8) (k := 11) rfl).ui (a := 8) (k := 12) rfl)) ?_
               rw [s_w, x_if_t hok, ho]
               show c_sw (if w.1 < s_n Z e d.toInt k then some _ else some _) _
               rw [if_pos (by rw [← en]; omega)]
               exact ⟨by show nI _ = nI _; rw [en], v0, v1, v2, by rw [← en]; omega⟩)
            | (rw [e89b, e89, x_ti (by omega)] at a109
               refine ih (k + 1) (by omega) P' I' (hpe.tr h1) (hex.tr h2.EF) ?_
               rw [s_w, x_if_t hok, ho]
               show c_sw (if w.1 < s_n Z e d.toInt k then some _ else some _) _
               rw [if_neg (by rw [← en]; omega)]
               exact ⟨by rw [h2.i 8 9 rfl]; exact hsr.1, by rw [h2.i 8 10 rfl]; exact hsr.2.1, by rw [h2.i 8 11 rfl]; exact hsr.2.2.1, by rw [h2.i 8 12 rfl]; exact hsr.2.2.2.1, hsr.2.2.2.2⟩)
            | (refine ih (k + 1) (by omega) P I hpe hex ?_
               rw [s_w, x_if_f (fun w => q (by unfold g_pl; rw [v0, v1, v2]; exact w)), ho]
               exact hsr)
            | (exfalso
               rw [e89, x_tm1] at a109
               omega)

set_option maxRecDepth 100000 in
set_option maxHeartbeats 4000000 in
theorem t_X2_findWorst {K : x_K} {S : x_S} {P : x_P} {I : x_I} {J : x_J} {n : Nat} {w d : Int32} {fa : Nat → Nat} {bd : Nat} {Z : x_I} (hR : c_R fa bd Z S P I J n) (mi : m_I Z) (hnb : m_nb Z = Z) (N : Nat) (hN : (N : Int) = m_ce Z 10) (e : Nat) (he : e < 4) (hd9 : 1 ≤ d.toInt ∧ d.toInt ≤ 9) (hw : w = nI e) (hK : ∀ (P' : x_P) (I' : x_I), p_ex P P' → x_ex cF I I' J J → c_sw (s_w Z e d.toInt 27) I' → K none S P' I' J n) : x_Call f_X2_findWorst [.ref 8, .int w, .int d] K S P I J n := by
  have hS := hR.hS
  have hP := hR.hP
  have hn := mi.hn
  have hfo := mi.fo
  have h9 : m_ns Z = (Z 39 2).toInt.toNat := rfl
  subst hw
  refine x_intro (by decide) 5 (ls := [_, _, _, _, _, _, _, _]) rfl (Nat.le_of_ble_eq_true rfl) ?_
  refine v_aload_n d_X2_findWorst_0 rfl ?_
  refine v_iconst (v := (-1)) d_X2_findWorst_1 x_ic_m1 ?_
  refine v_pi d_X2_findWorst_2 (lp_X2_157_2 _) rfl (hS _ _ rfl) (rfl) rfl ?_
  refine v_iconst (v := nI 0) d_X2_findWorst_5 x_ic_0 ?_
  refine v_istore_n (ls' := [_, _, _, _, _, _, _, _]) d_X2_findWorst_6 (by decide) rfl ?_
  exact l_X2_worst P I hR mi hnb N hN e he hd9 hK 27 0 (by omega) P _ p_ex.rf (x_ex.rf.ui rfl) rfl

set_option maxRecDepth 100000 in
set_option maxHeartbeats 4000000 in
theorem t_X11_sway {K : x_K} {S : x_S} {P : x_P} {I : x_I} {J : x_J} {n : Nat} {e d what : Int32} {fa : Nat → Nat} {bd : Nat} {Z : x_I} (hR : c_R fa bd Z S P I J n) (mi : m_I Z) (hK : ∀ r : Int32, r.toInt = q_sway Z e d what → c_K K (z_sway Z e d what) I J n (.int r)) : x_Call f_X11_sway [.ref 1, .int e, .int d, .int what] K S P I J n := by
  have hS := hR.hS
  have hP := hR.hP
  have hn := mi.hn
  have hfo := mi.fo
  have h9 : m_ns Z = (Z 39 2).toInt.toNat := rfl
  have hbm := m_ce_in mi.bo
  refine x_intro (by decide) 0 (ls := [_, _, _, _]) rfl (Nat.le_of_ble_eq_true rfl) ?_
  refine v_iload_n d_X11_sway_0 rfl ?_
  refine v_cs (as := [_]) (rest := []) d_X11_sway_1 ls_X11_118 rfl ⟨by decide, by decide⟩ rfl (Nat.le_of_ble_eq_true rfl) (by decide) (by decide) ?_
  refine t_X2_hasEye (fun q1 => ?_) (fun q1 => ?_)
  · obtain ⟨j, rfl, hk_j, t_j, y_j⟩ := x_ex1 (s := e) (q1.1)
    have q1b := q1.2
    rw [t_j] at q1b
    refine w_if_ne d_X11_sway_4 (fun _ => ?_) (fun h4 => absurd h4 (by decide))
    refine v_iload_n d_X11_sway_9 rfl ?_
    refine v_iconst (v := nI 1) d_X11_sway_10 x_ic_1 ?_
    refine v_bipush (v := nI 9) d_X11_sway_11 x_bp_9 ?_
    refine v_cs (as := [_, _, _]) (rest := []) d_X11_sway_13 ls_X11_57 rfl ⟨by decide, by decide⟩ rfl (Nat.le_of_ble_eq_true rfl) (by decide) (by decide) ?_
    refine t_X11_within (x_ti (k := 1) (by decide)) (x_ti (k := 9) (by decide)) (fun q2 => ?_) (fun q2 => ?_)
    · refine w_if_eq d_X11_sway_16 (fun h16 => absurd h16 (by decide)) (fun _ => ?_)
      refine v_iload_n d_X11_sway_19 rfl ?_
      refine v_iconst (v := nI 0) d_X11_sway_20 x_ic_0 ?_
      refine v_iconst (v := nI 3) d_X11_sway_21 x_ic_3 ?_
      refine v_cs (as := [_, _, _]) (rest := []) d_X11_sway_22 ls_X11_57 rfl ⟨by decide, by decide⟩ rfl (Nat.le_of_ble_eq_true rfl) (by decide) (by decide) ?_
      refine t_X11_within (x_ti (k := 0) (by decide)) (x_ti (k := 3) (by decide)) (fun q3 => ?_) (fun q3 => ?_)
      · refine w_if_ne d_X11_sway_25 (fun _ => ?_) (fun h25 => absurd h25 (by decide))
        refine v_aload_n d_X11_sway_31 rfl ?_
        refine v_gr d_X11_sway_32 lf_X11_39_11 rfl (hS _ _ rfl) (hP _ _ _ rfl) ?_
        refine v_iload_n d_X11_sway_35 rfl ?_
        refine v_iload_n d_X11_sway_36 rfl ?_
        refine v_cv (as := [_, _]) (rest := []) d_X11_sway_37 lv_X11_212_2 (hS _ _ rfl) rfl ⟨by decide, by decide⟩ rfl (Nat.le_of_ble_eq_true rfl) (by decide) (by decide) ?_
        refine t_X2_findWorst (hR.nb hn.2) mi.nb (m_nb_nb Z) (m_ce (m_nb Z) 10).toNat (by omega) j (by omega) q2 rfl (fun P' I' h1 h2 hsr => ?_)
        have hP := h1.hP hP
        obtain ⟨v, hv⟩ := s_some (s_ok13 (d := d.toInt) (show j < 4 by omega) mi.nb.es) 27 (by decide)
        rw [hv] at hsr
        refine v_iload_n d_X11_sway_40 rfl ?_
        rcases (show what.toInt = 0 ∨ what.toInt = 1 ∨ what.toInt = 2 ∨ (what.toInt < 0 ∨ 2 < what.toInt) by omega) with e1 | e1 | e1 | e1
        · refine v_tin (off := 27) (tgt := 68) d_X11_sway_41 (by omega) (by omega) (by rw [e1]; rfl) (by decide) ?_
          refine v_aload_n d_X11_sway_68 rfl ?_
          refine v_gr d_X11_sway_69 lf_X11_39_11 rfl (hS _ _ rfl) (hP _ _ _ rfl) ?_
          refine v_gi d_X11_sway_72 lf_X11_216_2 rfl (hS _ _ rfl) ?_
          refine v_ret (v := some (.int _)) d_X11_sway_75 rfl ⟨rfl, _, rfl, rfl⟩ (by decide) (by decide) ?_
          have ec0 : ¬ (¬ g_ey (nI j)) := fun z => z q1
          have ec1 : ¬ (¬ ((1 ≤ d.toInt ∧ d.toInt ≤ 9) ∧ 0 ≤ what.toInt ∧ what.toInt ≤ 3)) := fun z => z ⟨q2, q3⟩
          have hq : (I' 8 9).toInt = q_sway Z (nI j) d what := by
            unfold q_sway
            rw [x_if_f ec0, x_if_f ec1, y_j, hv]
            unfold s_ans
            simp only
            rw [if_pos e1]
            exact by rw [hsr.1, x_ti (by have := hsr.2.2.2.2; omega)]
          have hk := hK _ hq
          simp only [z_sway, x_if_f ec0, x_if_f ec1] at hk
          exact hk _ _ _ _ _ ⟨fa, bd, (hR.nb hn.2).cgF h2 h1⟩ h2.FC (by omega)
        · refine v_tin (off := 35) (tgt := 76) d_X11_sway_41 (by omega) (by omega) (by rw [e1]; rfl) (by decide) ?_
          refine v_aload_n d_X11_sway_76 rfl ?_
          refine v_gr d_X11_sway_77 lf_X11_39_11 rfl (hS _ _ rfl) (hP _ _ _ rfl) ?_
          refine v_gi d_X11_sway_80 lf_X11_219_2 rfl (hS _ _ rfl) ?_
          refine v_ret (v := some (.int _)) d_X11_sway_83 rfl ⟨rfl, _, rfl, rfl⟩ (by decide) (by decide) ?_
          have ec0 : ¬ (¬ g_ey (nI j)) := fun z => z q1
          have ec1 : ¬ (¬ ((1 ≤ d.toInt ∧ d.toInt ≤ 9) ∧ 0 ≤ what.toInt ∧ what.toInt ≤ 3)) := fun z => z ⟨q2, q3⟩
          have hq : (I' 8 10).toInt = q_sway Z (nI j) d what := by
            unfold q_sway
            rw [x_if_f ec0, x_if_f ec1, y_j, hv]
            unfold s_ans
            simp only
            rw [if_neg (show ¬ what.toInt = 0 by omega), if_pos e1]
            exact hsr.2.1
          have hk := hK _ hq
          simp only [z_sway, x_if_f ec0, x_if_f ec1] at hk
          exact hk _ _ _ _ _ ⟨fa, bd, (hR.nb hn.2).cgF h2 h1⟩ h2.FC (by omega)
        · refine v_tin (off := 43) (tgt := 84) d_X11_sway_41 (by omega) (by omega) (by rw [e1]; rfl) (by decide) ?_
          refine v_aload_n d_X11_sway_84 rfl ?_
          refine v_gr d_X11_sway_85 lf_X11_39_11 rfl (hS _ _ rfl) (hP _ _ _ rfl) ?_
          refine v_gi d_X11_sway_88 lf_X11_222_2 rfl (hS _ _ rfl) ?_
          refine v_ret (v := some (.int _)) d_X11_sway_91 rfl ⟨rfl, _, rfl, rfl⟩ (by decide) (by decide) ?_
          have ec0 : ¬ (¬ g_ey (nI j)) := fun z => z q1
          have ec1 : ¬ (¬ ((1 ≤ d.toInt ∧ d.toInt ≤ 9) ∧ 0 ≤ what.toInt ∧ what.toInt ≤ 3)) := fun z => z ⟨q2, q3⟩
          have hq : (I' 8 11).toInt = q_sway Z (nI j) d what := by
            unfold q_sway
            rw [x_if_f ec0, x_if_f ec1, y_j, hv]
            unfold s_ans
            simp only
            rw [if_neg (show ¬ what.toInt = 0 by omega), if_neg (show ¬ what.toInt = 1 by omega), if_pos e1]
            exact hsr.2.2.1
          have hk := hK _ hq
          simp only [z_sway, x_if_f ec0, x_if_f ec1] at hk
          exact hk _ _ _ _ _ ⟨fa, bd, (hR.nb hn.2).cgF h2 h1⟩ h2.FC (by omega)
        · refine v_tout (tgt := 92) d_X11_sway_41 e1 (by decide) ?_
          refine v_aload_n d_X11_sway_92 rfl ?_
          refine v_gr d_X11_sway_93 lf_X11_39_11 rfl (hS _ _ rfl) (hP _ _ _ rfl) ?_
          refine v_gi d_X11_sway_96 lf_X11_225_2 rfl (hS _ _ rfl) ?_
          refine v_ret (v := some (.int _)) d_X11_sway_99 rfl ⟨rfl, _, rfl, rfl⟩ (by decide) (by decide) ?_
          have ec0 : ¬ (¬ g_ey (nI j)) := fun z => z q1
          have ec1 : ¬ (¬ ((1 ≤ d.toInt ∧ d.toInt ≤ 9) ∧ 0 ≤ what.toInt ∧ what.toInt ≤ 3)) := fun z => z ⟨q2, q3⟩
          have hq : (I' 8 12).toInt = q_sway Z (nI j) d what := by
            unfold q_sway
            rw [x_if_f ec0, x_if_f ec1, y_j, hv]
            unfold s_ans
            simp only
            rw [if_neg (show ¬ what.toInt = 0 by omega), if_neg (show ¬ what.toInt = 1 by omega), if_neg (show ¬ what.toInt = 2 by omega)]
            exact hsr.2.2.2.1
          have hk := hK _ hq
          simp only [z_sway, x_if_f ec0, x_if_f ec1] at hk
          exact hk _ _ _ _ _ ⟨fa, bd, (hR.nb hn.2).cgF h2 h1⟩ h2.FC (by omega)
      · refine w_if_ne d_X11_sway_25 (fun h25 => absurd h25 (by decide)) (fun _ => ?_)
        refine v_bipush (v := (-2)) d_X11_sway_28 x_bp_m2 ?_
        refine v_ret (v := some (.int _)) d_X11_sway_30 rfl ⟨rfl, _, rfl, rfl⟩ (by decide) (by decide) ?_
        first
          | (have ec0 : ¬ (¬ g_ey (nI j)) := fun z => z q1
             have ec1 : ¬ ((1 ≤ d.toInt ∧ d.toInt ≤ 9) ∧ 0 ≤ what.toInt ∧ what.toInt ≤ 3) := fun z => q2 z.1
             have hk := hK (-2) (by unfold q_sway; rw [x_if_f ec0, x_if_t ec1]; decide)
             simp only [z_sway, x_if_f ec0, x_if_t ec1] at hk
             exact hk _ _ _ _ _ ⟨fa, bd, hR⟩ x_ex.rf (by omega))
          | (have ec0 : ¬ (¬ g_ey (nI j)) := fun z => z q1
             have ec1 : ¬ ((1 ≤ d.toInt ∧ d.toInt ≤ 9) ∧ 0 ≤ what.toInt ∧ what.toInt ≤ 3) := fun z => q3 z.2
             have hk := hK (-2) (by unfold q_sway; rw [x_if_f ec0, x_if_t ec1]; decide)
             simp only [z_sway, x_if_f ec0, x_if_t ec1] at hk
             exact hk _ _ _ _ _ ⟨fa, bd, hR⟩ x_ex.rf (by omega))
    · refine w_if_eq d_X11_sway_16 (fun _ => ?_) (fun h16 => absurd h16 (by decide))
      refine v_bipush (v := (-2)) d_X11_sway_28 x_bp_m2 ?_
      refine v_ret (v := some (.int _)) d_X11_sway_30 rfl ⟨rfl, _, rfl, rfl⟩ (by decide) (by decide) ?_
      first
        | (have ec0 : ¬ (¬ g_ey (nI j)) := fun z => z q1
           have ec1 : ¬ ((1 ≤ d.toInt ∧ d.toInt ≤ 9) ∧ 0 ≤ what.toInt ∧ what.toInt ≤ 3) := fun z => q2 z.1
           have hk := hK (-2) (by unfold q_sway; rw [x_if_f ec0, x_if_t ec1]; decide)
           simp only [z_sway, x_if_f ec0, x_if_t ec1] at hk
           exact hk _ _ _ _ _ ⟨fa, bd, hR⟩ x_ex.rf (by omega))
        | (have ec0 : ¬ (¬ g_ey (nI j)) := fun z => z q1
           have ec1 : ¬ ((1 ≤ d.toInt ∧ d.toInt ≤ 9) ∧ 0 ≤ what.toInt ∧ what.toInt ≤ 3) := fun z => q3 z.2
           have hk := hK (-2) (by unfold q_sway; rw [x_if_f ec0, x_if_t ec1]; decide)
           simp only [z_sway, x_if_f ec0, x_if_t ec1] at hk
           exact hk _ _ _ _ _ ⟨fa, bd, hR⟩ x_ex.rf (by omega))
  · refine w_if_ne d_X11_sway_4 (fun h4 => absurd h4 (by decide)) (fun _ => ?_)
    refine v_iconst (v := (-1)) d_X11_sway_7 x_ic_m1 ?_
    refine v_ret (v := some (.int _)) d_X11_sway_8 rfl ⟨rfl, _, rfl, rfl⟩ (by decide) (by decide) ?_
    have ec0 : ¬ g_ey e := q1
    have hk := hK (-1) (by unfold q_sway; rw [x_if_t ec0]; decide)
    simp only [z_sway, x_if_t ec0] at hk
    exact hk _ _ _ _ _ ⟨fa, bd, hR⟩ x_ex.rf (by omega)

