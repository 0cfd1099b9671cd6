set_option maxRecDepth 100000 in
set_option maxHeartbeats 4000000 in
theorem l_X12_mayBeE {K : x_K} {S : x_S} {P : x_P} {n : Nat} (Z : x_I) (J0 : x_J) (p c : Nat) (hpl : Z 39 26 = nI p) (hp : p < m_ns Z) (hh : 0 ≤ (Z 39 24).toInt ∧ (Z 39 24).toInt ≤ 6) (hws : g_ws Z) (hc : (c : Int) < m_ce Z p) (hn : 0 ≤ (Z 39 2).toInt ∧ (Z 39 2).toInt ≤ 10) (hfo : ∀ s, s < m_ns Z → m_fo Z s) (hS : x_hS S) (hP : x_hP P)
    (ht : r_may Z p c → ∀ (I : x_I) (J : x_J), x_ex mE Z I J0 J → K (some (.int (nI 1))) S P I J n) (hf : ¬ r_may Z p c → ∀ (I : x_I) (J : x_J), x_ex mE Z I J0 J → K (some (.int (nI 0))) S P I J n) :
    ∀ d k : Nat, k + d = m_nh Z → ∀ (I : x_I) (J : x_J), x_ex mE Z I J0 J → (∀ t, t < k → r_may1 Z p c t) → x_V f_X12_mayBe K 2 [some (.ref 39), some (.int (nI c)), some (.int (nI k)), none] [] S P I J n 0 0 := by
  intro d
  have t9 : (-9 : Int32).toInt = -9 := by decide
  induction d with
  | zero =>
    intro k hd I J hex hm
    have hnI := x_hn_cgF hex.up hn
    have hfI := x_fos_cgF hex.up hfo
    have hcI := x_ce_cgF hex.up p
    have h9 : m_ns I = (I 39 2).toInt.toNat := rfl
    have h8 := congrArg Int32.toInt (hex.i 39 24 rfl)
    have h7 : m_nh Z = (Z 39 24).toInt.toNat := rfl
    have hwI : g_ws I := fun k hk => by rw [hex.i 53 k rfl]; exact hws k hk
    refine v_iload_n d_X12_mayBe_2 rfl ?_
    refine v_aload_n d_X12_mayBe_3 rfl ?_
    refine v_gi d_X12_mayBe_4 lf_X12_229_12 rfl (hS _ _ rfl) ?_
    refine w_icmp_ge d_X12_mayBe_7 (fun h7 => ?_) (fun h7 => False.elim (by (try simp (disch := omega) only [x_ti, x_tm1] at h7); omega))
    refine v_iconst (v := nI 1) d_X12_mayBe_57 x_ic_1 ?_
    refine v_ret (v := some (.int _)) d_X12_mayBe_58 rfl ⟨rfl, _, rfl, rfl⟩ (by decide) (by decide) ?_
    exact ht (fun t h => hm t (by omega)) I J hex
  | succ d ih =>
    intro k hd I J hex hm
    have hnI := x_hn_cgF hex.up hn
    have hfI := x_fos_cgF hex.up hfo
    have hcI := x_ce_cgF hex.up p
    have h9 : m_ns I = (I 39 2).toInt.toNat := rfl
    have h8 := congrArg Int32.toInt (hex.i 39 24 rfl)
    have h7 : m_nh Z = (Z 39 24).toInt.toNat := rfl
    have hwI : g_ws I := fun k hk => by rw [hex.i 53 k rfl]; exact hws k hk
    refine v_iload_n d_X12_mayBe_2 rfl ?_
    refine v_aload_n d_X12_mayBe_3 rfl ?_
    refine v_gi d_X12_mayBe_4 lf_X12_229_12 rfl (hS _ _ rfl) ?_
    refine w_icmp_ge d_X12_mayBe_7 (fun h7 => False.elim (by (try simp (disch := omega) only [x_ti, x_tm1] at h7); omega)) (fun h7 => ?_)
    refine v_aload_n d_X12_mayBe_10 rfl ?_
    refine v_iload_n d_X12_mayBe_11 rfl ?_
    refine v_iload_n d_X12_mayBe_12 rfl ?_
    refine v_cv (as := [_, _]) (rest := []) d_X12_mayBe_13 lv_X12_235_12 (hS _ _ rfl) rfl ⟨by decide, by decide⟩ rfl (Nat.le_of_ble_eq_true rfl) (by decide) (by decide) ?_
    refine t_X12_litBy2 p k c rfl (by omega) rfl ((hex.i 39 26 rfl).trans hpl) (by rw [x_ns_cgF hex.up]; exact hp) hwI (by omega) hnI hfI hS hP (fun ho I2 J2 h2 => ?_) (fun s d0 ho hs hd0 hd6 I2 J2 h2 => ?_)
    · refine v_istore_n (ls' := [_, _, _, _]) d_X12_mayBe_16 (by decide) rfl ?_
      refine v_iload_n d_X12_mayBe_17 rfl ?_
      refine v_bipush (v := (-9)) d_X12_mayBe_18 x_bp_m9 ?_
      refine w_icmp_eq d_X12_mayBe_20 (fun _ => ?_) (fun a20 => absurd a20 (by decide))
      first | refine v_iinc (ls' := [_, _, _, _]) d_X12_mayBe_51 rfl (x_inc_1 _) (by decide) rfl ?_ | refine v_iinc (ls' := [_, _, _, _]) d_X12_mayBe_51 rfl rfl (by decide) rfl ?_
      refine v_goto d_X12_mayBe_54 ?_
      refine x_V.fg1 3 (ls' := [_, _, _, _]) rfl ?_
      rw [r_lit_cg hex.up (by omega) hws (hfo p hp) hc hfo] at ho
      refine ih (k + 1) (by omega) I2 J2 (hex.tr h2) (fun t ht => ?_)
      by_cases htk : t = k
      · subst htk
        unfold r_may1
        rw [ho]
        trivial
      · exact hm t (by omega)
    · refine v_istore_n (ls' := [_, _, _, _]) d_X12_mayBe_16 (by decide) rfl ?_
      refine v_iload_n d_X12_mayBe_17 rfl ?_
      refine v_bipush (v := (-9)) d_X12_mayBe_18 x_bp_m9 ?_
      refine w_icmp_eq d_X12_mayBe_20 (fun a20 => False.elim (by rw [x_ti (by omega), t9] at a20; omega)) (fun a20 => ?_)
      rw [r_lit_cg hex.up (by omega) hws (hfo p hp) hc hfo] at ho
      have hsZ : s < m_ns Z := by rw [← x_ns_cgF hex.up]; exact hs
      have hs10 : s < 10 := by unfold m_ns at hsZ; omega
      have hx2 := hex.tr h2
      have d1 : (100 * s + d0) / 100 = s := by omega
      have d2 : (100 * s + d0) % 100 = d0 := by omega
      refine v_aload_n d_X12_mayBe_23 rfl ?_
      refine v_gr d_X12_mayBe_24 lf_X12_57_12 rfl (hS _ _ rfl) (hP _ _ _ rfl) ?_
      refine v_sipush (v := nI 640) d_X12_mayBe_27 x_sp_640 ?_
      refine v_iload_n d_X12_mayBe_30 rfl ?_
      first | refine v_imulN d_X12_mayBe_31 ?_ | refine v_imul d_X12_mayBe_31 ?_
      refine v_bipush (v := nI 64) d_X12_mayBe_32 x_bp_64 ?_
      refine v_iload_n d_X12_mayBe_34 rfl ?_
      refine v_bipush (v := nI 100) d_X12_mayBe_35 x_bp_100 ?_
      refine v_idiv d_X12_mayBe_37 (by decide) ?_
      rw [x_divN (by omega) (by decide) (by decide), d1]
      first | refine v_imulN d_X12_mayBe_38 ?_ | refine v_imul d_X12_mayBe_38 ?_
      first | refine v_iaddN d_X12_mayBe_39 ?_ | refine v_iadd d_X12_mayBe_39 ?_
      refine v_iload_n d_X12_mayBe_40 rfl ?_
      refine v_bipush (v := nI 100) d_X12_mayBe_41 x_bp_100 ?_
      refine v_irem d_X12_mayBe_43 (by decide) ?_
      rw [x_remN (by omega) (by decide) (by decide), d2]
      first | refine v_iaddN d_X12_mayBe_44 ?_ | refine v_iadd d_X12_mayBe_44 ?_
      refine v_zald _ d_X12_mayBe_45 (rfl) (hS _ _ rfl) (⟨by omega, by omega⟩) (hx2.i 54 (640 * k + 64 * s + d0) rfl) ?_
      refine w_if_ne d_X12_mayBe_46 (fun a46 => ?_) (fun a46 => ?_)
      · first | refine v_iinc (ls' := [_, _, _, _]) d_X12_mayBe_51 rfl (x_inc_1 _) (by decide) rfl ?_ | refine v_iinc (ls' := [_, _, _, _]) d_X12_mayBe_51 rfl rfl (by decide) rfl ?_
        refine v_goto d_X12_mayBe_54 ?_
        refine x_V.fg1 3 (ls' := [_, _, _, _]) rfl ?_
        refine ih (k + 1) (by omega) I2 J2 (hex.tr h2) (fun t ht => ?_)
        by_cases htk : t = k
        · subst htk
          unfold r_may1
          rw [ho]
          exact a46
        · exact hm t (by omega)
      · refine v_iconst (v := nI 0) d_X12_mayBe_49 x_ic_0 ?_
        refine v_ret (v := some (.int _)) d_X12_mayBe_50 rfl ⟨rfl, _, rfl, rfl⟩ (by decide) (by decide) ?_
        exact hf (fun z => by have h1 := z k (by omega); unfold r_may1 at h1; rw [ho] at h1; exact h1 a46) I2 J2 hx2

set_option maxRecDepth 100000 in
set_option maxHeartbeats 4000000 in
theorem t_X12_mayBeE {K : x_K} {S : x_S} {P : x_P} {I : x_I} {J : x_J} {n : Nat} {y : Int32} (p c : Nat) (hy : y = nI c) (hpl : I 39 26 = nI p) (hp : p < m_ns I) (hh : 0 ≤ (I 39 24).toInt ∧ (I 39 24).toInt ≤ 6) (hws : g_ws I) (hc : (c : Int) < m_ce I p) (hn : 0 ≤ (I 39 2).toInt ∧ (I 39 2).toInt ≤ 10) (hfo : ∀ s, s < m_ns I → m_fo I s) (hS : x_hS S) (hP : x_hP P) (ht : r_may I p c → ∀ (I' : x_I) (J' : x_J), x_ex mE I I' J J' → K (some (.int (nI 1))) S P I' J' n) (hf : ¬ r_may I p c → ∀ (I' : x_I) (J' : x_J), x_ex mE I I' J J' → K (some (.int (nI 0))) S P I' J' n) : x_Call f_X12_mayBe [.ref 39, .int y] K S P I J n := by
  subst hy
  refine x_intro (by decide) 2 (ls := [_, _, _, _]) rfl (Nat.le_of_ble_eq_true rfl) ?_
  refine v_iconst (v := nI 0) d_X12_mayBe_0 x_ic_0 ?_
  refine v_istore_n (ls' := [_, _, _, _]) d_X12_mayBe_1 (by decide) rfl ?_
  exact l_X12_mayBeE I J p c hpl hp hh hws hc hn hfo hS hP ht hf (m_nh I) 0 (by omega) I J x_ex.rf (fun t h => absurd h (Nat.not_lt_zero _))

theorem r_may_cg {Z Z' : x_I} {J J' : x_J} (h : x_ex mF Z Z' J J') {p c : Nat} (hh : 0 ≤ (Z 39 24).toInt ∧ (Z 39 24).toInt ≤ 6) (hws : g_ws Z) (hp : m_fo Z p) (hc : (c : Int) < m_ce Z p) (hfo : ∀ s, s < m_ns Z → m_fo Z s) : r_may Z' p c ↔ r_may Z p c := by
  have e : m_nh Z' = m_nh Z := by unfold m_nh; rw [h.i 39 24 rfl]
  have e1 : ∀ t, t < m_nh Z → (r_may1 Z' p c t ↔ r_may1 Z p c t) := fun t ht => by
    unfold r_may1
    rw [r_lit_cg h (by unfold m_nh at ht; omega) hws hp hc hfo]
    split
    · exact Iff.rfl
    · rw [h.i 54 _ rfl]
  unfold r_may
  rw [e]
  exact ⟨fun w t ht => (e1 t ht).mp (w t ht), fun w t ht => (e1 t ht).mpr (w t ht)⟩

set_option maxRecDepth 100000 in
set_option maxHeartbeats 4000000 in
theorem l_ff_h {K : x_K} {S : x_S} {P : x_P} {n : Nat} (Z : x_I) (J0 : x_J) (p : Nat) (hpl : Z 39 26 = nI p) (hp : p < m_ns Z) (hh : 0 ≤ (Z 39 24).toInt ∧ (Z 39 24).toInt ≤ 6) (hws : g_ws Z) (hn : 0 ≤ (Z 39 2).toInt ∧ (Z 39 2).toInt ≤ 10) (hfo : ∀ s, s < m_ns Z → m_fo Z s) (k0 c : Nat) (hk0 : k0 < 16) (hho : h_ho Z p k0 = c) (hc : (c : Int) < m_ce Z p) (hS : x_hS S) (hP : x_hP P) (hcont : ∀ (I : x_I) (J : x_J), x_ex mF Z I J0 J → I 39 28 = nI k0 → (∀ k, k < k0 + 1 → I 55 k = nI (h_ho Z p k)) → (∀ k u, k < k0 → u < m_nh Z → I 56 (6 * k + u) = h_w (h_L Z p k u)) → (∀ u, u < m_nh Z → I 56 (6 * k0 + u) = h_w (h_L Z p k0 u)) → x_V f_X12_findFewest K 128 [some (.ref 39), some (.int (nI c)), some (.int (nI 6)), none, none, none, none, none, none, none, none] [] S P I J n 0 0) :
    ∀ d t : Nat, t + d = 6 → ∀ (I : x_I) (J : x_J), x_ex mF Z I J0 J → I 39 28 = nI k0 → (∀ k, k < k0 + 1 → I 55 k = nI (h_ho Z p k)) → (∀ k u, k < k0 → u < m_nh Z → I 56 (6 * k + u) = h_w (h_L Z p k u)) → (∀ u, u < t → u < m_nh Z → I 56 (6 * k0 + u) = h_w (h_L Z p k0 u)) → x_V f_X12_findFewest K 54 [some (.ref 39), some (.int (nI c)), some (.int (nI t)), none, none, none, none, none, none, none, none] [] S P I J n 0 0 := by
  have t9 : (-9 : Int32).toInt = -9 := by decide
  intro d
  induction d with
  | zero =>
    intro t hd I J hex r28 r55 r56 r56b
    have h7 : m_nh Z = (Z 39 24).toInt.toNat := rfl
    refine v_iload_n d_X12_findFewest_54 rfl ?_
    refine v_bipush (v := nI 6) d_X12_findFewest_55 x_bp_6 ?_
    refine w_icmp_ge d_X12_findFewest_57 (fun h57 => ?_) (fun h57 => False.elim (by (try simp (disch := omega) only [x_ti, x_tm1] at h57); omega))
    have e1 : t = 6 := by omega
    subst e1
    exact hcont I J hex r28 r55 r56 (fun u hu => r56b u (by omega) hu)
  | succ d ih =>
    intro t hd I J hex r28 r55 r56 r56b
    have hnI := x_hn_cgF hex hn
    have hfI := x_fos_cgF hex hfo
    have hcI := x_ce_cgF hex p
    have h9 : m_ns I = (I 39 2).toInt.toNat := rfl
    have h8 := congrArg Int32.toInt (hex.i 39 24 rfl)
    have h7 : m_nh Z = (Z 39 24).toInt.toNat := rfl
    have hwI : g_ws I := fun k hk => by rw [hex.i 53 k rfl]; exact hws k hk
    refine v_iload_n d_X12_findFewest_54 rfl ?_
    refine v_bipush (v := nI 6) d_X12_findFewest_55 x_bp_6 ?_
    refine w_icmp_ge d_X12_findFewest_57 (fun h57 => False.elim (by (try simp (disch := omega) only [x_ti, x_tm1] at h57); omega)) (fun h57 => ?_)
    refine v_iload_n d_X12_findFewest_60 rfl ?_
    refine v_aload_n d_X12_findFewest_61 rfl ?_
    refine v_gie d_X12_findFewest_62 lf_X12_229_12 rfl (hS _ _ rfl) (hex.i 39 24 rfl) ?_
    refine w_icmp_ge d_X12_findFewest_65 (fun a65 => ?_) (fun a65 => ?_)
    · try simp (disch := omega) only [x_ti, x_tm1] at a65
      have x28 := r28
      refine v_bipush (v := (-9)) d_X12_findFewest_77 x_bp_m9 ?_
      refine v_istore_n (ls' := [_, _, _, _, _, _, _, _, _, _, _]) d_X12_findFewest_79 (by decide) rfl ?_
      refine v_aload_n d_X12_findFewest_80 rfl ?_
      refine v_gr d_X12_findFewest_81 lf_X12_63_12 rfl (hS _ _ rfl) (hP _ _ _ rfl) ?_
      refine v_bipush (v := nI 6) d_X12_findFewest_84 x_bp_6 ?_
      refine v_aload_n d_X12_findFewest_86 rfl ?_
      refine v_gie d_X12_findFewest_87 lf_X12_241_12 rfl (hS _ _ rfl) (x28) ?_
      first | refine v_imulN d_X12_findFewest_90 ?_ | refine v_imul d_X12_findFewest_90 ?_
      refine v_iload_n d_X12_findFewest_91 rfl ?_
      first | refine v_iaddN d_X12_findFewest_92 ?_ | refine v_iadd d_X12_findFewest_92 ?_
      refine v_iload_n d_X12_findFewest_93 rfl ?_
      refine v_bipush (v := (-9)) d_X12_findFewest_94 x_bp_m9 ?_
      refine w_icmp_ne d_X12_findFewest_96 (fun a96 => absurd a96 (by decide)) (fun _ => ?_)
      refine v_iconst (v := (-1)) d_X12_findFewest_99 x_ic_m1 ?_
      refine v_goto d_X12_findFewest_100 ?_
      refine v_iast _ d_X12_findFewest_121 (rfl) (hS _ _ rfl) (⟨by omega, by omega⟩) ?_
      first | refine v_iinc (ls' := [_, _, _, _, _, _, _, _, _, _, _]) d_X12_findFewest_122 rfl (x_inc_1 _) (by decide) rfl ?_ | refine v_iinc (ls' := [_, _, _, _, _, _, _, _, _, _, _]) d_X12_findFewest_122 rfl rfl (by decide) rfl ?_
      refine v_goto d_X12_findFewest_125 ?_
      first
        | (exfalso
           rw [x_ti (by omega), t9] at a96
           omega)
        | (rw [r_lit_cg hex (by omega) hws (hfo p hp) hc hfo] at ho
           refine x_V.fg1 3 (ls' := [_, _, _, _, _, _, _, _, _, _, _]) rfl ?_
           refine ih (t + 1) (by omega) _ J2 ((hex.tr h2.up).ui (a := 56) (k := 6 * k0 + t) rfl) x28 (fun k hk => by rw [x_u2_na _ _ _ _ (by decide), h2.i 55 _ rfl]; exact r55 k hk) (fun k u hk hu => ?_) (fun u hu hu2 => ?_)
           · rw [x_u2_nk _ _ _ _ (by omega)]; rw [h2.i 56 _ rfl]; exact r56 k u hk hu
           · rw [x_u2_at]
             by_cases w : u = t
             · subst w; rw [if_pos ⟨rfl, rfl⟩]; unfold h_L h_pl; rw [hho, ho]; rfl
             · rw [if_neg (by omega)]; rw [h2.i 56 _ rfl]; exact r56b u (by omega) hu2)
        | (refine x_V.fg1 3 (ls' := [_, _, _, _, _, _, _, _, _, _, _]) rfl ?_
           refine ih (t + 1) (by omega) _ J ((hex).ui (a := 56) (k := 6 * k0 + t) rfl) r28 (fun k hk => r55 k hk) (fun k u hk hu => ?_) (fun u hu hu2 => ?_)
           · rw [x_u2_nk _ _ _ _ (by omega)]; exact r56 k u hk hu
           · rw [x_u2_at]
             by_cases w : u = t
             · subst w; rw [if_pos ⟨rfl, rfl⟩]; omega
             · rw [if_neg (by omega)]; exact r56b u (by omega) hu2)
    · try simp (disch := omega) only [x_ti, x_tm1] at a65
      refine v_aload_n d_X12_findFewest_68 rfl ?_
      refine v_iload_n d_X12_findFewest_69 rfl ?_
      refine v_iload_n d_X12_findFewest_70 rfl ?_
      refine v_cv (as := [_, _]) (rest := []) d_X12_findFewest_71 lv_X12_235_12 (hS _ _ rfl) rfl ⟨by decide, by decide⟩ rfl (Nat.le_of_ble_eq_true rfl) (by decide) (by decide) ?_
      refine t_X12_litBy2 p t c rfl (by omega) rfl ((hex.i 39 26 rfl).trans hpl) (by rw [x_ns_cgF hex]; exact hp) hwI (by omega) hnI hfI hS hP (fun ho I2 J2 h2 => ?_) (fun s d0 ho hs hd0 hd6 I2 J2 h2 => ?_)
      · have x28 := (h2.i 39 28 rfl).trans r28
        refine v_goto d_X12_findFewest_74 ?_
        refine v_istore_n (ls' := [_, _, _, _, _, _, _, _, _, _, _]) d_X12_findFewest_79 (by decide) rfl ?_
        refine v_aload_n d_X12_findFewest_80 rfl ?_
        refine v_gr d_X12_findFewest_81 lf_X12_63_12 rfl (hS _ _ rfl) (hP _ _ _ rfl) ?_
        refine v_bipush (v := nI 6) d_X12_findFewest_84 x_bp_6 ?_
        refine v_aload_n d_X12_findFewest_86 rfl ?_
        refine v_gie d_X12_findFewest_87 lf_X12_241_12 rfl (hS _ _ rfl) (x28) ?_
        first | refine v_imulN d_X12_findFewest_90 ?_ | refine v_imul d_X12_findFewest_90 ?_
        refine v_iload_n d_X12_findFewest_91 rfl ?_
        first | refine v_iaddN d_X12_findFewest_92 ?_ | refine v_iadd d_X12_findFewest_92 ?_
        refine v_iload_n d_X12_findFewest_93 rfl ?_
        refine v_bipush (v := (-9)) d_X12_findFewest_94 x_bp_m9 ?_
        refine w_icmp_ne d_X12_findFewest_96 (fun a96 => absurd a96 (by decide)) (fun _ => ?_)
        refine v_iconst (v := (-1)) d_X12_findFewest_99 x_ic_m1 ?_
        refine v_goto d_X12_findFewest_100 ?_
        refine v_iast _ d_X12_findFewest_121 (rfl) (hS _ _ rfl) (⟨by omega, by omega⟩) ?_
        first | refine v_iinc (ls' := [_, _, _, _, _, _, _, _, _, _, _]) d_X12_findFewest_122 rfl (x_inc_1 _) (by decide) rfl ?_ | refine v_iinc (ls' := [_, _, _, _, _, _, _, _, _, _, _]) d_X12_findFewest_122 rfl rfl (by decide) rfl ?_
        refine v_goto d_X12_findFewest_125 ?_
        first
          | (exfalso
             rw [x_ti (by omega), t9] at a96
             omega)
          | (rw [r_lit_cg hex (by omega) hws (hfo p hp) hc hfo] at ho
             refine x_V.fg1 3 (ls' := [_, _, _, _, _, _, _, _, _, _, _]) rfl ?_
             refine ih (t + 1) (by omega) _ J2 ((hex.tr h2.up).ui (a := 56) (k := 6 * k0 + t) rfl) x28 (fun k hk => by rw [x_u2_na _ _ _ _ (by decide), h2.i 55 _ rfl]; exact r55 k hk) (fun k u hk hu => ?_) (fun u hu hu2 => ?_)
             · rw [x_u2_nk _ _ _ _ (by omega)]; rw [h2.i 56 _ rfl]; exact r56 k u hk hu
             · rw [x_u2_at]
               by_cases w : u = t
               · subst w; rw [if_pos ⟨rfl, rfl⟩]; unfold h_L h_pl; rw [hho, ho]; rfl
               · rw [if_neg (by omega)]; rw [h2.i 56 _ rfl]; exact r56b u (by omega) hu2)
          | (refine x_V.fg1 3 (ls' := [_, _, _, _, _, _, _, _, _, _, _]) rfl ?_
             refine ih (t + 1) (by omega) _ J ((hex).ui (a := 56) (k := 6 * k0 + t) rfl) r28 (fun k hk => r55 k hk) (fun k u hk hu => ?_) (fun u hu hu2 => ?_)
             · rw [x_u2_nk _ _ _ _ (by omega)]; exact r56 k u hk hu
             · rw [x_u2_at]
               by_cases w : u = t
               · subst w; rw [if_pos ⟨rfl, rfl⟩]; omega
               · rw [if_neg (by omega)]; exact r56b u (by omega) hu2)
      · have x28 := (h2.i 39 28 rfl).trans r28
        have hsZ : s < m_ns Z := by rw [← x_ns_cgF hex]; exact hs
        have hs10 : s < 10 := by unfold m_ns at hsZ; omega
        have d1 : (100 * s + d0) / 100 = s := by omega
        have d2 : (100 * s + d0) % 100 = d0 := by omega
        refine v_goto d_X12_findFewest_74 ?_
        refine v_istore_n (ls' := [_, _, _, _, _, _, _, _, _, _, _]) d_X12_findFewest_79 (by decide) rfl ?_
        refine v_aload_n d_X12_findFewest_80 rfl ?_
        refine v_gr d_X12_findFewest_81 lf_X12_63_12 rfl (hS _ _ rfl) (hP _ _ _ rfl) ?_
        refine v_bipush (v := nI 6) d_X12_findFewest_84 x_bp_6 ?_
        refine v_aload_n d_X12_findFewest_86 rfl ?_
        refine v_gie d_X12_findFewest_87 lf_X12_241_12 rfl (hS _ _ rfl) (x28) ?_
        first | refine v_imulN d_X12_findFewest_90 ?_ | refine v_imul d_X12_findFewest_90 ?_
        refine v_iload_n d_X12_findFewest_91 rfl ?_
        first | refine v_iaddN d_X12_findFewest_92 ?_ | refine v_iadd d_X12_findFewest_92 ?_
        refine v_iload_n d_X12_findFewest_93 rfl ?_
        refine v_bipush (v := (-9)) d_X12_findFewest_94 x_bp_m9 ?_
        refine w_icmp_ne d_X12_findFewest_96 (fun a96 => ?_) (fun a96 => ?_)
        · refine v_sipush (v := nI 640) d_X12_findFewest_103 x_sp_640 ?_
          refine v_iload_n d_X12_findFewest_106 rfl ?_
          first | refine v_imulN d_X12_findFewest_107 ?_ | refine v_imul d_X12_findFewest_107 ?_
          refine v_bipush (v := nI 64) d_X12_findFewest_108 x_bp_64 ?_
          refine v_iload_n d_X12_findFewest_110 rfl ?_
          refine v_bipush (v := nI 100) d_X12_findFewest_111 x_bp_100 ?_
          refine v_idiv d_X12_findFewest_113 (by decide) ?_
          rw [x_divN (by omega) (by decide) (by decide), d1]
          first | refine v_imulN d_X12_findFewest_114 ?_ | refine v_imul d_X12_findFewest_114 ?_
          first | refine v_iaddN d_X12_findFewest_115 ?_ | refine v_iadd d_X12_findFewest_115 ?_
          refine v_iload_n d_X12_findFewest_116 rfl ?_
          refine v_bipush (v := nI 100) d_X12_findFewest_117 x_bp_100 ?_
          refine v_irem d_X12_findFewest_119 (by decide) ?_
          rw [x_remN (by omega) (by decide) (by decide), d2]
          first | refine v_iaddN d_X12_findFewest_120 ?_ | refine v_iadd d_X12_findFewest_120 ?_
          refine v_iast _ d_X12_findFewest_121 (rfl) (hS _ _ rfl) (⟨by omega, by omega⟩) ?_
          first | refine v_iinc (ls' := [_, _, _, _, _, _, _, _, _, _, _]) d_X12_findFewest_122 rfl (x_inc_1 _) (by decide) rfl ?_ | refine v_iinc (ls' := [_, _, _, _, _, _, _, _, _, _, _]) d_X12_findFewest_122 rfl rfl (by decide) rfl ?_
          refine v_goto d_X12_findFewest_125 ?_
          first
            | (exfalso
               rw [x_ti (by omega), t9] at a96
               omega)
            | (rw [r_lit_cg hex (by omega) hws (hfo p hp) hc hfo] at ho
               refine x_V.fg1 3 (ls' := [_, _, _, _, _, _, _, _, _, _, _]) rfl ?_
               refine ih (t + 1) (by omega) _ J2 ((hex.tr h2.up).ui (a := 56) (k := 6 * k0 + t) rfl) x28 (fun k hk => by rw [x_u2_na _ _ _ _ (by decide), h2.i 55 _ rfl]; exact r55 k hk) (fun k u hk hu => ?_) (fun u hu hu2 => ?_)
               · rw [x_u2_nk _ _ _ _ (by omega)]; rw [h2.i 56 _ rfl]; exact r56 k u hk hu
               · rw [x_u2_at]
                 by_cases w : u = t
                 · subst w; rw [if_pos ⟨rfl, rfl⟩]; unfold h_L h_pl; rw [hho, ho]; rfl
                 · rw [if_neg (by omega)]; rw [h2.i 56 _ rfl]; exact r56b u (by omega) hu2)
            | (refine x_V.fg1 3 (ls' := [_, _, _, _, _, _, _, _, _, _, _]) rfl ?_
               refine ih (t + 1) (by omega) _ J ((hex).ui (a := 56) (k := 6 * k0 + t) rfl) r28 (fun k hk => r55 k hk) (fun k u hk hu => ?_) (fun u hu hu2 => ?_)
               · rw [x_u2_nk _ _ _ _ (by omega)]; exact r56 k u hk hu
               · rw [x_u2_at]
                 by_cases w : u = t
                 · subst w; rw [if_pos ⟨rfl, rfl⟩]; omega
                 · rw [if_neg (by omega)]; exact r56b u (by omega) hu2)
        · refine v_iconst (v := (-1)) d_X12_findFewest_99 x_ic_m1 ?_
          refine v_goto d_X12_findFewest_100 ?_
          refine v_iast _ d_X12_findFewest_121 (rfl) (hS _ _ rfl) (⟨by omega, by omega⟩) ?_
          first | refine v_iinc (ls' := [_, _, _, _, _, _, _, _, _, _, _]) d_X12_findFewest_122 rfl (x_inc_1 _) (by decide) rfl ?_ | refine v_iinc (ls' := [_, _, _, _, _, _, _, _, _, _, _]) d_X12_findFewest_122 rfl rfl (by decide) rfl ?_
          refine v_goto d_X12_findFewest_125 ?_
          first
            | (exfalso
               rw [x_ti (by omega), t9] at a96
               omega)
            | (rw [r_lit_cg hex (by omega) hws (hfo p hp) hc hfo] at ho
               refine x_V.fg1 3 (ls' := [_, _, _, _, _, _, _, _, _, _, _]) rfl ?_
               refine ih (t + 1) (by omega) _ J2 ((hex.tr h2.up).ui (a := 56) (k := 6 * k0 + t) rfl) x28 (fun k hk => by rw [x_u2_na _ _ _ _ (by decide), h2.i 55 _ rfl]; exact r55 k hk) (fun k u hk hu => ?_) (fun u hu hu2 => ?_)
               · rw [x_u2_nk _ _ _ _ (by omega)]; rw [h2.i 56 _ rfl]; exact r56 k u hk hu
               · rw [x_u2_at]
                 by_cases w : u = t
                 · subst w; rw [if_pos ⟨rfl, rfl⟩]; unfold h_L h_pl; rw [hho, ho]; rfl
                 · rw [if_neg (by omega)]; rw [h2.i 56 _ rfl]; exact r56b u (by omega) hu2)
            | (refine x_V.fg1 3 (ls' := [_, _, _, _, _, _, _, _, _, _, _]) rfl ?_
               refine ih (t + 1) (by omega) _ J ((hex).ui (a := 56) (k := 6 * k0 + t) rfl) r28 (fun k hk => r55 k hk) (fun k u hk hu => ?_) (fun u hu hu2 => ?_)
               · rw [x_u2_nk _ _ _ _ (by omega)]; exact r56 k u hk hu
               · rw [x_u2_at]
                 by_cases w : u = t
                 · subst w; rw [if_pos ⟨rfl, rfl⟩]; omega
                 · rw [if_neg (by omega)]; exact r56b u (by omega) hu2)

set_option maxRecDepth 100000 in
set_option maxHeartbeats 4000000 in
theorem l_ff_c {K : x_K} {S : x_S} {P : x_P} {n : Nat} (Z : x_I) (J0 : x_J) (p : Nat) (hpl : Z 39 26 = nI p) (hp : p < m_ns Z) (hh : 0 ≤ (Z 39 24).toInt ∧ (Z 39 24).toInt ≤ 6) (hws : g_ws Z) (hn : 0 ≤ (Z 39 2).toInt ∧ (Z 39 2).toInt ≤ 10) (hfo : ∀ s, s < m_ns Z → m_fo Z s) (hS : x_hS S) (hP : x_hP P) (hK : ∀ (r : Int32) (I : x_I) (J : x_J), x_ex mF Z I J0 J → r = q_fst Z p → (0 ≤ r.toInt → ∃ q R, f_least (h_L Z p) (h_m Z p) (m_nh Z) q R ∧ r = nI q ∧ q ≤ h_m Z p ∧ h_m Z p ≤ 16 ∧ (∀ k, k < h_m Z p → I 55 k = nI (h_ho Z p k)) ∧ (∀ i, i < q → I 58 i = nI (R i))) → K (some (.int r)) S P I J n) (hcont : ∀ (I : x_I) (J : x_J), x_ex mF Z I J0 J → I 39 28 = nI (h_m Z p) → h_m Z p ≤ 16 → (∀ k, k < h_m Z p → I 55 k = nI (h_ho Z p k)) → (∀ k t, k < h_m Z p → t < m_nh Z → I 56 (6 * k + t) = h_w (h_L Z p k t)) → x_V f_X12_findFewest K 146 [some (.ref 39), some (.int (nI 0)), none, none, none, none, none, none, none, none, none] [] S P I J n 0 0) :
    ∀ d c : Nat, c + d = (m_ce Z p).toNat → ∀ (I : x_I) (J : x_J), x_ex mF Z I J0 J → I 39 28 = nI (x_ct (h_mb Z p) c) → x_ct (h_mb Z p) c ≤ 16 → (∀ k, k < x_ct (h_mb Z p) c → I 55 k = nI (h_ho Z p k)) → (∀ k t, k < x_ct (h_mb Z p) c → t < m_nh Z → I 56 (6 * k + t) = h_w (h_L Z p k t)) → x_V f_X12_findFewest K 7 [some (.ref 39), some (.int (nI c)), none, none, none, none, none, none, none, none, none] [] S P I J n 0 0 := by
  have hmc := m_ce_in (hfo p hp)
  intro d
  induction d with
  | zero =>
    intro c hd I J hex r28 hle r55 r56
    refine v_iload_n d_X12_findFewest_7 rfl ?_
    refine v_aload_n d_X12_findFewest_8 rfl ?_
    refine v_aload_n d_X12_findFewest_9 rfl ?_
    refine v_gi d_X12_findFewest_10 lf_X12_53_12 rfl (hS _ _ rfl) ?_
    refine v_cv (as := [_]) (rest := [_]) d_X12_findFewest_13 lv_X12_101_12 (hS _ _ rfl) rfl ⟨by decide, by decide⟩ rfl (Nat.le_of_ble_eq_true rfl) (by decide) (by decide) ?_
    refine t_X12_cellsOf p ((hex.i 39 26 rfl).trans hpl) (by unfold m_ns at hp; omega) hS hP ?_
    have zce : (I 41 (6 * p + 4) * I 41 (6 * p + 5)).toInt = m_ce Z p := by rw [hex.i 41 _ rfl, hex.i 41 _ rfl]; rfl
    refine w_icmp_ge d_X12_findFewest_16 (fun a16 => ?_) (fun a16 => False.elim (by (try simp (disch := omega) only [x_ti, x_tm1] at a16); rw [zce] at a16; omega))
    refine v_iconst (v := nI 0) d_X12_findFewest_144 x_ic_0 ?_
    refine v_istore_n (ls' := [_, _, _, _, _, _, _, _, _, _, _]) d_X12_findFewest_145 (by decide) rfl ?_
    have e1 : h_m Z p = x_ct (h_mb Z p) c := by unfold h_m; congr 1; omega
    rw [← e1] at r28 r55 r56 hle
    exact hcont I J hex r28 hle r55 r56
  | succ d ih =>
    intro c hd I J hex r28 hle r55 r56
    have hnI := x_hn_cgF hex hn
    have hfI := x_fos_cgF hex hfo
    have hcI := x_ce_cgF hex p
    have h9 : m_ns I = (I 39 2).toInt.toNat := rfl
    have h8 := congrArg Int32.toInt (hex.i 39 24 rfl)
    have h7 : m_nh Z = (Z 39 24).toInt.toNat := rfl
    have hwI : g_ws I := fun k hk => by rw [hex.i 53 k rfl]; exact hws k hk
    refine v_iload_n d_X12_findFewest_7 rfl ?_
    refine v_aload_n d_X12_findFewest_8 rfl ?_
    refine v_aload_n d_X12_findFewest_9 rfl ?_
    refine v_gi d_X12_findFewest_10 lf_X12_53_12 rfl (hS _ _ rfl) ?_
    refine v_cv (as := [_]) (rest := [_]) d_X12_findFewest_13 lv_X12_101_12 (hS _ _ rfl) rfl ⟨by decide, by decide⟩ rfl (Nat.le_of_ble_eq_true rfl) (by decide) (by decide) ?_
    refine t_X12_cellsOf p ((hex.i 39 26 rfl).trans hpl) (by unfold m_ns at hp; omega) hS hP ?_
    have zce : (I 41 (6 * p + 4) * I 41 (6 * p + 5)).toInt = m_ce Z p := by rw [hex.i 41 _ rfl, hex.i 41 _ rfl]; rfl
    refine w_icmp_ge d_X12_findFewest_16 (fun a16 => False.elim (by (try simp (disch := omega) only [x_ti, x_tm1] at a16); rw [zce] at a16; omega)) (fun a16 => ?_)
    refine v_aload_n d_X12_findFewest_19 rfl ?_
    refine v_iload_n d_X12_findFewest_20 rfl ?_
    refine v_cv (as := [_]) (rest := []) d_X12_findFewest_21 lv_X12_238_12 (hS _ _ rfl) rfl ⟨by decide, by decide⟩ rfl (Nat.le_of_ble_eq_true rfl) (by decide) (by decide) ?_
    refine t_X12_mayBeE p c rfl ((hex.i 39 26 rfl).trans hpl) (by rw [x_ns_cgF hex]; exact hp) (by rw [hex.i 39 24 rfl]; exact hh) hwI (by omega) hnI hfI hS hP (fun zm I2 J2 h2 => ?_) (fun zm I2 J2 h2 => ?_)
    · have zm := (r_may_cg hex hh hws (hfo p hp) (show (c : Int) < m_ce Z p by omega) hfo).mp zm
      have zb := h_mb_t zm
      have zy := x_ct_y zb
      have x28 := (h2.i 39 28 rfl).trans r28
      have hx2 := hex.tr h2.up
      refine w_if_ne d_X12_findFewest_24 (fun _ => ?_) (fun h24 => absurd h24 (by decide))
      refine v_aload_n d_X12_findFewest_30 rfl ?_
      refine v_gie d_X12_findFewest_31 lf_X12_241_12 rfl (hS _ _ rfl) (x28) ?_
      refine v_bipush (v := nI 16) d_X12_findFewest_34 x_bp_16 ?_
      refine w_icmp_ne d_X12_findFewest_36 (fun a36 => ?_) (fun a36 => ?_)
      · try simp (disch := omega) only [x_ti, x_tm1] at a36
        refine v_aload_n d_X12_findFewest_42 rfl ?_
        refine v_gr d_X12_findFewest_43 lf_X12_60_12 rfl (hS _ _ rfl) (hP _ _ _ rfl) ?_
        refine v_aload_n d_X12_findFewest_46 rfl ?_
        refine v_gie d_X12_findFewest_47 lf_X12_241_12 rfl (hS _ _ rfl) (x28) ?_
        refine v_iload_n d_X12_findFewest_50 rfl ?_
        refine v_iast _ d_X12_findFewest_51 (rfl) (hS _ _ rfl) (⟨by omega, by omega⟩) ?_
        refine v_iconst (v := nI 0) d_X12_findFewest_52 x_ic_0 ?_
        refine v_istore_n (ls' := [_, _, _, _, _, _, _, _, _, _, _]) d_X12_findFewest_53 (by decide) rfl ?_
        have zho : h_ho Z p (x_ct (h_mb Z p) c) = c := h_fd_eq zb 64 (by omega)
        refine l_ff_h Z J0 p hpl hp hh hws hn hfo (x_ct (h_mb Z p) c) c (by omega) zho (by omega) hS hP ?_ 6 0 (by omega) _ J2 (hx2.ui (a := 55) (k := x_ct (h_mb Z p) c) rfl) x28 (fun k hk => ?_) (fun k u hk hu => (h2.i 56 _ rfl).trans (r56 k u hk hu)) (fun u hu => absurd hu (Nat.not_lt_zero _))
        · intro I3 J3 y1 y2 y3 y4 y5
          refine v_aload_n d_X12_findFewest_128 rfl ?_
          refine v_dup d_X12_findFewest_129 rfl ?_
          refine v_gie d_X12_findFewest_130 lf_X12_241_12 rfl (hS _ _ rfl) (y2) ?_
          refine v_iconst (v := nI 1) d_X12_findFewest_133 x_ic_1 ?_
          refine v_iaddN d_X12_findFewest_134 ?_
          refine v_pi d_X12_findFewest_135 (lp_X12_241_12 _) rfl (hS _ _ rfl) (rfl) rfl ?_
          first | refine v_iinc (ls' := [_, _, _, _, _, _, _, _, _, _, _]) d_X12_findFewest_138 rfl (x_inc_1 _) (by decide) rfl ?_ | refine v_iinc (ls' := [_, _, _, _, _, _, _, _, _, _, _]) d_X12_findFewest_138 rfl rfl (by decide) rfl ?_
          refine v_goto d_X12_findFewest_141 ?_
          refine x_V.fg1 2 (ls' := [_, _, _, _, _, _, _, _, _, _, _]) rfl ?_
          refine ih (c + 1) (by omega) _ J3 (y1.ui (a := 39) (k := 28) rfl) ?_ (by omega) (fun k hk => ?_) (fun k u hk hu => ?_)
          · rw [← zy]; rfl
          · rw [← zy] at hk; exact y3 k hk
          · rw [← zy] at hk
            by_cases e : k = x_ct (h_mb Z p) c
            · subst e; exact y5 u hu
            · exact y4 k u (by omega) hu
        · rw [x_u2_at]
          by_cases e : k = x_ct (h_mb Z p) c
          · rw [if_pos ⟨rfl, e⟩, e, zho]
          · rw [if_neg (fun z => e z.2), h2.i 55 _ rfl]; exact r55 k (by omega)
      · try simp (disch := omega) only [x_ti, x_tm1] at a36
        refine v_bipush (v := (-6)) d_X12_findFewest_39 x_bp_m6 ?_
        refine v_ret (v := some (.int _)) d_X12_findFewest_41 rfl ⟨rfl, _, rfl, rfl⟩ (by decide) (by decide) ?_
        have zbig : 16 < h_m Z p := by
          have := x_ct_mo (h_mb Z p) (show c + 1 ≤ (m_ce Z p).toNat by omega)
          unfold h_m; omega
        refine hK _ I2 J2 hx2 (by unfold q_fst; rw [x_if_t zbig]) (fun w => absurd w (by decide))
    · have zm := fun w => zm ((r_may_cg hex hh hws (hfo p hp) (show (c : Int) < m_ce Z p by omega) hfo).mpr w)
      have zb := h_mb_f zm
      have zy := x_ct_n zb
      rw [Nat.add_zero] at zy
      refine w_if_ne d_X12_findFewest_24 (fun h24 => absurd h24 (by decide)) (fun _ => ?_)
      refine v_goto d_X12_findFewest_27 ?_
      first | refine v_iinc (ls' := [_, _, _, _, _, _, _, _, _, _, _]) d_X12_findFewest_138 rfl (x_inc_1 _) (by decide) rfl ?_ | refine v_iinc (ls' := [_, _, _, _, _, _, _, _, _, _, _]) d_X12_findFewest_138 rfl rfl (by decide) rfl ?_
      refine v_goto d_X12_findFewest_141 ?_
      refine ih (c + 1) (by omega) I2 J2 (hex.tr h2.up) ?_ (by omega) (fun k hk => ?_) (fun k u hk hu => ?_)
      · rw [← zy]; exact (h2.i 39 28 rfl).trans r28
      · rw [← zy] at hk; exact (h2.i 55 _ rfl).trans (r55 k hk)
      · rw [← zy] at hk; exact (h2.i 56 _ rfl).trans (r56 k u hk hu)

