/-- what the light of a hole in the plate ends at -/
def r_wy (Z : x_I) (t : Nat) : Nat → Int := fun k => (Z 53 (3 * t + k)).toInt
def r_lit (Z : x_I) (p t c : Nat) : Option (Nat × Nat) × Nat := r_end Z 2 (p : Int) 3 (r_mid Z p c) (r_wy Z t) 0 1
def g_ws (Z : x_I) : Prop := ∀ k, k < 18 → -9 ≤ (Z 53 k).toInt ∧ (Z 53 k).toInt ≤ 9
theorem r_lit_cg {Z Z' : x_I} {J J' : x_J} (h : x_ex mF Z Z' J J') {p t c : Nat} (ht : t < 6) (hws : g_ws Z) (hp : m_fo Z p) (hc : (c : Int) < m_ce Z p) (hfo : ∀ s, s < m_ns Z → m_fo Z s) : r_lit Z' p t c = r_lit Z p t c := by
  have e1 : r_mid Z' p c = r_mid Z p c := funext (fun k => r_mid_cg (fun j => h.i 41 j rfl) p c k)
  have e2 : r_wy Z' t = r_wy Z t := funext (fun k => by unfold r_wy; rw [h.i 53 _ rfl])
  unfold r_lit
  rw [e1, e2]
  exact r_end_cg (fun j => h.i 41 j rfl) (fun s _ => h.i 40 s rfl) (fun s j _ _ => h.i 42 _ rfl) (h.i 39 2 rfl) hfo (Or.inr rfl) 3 0 rfl (fun k _ => by have := r_mid_in hp hc k; omega) (fun k hk => by have := hws (3 * t + k) (by omega); unfold r_wy; omega)
theorem r_lit_in {Z : x_I} {p t c : Nat} (ht : t < 6) (hws : g_ws Z) (hp : m_fo Z p) (hc : (c : Int) < m_ce Z p) (hfo : ∀ s, s < m_ns Z → m_fo Z s) {s d : Nat} (h : (r_lit Z p t c).1 = some (s, d)) : s < m_ns Z ∧ (d : Int) < m_ce Z s ∧ d < 64 ∧ r_tb Z s d = false ∧ ¬ (s : Int) = p :=
  (r_ans_in hfo (Or.inr rfl) 3 0 rfl (fun k _ => by have := r_mid_in hp hc k; omega) (fun k hk => by have := hws (3 * t + k) (by omega); unfold r_wy; omega)).2 h

set_option maxRecDepth 100000 in
set_option maxHeartbeats 4000000 in
theorem l_X12_litBy {K : x_K} {S : x_S} {P : x_P} {J : x_J} {n : Nat} (Z : x_I) (p t c : Nat) (ht : t < 6) (hS : x_hS S) (hP : x_hP P)
    (hc : ∀ I : x_I, x_ex mE Z I J J → (∀ i, i < 3 → (I 50 i).toInt = r_mid Z p c i) → (∀ i, i < 3 → (I 48 i).toInt = r_mid Z p c i ∧ I 49 i = Z 53 (3 * t + i)) → x_V f_X12_litBy K 50 [some (.ref 39), some (.int (nI t)), some (.int (nI c)), some (.int (nI 3))] [] S P I J n 0 0) :
    ∀ d k : Nat, k + d = 3 → ∀ I : x_I, x_ex mE Z I J J → (∀ i, i < 3 → (I 50 i).toInt = r_mid Z p c i) → (∀ i, i < k → (I 48 i).toInt = r_mid Z p c i ∧ I 49 i = Z 53 (3 * t + i)) → x_V f_X12_litBy K 11 [some (.ref 39), some (.int (nI t)), some (.int (nI c)), some (.int (nI k))] [] S P I J n 0 0 := by
  intro d
  induction d with
  | zero =>
    intro k hd I hex hm hr
    refine v_iload_n d_X12_litBy_11 rfl ?_
    refine v_iconst (v := nI 3) d_X12_litBy_12 x_ic_3 ?_
    refine w_icmp_ge d_X12_litBy_13 (fun h13 => ?_) (fun h13 => False.elim (by (try simp (disch := omega) only [x_ti, x_tm1] at h13); omega))
    have e9 : k = 3 := by omega
    subst e9
    exact hc I hex hm hr
  | succ d ih =>
    intro k hd I hex hm hr
    refine v_iload_n d_X12_litBy_11 rfl ?_
    refine v_iconst (v := nI 3) d_X12_litBy_12 x_ic_3 ?_
    refine w_icmp_ge d_X12_litBy_13 (fun h13 => False.elim (by (try simp (disch := omega) only [x_ti, x_tm1] at h13); omega)) (fun h13 => ?_)
    refine v_aload_n d_X12_litBy_16 rfl ?_
    refine v_gr d_X12_litBy_17 lf_X12_34_12 rfl (hS _ _ rfl) (hP _ _ _ rfl) ?_
    refine v_iload_n d_X12_litBy_20 rfl ?_
    refine v_aload_n d_X12_litBy_21 rfl ?_
    refine v_gr d_X12_litBy_22 lf_X12_40_12 rfl (hS _ _ rfl) (hP _ _ _ rfl) ?_
    refine v_iload_n d_X12_litBy_25 rfl ?_
    refine v_iald _ d_X12_litBy_26 (rfl) (hS _ _ rfl) (⟨by omega, by omega⟩) (rfl) ?_
    refine v_iast _ d_X12_litBy_27 (rfl) (hS _ _ rfl) (⟨by omega, by omega⟩) ?_
    refine v_aload_n d_X12_litBy_28 rfl ?_
    refine v_gr d_X12_litBy_29 lf_X12_37_12 rfl (hS _ _ rfl) (hP _ _ _ rfl) ?_
    refine v_iload_n d_X12_litBy_32 rfl ?_
    refine v_aload_n d_X12_litBy_33 rfl ?_
    refine v_gr d_X12_litBy_34 lf_X12_50_12 rfl (hS _ _ rfl) (hP _ _ _ rfl) ?_
    refine v_iconst (v := nI 3) d_X12_litBy_37 x_ic_3 ?_
    refine v_iload_n d_X12_litBy_38 rfl ?_
    first | refine v_imulN d_X12_litBy_39 ?_ | refine v_imul d_X12_litBy_39 ?_
    refine v_iload_n d_X12_litBy_40 rfl ?_
    first | refine v_iaddN d_X12_litBy_41 ?_ | refine v_iadd d_X12_litBy_41 ?_
    refine v_iald _ d_X12_litBy_42 (rfl) (hS _ _ rfl) (⟨by omega, by omega⟩) (rfl) ?_
    refine v_iast _ d_X12_litBy_43 (rfl) (hS _ _ rfl) (⟨by omega, by omega⟩) ?_
    first | refine v_iinc (ls' := [_, _, _, _]) d_X12_litBy_44 rfl (x_inc_1 _) (by decide) rfl ?_ | refine v_iinc (ls' := [_, _, _, _]) d_X12_litBy_44 rfl rfl (by decide) rfl ?_
    refine v_goto d_X12_litBy_47 ?_
    refine ih (k + 1) (by omega) _ ((hex.ui (a := 48) (k := k) rfl).ui (a := 49) (k := k) rfl) hm (fun i hi => ?_)
    by_cases hik : i = k
    · subst hik
      refine ⟨?_, ?_⟩
      · rw [x_u2_na _ _ _ _ (by decide), x_u2_s]; exact hm i (by omega)
      · rw [x_u2_s]; exact hex.i 53 _ rfl
    · simp only [x_u2_nk _ _ _ _ hik]
      exact hr i (by omega)

set_option maxRecDepth 100000 in
set_option maxHeartbeats 4000000 in
theorem t_X12_litBy {K : x_K} {S : x_S} {P : x_P} {I : x_I} {J : x_J} {n : Nat} {x y : Int32} (p t c : Nat) (hx : x = nI t) (ht : t < 6) (hy : y = nI c) (hpl : I 39 26 = nI p) (hp : p < m_ns I) (hws : g_ws I) (hc : (c : Int) < m_ce I p) (hn : 0 ≤ (I 39 2).toInt ∧ (I 39 2).toInt ≤ 10) (hfo : ∀ s, s < m_ns I → m_fo I s) (hS : x_hS S) (hP : x_hP P) (hK : ∀ (I' : x_I) (J' : x_J), x_ex mE I I' J J' → K (some (.int (r_ans (r_lit I p t c).1))) S P I' J' n) : x_Call f_X12_litBy [.ref 39, .int x, .int y] K S P I J n := by
  subst hx hy
  have h9 : m_ns I = (I 39 2).toInt.toNat := rfl
  have hfp := hfo p hp
  have hmc := m_ce_in hfp
  refine x_intro (by decide) 1 (ls := [_, _, _, _]) rfl (Nat.le_of_ble_eq_true rfl) ?_
  refine v_aload_n d_X12_litBy_0 rfl ?_
  refine v_aload_n d_X12_litBy_1 rfl ?_
  refine v_gie d_X12_litBy_2 lf_X12_53_12 rfl (hS _ _ rfl) (hpl) ?_
  refine v_iload_n d_X12_litBy_5 rfl ?_
  refine v_cv (as := [_, _]) (rest := []) d_X12_litBy_6 lv_X12_202_12 (hS _ _ rfl) rfl ⟨by decide, by decide⟩ rfl (Nat.le_of_ble_eq_true rfl) (by decide) (by decide) ?_
  refine t_X12_findMiddle p c rfl (by omega) rfl hfp hc hS hP (fun I0 h0 hm0 => ?_)
  refine v_iconst (v := nI 0) d_X12_litBy_9 x_ic_0 ?_
  refine v_istore_n (ls' := [_, _, _, _]) d_X12_litBy_10 (by decide) rfl ?_
  refine l_X12_litBy I p t c ht hS hP ?_ 3 0 rfl I0 h0 hm0 (fun i hi => absurd hi (Nat.not_lt_zero _))
  intro I1 hx1 hm hr
  have hx2 : x_ex mE I (x_u2 (x_u2 I1 39 14 (nI 2)) 39 15 (nI p)) J J := (hx1.ui (a := 39) (k := 14) rfl).ui (a := 39) (k := 15) rfl
  refine v_aload_n d_X12_litBy_50 rfl ?_
  refine v_iconst (v := nI 2) d_X12_litBy_51 x_ic_2 ?_
  refine v_pi d_X12_litBy_52 (lp_X12_157_12 _) rfl (hS _ _ rfl) (rfl) rfl ?_
  refine v_aload_n d_X12_litBy_55 rfl ?_
  refine v_aload_n d_X12_litBy_56 rfl ?_
  refine v_gie d_X12_litBy_57 lf_X12_53_12 rfl (hS _ _ rfl) ((hx1.i 39 26 rfl).trans hpl) ?_
  refine v_pi d_X12_litBy_60 (lp_X12_183_12 _) rfl (hS _ _ rfl) (rfl) rfl ?_
  refine v_aload_n d_X12_litBy_63 rfl ?_
  refine v_cv (as := []) (rest := []) d_X12_litBy_64 lv_X12_192_12 (hS _ _ rfl) rfl ⟨by decide, by decide⟩ rfl (Nat.le_of_ble_eq_true rfl) (by decide) (by decide) ?_
  refine t_X12_endOf (I := x_u2 (x_u2 I1 39 14 (nI 2)) 39 15 (nI p)) (r_mid I p c) (r_wy I t) (fun k hk => (hr k hk).1) (fun k hk => congrArg Int32.toInt (hr k hk).2) (fun k _ => by have := r_mid_in hfp hc k; omega) (fun k hk => by have := hws (3 * t + k) (by omega); unfold r_wy; omega) (Or.inr (show (nI 2).toInt = 2 by decide)) (x_hn_cg hx2 hn) (x_fos_cg hx2 hfo) hS hP (fun I' J' h1 h2 => ?_)
  refine v_ret (v := some (.int _)) d_X12_litBy_67 rfl ⟨rfl, _, rfl, rfl⟩ (by decide) (by decide) ?_
  have f1 : (x_u2 (x_u2 I1 39 14 (nI 2)) 39 15 (nI p) 39 14).toInt = 2 := show (nI 2).toInt = 2 by decide
  have f2 : (x_u2 (x_u2 I1 39 14 (nI 2)) 39 15 (nI p) 39 15).toInt = (p : Int) := x_ti (by omega)
  have e9 : r_end (x_u2 (x_u2 I1 39 14 (nI 2)) 39 15 (nI p)) 2 (p : Int) 3 (r_mid I p c) (r_wy I t) 0 1 = r_lit I p t c := r_end_cg (fun j => hx2.i 41 j rfl) (fun s _ => hx2.i 40 s rfl) (fun s j _ _ => hx2.i 42 _ rfl) (hx2.i 39 2 rfl) hfo (Or.inr rfl) 3 0 rfl (fun k _ => by have := r_mid_in hfp hc k; omega) (fun k hk => by have := hws (3 * t + k) (by omega); unfold r_wy; omega)
  rw [f1, f2, e9]
  exact hK I' J' (hx2.tr h1)

set_option maxRecDepth 100000 in
set_option maxHeartbeats 4000000 in
theorem t_X12_litBy2 {K : x_K} {S : x_S} {P : x_P} {I : x_I} {J : x_J} {n : Nat} {x y : Int32} (p t c : Nat) (hx : x = nI t) (ht : t < 6) (hy : y = nI c) (hpl : I 39 26 = nI p) (hp : p < m_ns I) (hws : g_ws I) (hc : (c : Int) < m_ce I p) (hn : 0 ≤ (I 39 2).toInt ∧ (I 39 2).toInt ≤ 10) (hfo : ∀ s, s < m_ns I → m_fo I s) (hS : x_hS S) (hP : x_hP P)
    (h1 : (r_lit I p t c).1 = none → ∀ (I' : x_I) (J' : x_J), x_ex mE I I' J J' → K (some (.int (-9))) S P I' J' n) (h2 : ∀ s d : Nat, (r_lit I p t c).1 = some (s, d) → s < m_ns I → (d : Int) < m_ce I s → d < 64 → ∀ (I' : x_I) (J' : x_J), x_ex mE I I' J J' → K (some (.int (nI (100 * s + d)))) S P I' J' n) : x_Call f_X12_litBy [.ref 39, .int x, .int y] K S P I J n := by
  refine t_X12_litBy p t c hx ht hy hpl hp hws hc hn hfo hS hP (fun I' J' h => ?_)
  cases ho : (r_lit I p t c).1 with
  | none => exact h1 ho I' J' h
  | some v =>
    obtain ⟨s, d⟩ := v
    have hin := r_lit_in ht hws (hfo p hp) hc hfo ho
    exact h2 s d ho hin.1 hin.2.1 hin.2.2.1 I' J' h

def g_pt (I : x_I) : Prop := (I 39 26).toInt = -9 ∨ g_sf I (I 39 26)
noncomputable def q_lit (I : x_I) (t c : Int32) : Int32 := x_if ((I 39 26).toInt = -9) (-3) (x_if (g_hr I t ∧ g_ce I (I 39 26) c) (r_ans (r_lit I (x_k (I 39 26)) (x_k t) (x_k c)).1) (-1))
/-- a hole may be: all that it lights is wanted -/
def r_may1 (Z : x_I) (p c t : Nat) : Prop := match (r_lit Z p t c).1 with
  | none => True
  | some (s, d) => ¬ (Z 54 (640 * t + 64 * s + d)).toInt = 0
def r_may (Z : x_I) (p c : Nat) : Prop := ∀ t, t < m_nh Z → r_may1 Z p c t
noncomputable def q_may (I : x_I) (c : Int32) : Int32 := x_if ((I 39 26).toInt = -9) (-3) (x_if (¬ g_ce I (I 39 26) c) (-1) (x_if (r_may I (x_k (I 39 26)) (x_k c)) (nI 1) (nI 0)))

set_option maxRecDepth 100000 in
set_option maxHeartbeats 4000000 in
theorem t_X12_lit {K : x_K} {S : x_S} {P : x_P} {I : x_I} {J : x_J} {n : Nat} {t c : Int32} (hh : 0 ≤ (I 39 24).toInt ∧ (I 39 24).toInt ≤ 6) (hws : g_ws I) (hn : 0 ≤ (I 39 2).toInt ∧ (I 39 2).toInt ≤ 10) (hfo : ∀ s, s < m_ns I → m_fo I s) (hS : x_hS S) (hP : x_hP P) (hK : ∀ (I' : x_I) (J' : x_J), x_ex mE I I' J J' → K (some (.int (q_lit I t c))) S P I' J' n) : x_Call f_X12_lit [.ref 39, .int t, .int c] K S P I J n := by
  have t9 : (-9 : Int32).toInt = -9 := by decide
  have h9 : m_ns I = (I 39 2).toInt.toNat := rfl
  refine x_intro (by decide) 0 (ls := [_, _, _]) rfl (Nat.le_of_ble_eq_true rfl) ?_
  refine v_aload_n d_X12_lit_0 rfl ?_
  refine v_gi d_X12_lit_1 lf_X12_53_12 rfl (hS _ _ rfl) ?_
  refine v_bipush (v := (-9)) d_X12_lit_4 x_bp_m9 ?_
  refine w_icmp_ne d_X12_lit_6 (fun a6 => ?_) (fun a6 => ?_)
  · refine v_aload_n d_X12_lit_12 rfl ?_
    refine v_iload_n d_X12_lit_13 rfl ?_
    refine v_cv (as := [_]) (rest := []) d_X12_lit_14 lv_X12_232_12 (hS _ _ rfl) rfl ⟨by decide, by decide⟩ rfl (Nat.le_of_ble_eq_true rfl) (by decide) (by decide) ?_
    refine t_X12_isHour hS hP (fun qh => ?_) (fun qh => ?_)
    · refine w_if_eq d_X12_lit_17 (fun h17 => absurd h17 (by decide)) (fun _ => ?_)
      refine v_aload_n d_X12_lit_20 rfl ?_
      refine v_aload_n d_X12_lit_21 rfl ?_
      refine v_gi d_X12_lit_22 lf_X12_53_12 rfl (hS _ _ rfl) ?_
      refine v_iload_n d_X12_lit_25 rfl ?_
      refine v_cv (as := [_, _]) (rest := []) d_X12_lit_26 lv_X12_146_12 (hS _ _ rfl) rfl ⟨by decide, by decide⟩ rfl (Nat.le_of_ble_eq_true rfl) (by decide) (by decide) ?_
      refine t_X12_isCell hn.2 hS hP (fun qc => ?_) (fun qc => ?_)
      · refine w_if_eq d_X12_lit_29 (fun h29 => absurd h29 (by decide)) (fun _ => ?_)
        have qc0 := qc
        have qh0 := qh
        have qh : 0 ≤ t.toInt ∧ t.toInt < (I 39 24).toInt := qh
        have qc : (0 ≤ (I 39 26).toInt ∧ (I 39 26).toInt < (I 39 2).toInt) ∧ 0 ≤ c.toInt ∧ c.toInt < m_ce I (x_k (I 39 26)) := qc
        obtain ⟨p, hp, hp1, hp2, hp3⟩ := x_ex1 (s := I 39 26) (by omega)
        rw [hp3] at qc
        obtain ⟨a, rfl, hk_a, t_a, y_a⟩ := x_ex1 (s := t) (by omega)
        obtain ⟨b, rfl, hk_b, t_b, y_b⟩ := x_ex1 (s := c) (by omega)
        refine v_aload_n d_X12_lit_32 rfl ?_
        refine v_iload_n d_X12_lit_33 rfl ?_
        refine v_iload_n d_X12_lit_34 rfl ?_
        refine v_cv (as := [_, _]) (rest := []) d_X12_lit_35 lv_X12_235_12 (hS _ _ rfl) rfl ⟨by decide, by decide⟩ rfl (Nat.le_of_ble_eq_true rfl) (by decide) (by decide) ?_
        refine t_X12_litBy p a b rfl (by omega) rfl hp (by omega) hws (by omega) hn hfo hS hP (fun I' J' h1 => ?_)
        refine v_goto d_X12_lit_38 ?_
        refine v_ret (v := some (.int _)) d_X12_lit_42 rfl ⟨rfl, _, rfl, rfl⟩ (by decide) (by decide) ?_
        simp only [q_lit, x_if_f (show ¬ (I 39 26).toInt = -9 by rw [← t9]; exact a6), x_if_t (show g_hr I (nI a) ∧ g_ce I (I 39 26) (nI b) from ⟨qh0, qc0⟩), hp3, y_a, y_b] at hK
        exact hK I' J' h1
      · refine w_if_eq d_X12_lit_29 (fun _ => ?_) (fun h29 => absurd h29 (by decide))
        refine v_iconst (v := (-1)) d_X12_lit_41 x_ic_m1 ?_
        refine v_ret (v := some (.int _)) d_X12_lit_42 rfl ⟨rfl, _, rfl, rfl⟩ (by decide) (by decide) ?_
        simp only [q_lit, x_if_f (show ¬ (I 39 26).toInt = -9 by rw [← t9]; exact a6), x_if_f (show ¬ (g_hr I t ∧ g_ce I (I 39 26) c) from fun z => by first | exact qh z.1 | exact qc z.2)] at hK
        exact hK I J x_ex.rf
    · refine w_if_eq d_X12_lit_17 (fun _ => ?_) (fun h17 => absurd h17 (by decide))
      refine v_iconst (v := (-1)) d_X12_lit_41 x_ic_m1 ?_
      refine v_ret (v := some (.int _)) d_X12_lit_42 rfl ⟨rfl, _, rfl, rfl⟩ (by decide) (by decide) ?_
      simp only [q_lit, x_if_f (show ¬ (I 39 26).toInt = -9 by rw [← t9]; exact a6), x_if_f (show ¬ (g_hr I t ∧ g_ce I (I 39 26) c) from fun z => by first | exact qh z.1 | exact qc z.2)] at hK
      exact hK I J x_ex.rf
  · refine v_bipush (v := (-3)) d_X12_lit_9 x_bp_m3 ?_
    refine v_ret (v := some (.int _)) d_X12_lit_11 rfl ⟨rfl, _, rfl, rfl⟩ (by decide) (by decide) ?_
    simp only [q_lit, x_if_t (show (I 39 26).toInt = -9 by rw [← t9]; exact a6)] at hK
    exact hK I J x_ex.rf

set_option maxRecDepth 100000 in
set_option maxHeartbeats 4000000 in
theorem l_X12_mayBe {K : x_K} {S : x_S} {P : x_P} {n : Nat} (Z : x_I) (J0 : x_J) (p c : Nat) (hpl : Z 39 26 = nI p) (hp : p < m_ns Z) (hh : 0 ≤ (Z 39 24).toInt ∧ (Z 39 24).toInt ≤ 6) (hws : g_ws Z) (hc : (c : Int) < m_ce Z p) (hn : 0 ≤ (Z 39 2).toInt ∧ (Z 39 2).toInt ≤ 10) (hfo : ∀ s, s < m_ns Z → m_fo Z s) (hS : x_hS S) (hP : x_hP P)
    (ht : r_may Z p c → ∀ (I : x_I) (J : x_J), x_ex mF Z I J0 J → K (some (.int (nI 1))) S P I J n) (hf : ¬ r_may Z p c → ∀ (I : x_I) (J : x_J), x_ex mF Z I J0 J → K (some (.int (nI 0))) S P I J n) :
    ∀ d k : Nat, k + d = m_nh Z → ∀ (I : x_I) (J : x_J), x_ex mF Z I J0 J → (∀ t, t < k → r_may1 Z p c t) → x_V f_X12_mayBe K 2 [some (.ref 39), some (.int (nI c)), some (.int (nI k)), none] [] S P I J n 0 0 := by
  intro d
  have t9 : (-9 : Int32).toInt = -9 := by decide
  induction d with
  | zero =>
    intro k hd I J hex hm
    have hnI := x_hn_cgF hex hn
    have hfI := x_fos_cgF hex hfo
    have hcI := x_ce_cgF hex p
    have h9 : m_ns I = (I 39 2).toInt.toNat := rfl
    have h8 := congrArg Int32.toInt (hex.i 39 24 rfl)
    have h7 : m_nh Z = (Z 39 24).toInt.toNat := rfl
    have hwI : g_ws I := fun k hk => by rw [hex.i 53 k rfl]; exact hws k hk
    refine v_iload_n d_X12_mayBe_2 rfl ?_
    refine v_aload_n d_X12_mayBe_3 rfl ?_
    refine v_gi d_X12_mayBe_4 lf_X12_229_12 rfl (hS _ _ rfl) ?_
    refine w_icmp_ge d_X12_mayBe_7 (fun h7 => ?_) (fun h7 => False.elim (by (try simp (disch := omega) only [x_ti, x_tm1] at h7); omega))
    refine v_iconst (v := nI 1) d_X12_mayBe_57 x_ic_1 ?_
    refine v_ret (v := some (.int _)) d_X12_mayBe_58 rfl ⟨rfl, _, rfl, rfl⟩ (by decide) (by decide) ?_
    exact ht (fun t h => hm t (by omega)) I J hex
  | succ d ih =>
    intro k hd I J hex hm
    have hnI := x_hn_cgF hex hn
    have hfI := x_fos_cgF hex hfo
    have hcI := x_ce_cgF hex p
    have h9 : m_ns I = (I 39 2).toInt.toNat := rfl
    have h8 := congrArg Int32.toInt (hex.i 39 24 rfl)
    have h7 : m_nh Z = (Z 39 24).toInt.toNat := rfl
    have hwI : g_ws I := fun k hk => by rw [hex.i 53 k rfl]; exact hws k hk
    refine v_iload_n d_X12_mayBe_2 rfl ?_
    refine v_aload_n d_X12_mayBe_3 rfl ?_
    refine v_gi d_X12_mayBe_4 lf_X12_229_12 rfl (hS _ _ rfl) ?_
    refine w_icmp_ge d_X12_mayBe_7 (fun h7 => False.elim (by (try simp (disch := omega) only [x_ti, x_tm1] at h7); omega)) (fun h7 => ?_)
    refine v_aload_n d_X12_mayBe_10 rfl ?_
    refine v_iload_n d_X12_mayBe_11 rfl ?_
    refine v_iload_n d_X12_mayBe_12 rfl ?_
    refine v_cv (as := [_, _]) (rest := []) d_X12_mayBe_13 lv_X12_235_12 (hS _ _ rfl) rfl ⟨by decide, by decide⟩ rfl (Nat.le_of_ble_eq_true rfl) (by decide) (by decide) ?_
    refine t_X12_litBy2 p k c rfl (by omega) rfl ((hex.i 39 26 rfl).trans hpl) (by rw [x_ns_cgF hex]; exact hp) hwI (by omega) hnI hfI hS hP (fun ho I2 J2 h2 => ?_) (fun s d0 ho hs hd0 hd6 I2 J2 h2 => ?_)
    · refine v_istore_n (ls' := [_, _, _, _]) d_X12_mayBe_16 (by decide) rfl ?_
      refine v_iload_n d_X12_mayBe_17 rfl ?_
      refine v_bipush (v := (-9)) d_X12_mayBe_18 x_bp_m9 ?_
      refine w_icmp_eq d_X12_mayBe_20 (fun _ => ?_) (fun a20 => absurd a20 (by decide))
      first | refine v_iinc (ls' := [_, _, _, _]) d_X12_mayBe_51 rfl (x_inc_1 _) (by decide) rfl ?_ | refine v_iinc (ls' := [_, _, _, _]) d_X12_mayBe_51 rfl rfl (by decide) rfl ?_
      refine v_goto d_X12_mayBe_54 ?_
      refine x_V.fg1 3 (ls' := [_, _, _, _]) rfl ?_
      rw [r_lit_cg hex (by omega) hws (hfo p hp) hc hfo] at ho
      refine ih (k + 1) (by omega) I2 J2 (hex.tr h2.up) (fun t ht => ?_)
      by_cases htk : t = k
      · subst htk
        unfold r_may1
        rw [ho]
        trivial
      · exact hm t (by omega)
    · refine v_istore_n (ls' := [_, _, _, _]) d_X12_mayBe_16 (by decide) rfl ?_
      refine v_iload_n d_X12_mayBe_17 rfl ?_
      refine v_bipush (v := (-9)) d_X12_mayBe_18 x_bp_m9 ?_
      refine w_icmp_eq d_X12_mayBe_20 (fun a20 => False.elim (by rw [x_ti (by omega), t9] at a20; omega)) (fun a20 => ?_)
      rw [r_lit_cg hex (by omega) hws (hfo p hp) hc hfo] at ho
      have hsZ : s < m_ns Z := by rw [← x_ns_cgF hex]; exact hs
      have hs10 : s < 10 := by unfold m_ns at hsZ; omega
      have hx2 := hex.tr h2.up
      have d1 : (100 * s + d0) / 100 = s := by omega
      have d2 : (100 * s + d0) % 100 = d0 := by omega
      refine v_aload_n d_X12_mayBe_23 rfl ?_
      refine v_gr d_X12_mayBe_24 lf_X12_57_12 rfl (hS _ _ rfl) (hP _ _ _ rfl) ?_
      refine v_sipush (v := nI 640) d_X12_mayBe_27 x_sp_640 ?_
      refine v_iload_n d_X12_mayBe_30 rfl ?_
      first | refine v_imulN d_X12_mayBe_31 ?_ | refine v_imul d_X12_mayBe_31 ?_
      refine v_bipush (v := nI 64) d_X12_mayBe_32 x_bp_64 ?_
      refine v_iload_n d_X12_mayBe_34 rfl ?_
      refine v_bipush (v := nI 100) d_X12_mayBe_35 x_bp_100 ?_
      refine v_idiv d_X12_mayBe_37 (by decide) ?_
      rw [x_divN (by omega) (by decide) (by decide), d1]
      first | refine v_imulN d_X12_mayBe_38 ?_ | refine v_imul d_X12_mayBe_38 ?_
      first | refine v_iaddN d_X12_mayBe_39 ?_ | refine v_iadd d_X12_mayBe_39 ?_
      refine v_iload_n d_X12_mayBe_40 rfl ?_
      refine v_bipush (v := nI 100) d_X12_mayBe_41 x_bp_100 ?_
      refine v_irem d_X12_mayBe_43 (by decide) ?_
      rw [x_remN (by omega) (by decide) (by decide), d2]
      first | refine v_iaddN d_X12_mayBe_44 ?_ | refine v_iadd d_X12_mayBe_44 ?_
      refine v_zald _ d_X12_mayBe_45 (rfl) (hS _ _ rfl) (⟨by omega, by omega⟩) (hx2.i 54 (640 * k + 64 * s + d0) rfl) ?_
      refine w_if_ne d_X12_mayBe_46 (fun a46 => ?_) (fun a46 => ?_)
      · first | refine v_iinc (ls' := [_, _, _, _]) d_X12_mayBe_51 rfl (x_inc_1 _) (by decide) rfl ?_ | refine v_iinc (ls' := [_, _, _, _]) d_X12_mayBe_51 rfl rfl (by decide) rfl ?_
        refine v_goto d_X12_mayBe_54 ?_
        refine x_V.fg1 3 (ls' := [_, _, _, _]) rfl ?_
        refine ih (k + 1) (by omega) I2 J2 (hex.tr h2.up) (fun t ht => ?_)
        by_cases htk : t = k
        · subst htk
          unfold r_may1
          rw [ho]
          exact a46
        · exact hm t (by omega)
      · refine v_iconst (v := nI 0) d_X12_mayBe_49 x_ic_0 ?_
        refine v_ret (v := some (.int _)) d_X12_mayBe_50 rfl ⟨rfl, _, rfl, rfl⟩ (by decide) (by decide) ?_
        exact hf (fun z => by have h1 := z k (by omega); unfold r_may1 at h1; rw [ho] at h1; exact h1 a46) I2 J2 hx2

set_option maxRecDepth 100000 in
set_option maxHeartbeats 4000000 in
theorem t_X12_mayBe {K : x_K} {S : x_S} {P : x_P} {I : x_I} {J : x_J} {n : Nat} {y : Int32} (p c : Nat) (hy : y = nI c) (hpl : I 39 26 = nI p) (hp : p < m_ns I) (hh : 0 ≤ (I 39 24).toInt ∧ (I 39 24).toInt ≤ 6) (hws : g_ws I) (hc : (c : Int) < m_ce I p) (hn : 0 ≤ (I 39 2).toInt ∧ (I 39 2).toInt ≤ 10) (hfo : ∀ s, s < m_ns I → m_fo I s) (hS : x_hS S) (hP : x_hP P) (ht : r_may I p c → ∀ (I' : x_I) (J' : x_J), x_ex mF I I' J J' → K (some (.int (nI 1))) S P I' J' n) (hf : ¬ r_may I p c → ∀ (I' : x_I) (J' : x_J), x_ex mF I I' J J' → K (some (.int (nI 0))) S P I' J' n) : x_Call f_X12_mayBe [.ref 39, .int y] K S P I J n := by
  subst hy
  refine x_intro (by decide) 2 (ls := [_, _, _, _]) rfl (Nat.le_of_ble_eq_true rfl) ?_
  refine v_iconst (v := nI 0) d_X12_mayBe_0 x_ic_0 ?_
  refine v_istore_n (ls' := [_, _, _, _]) d_X12_mayBe_1 (by decide) rfl ?_
  exact l_X12_mayBe I J p c hpl hp hh hws hc hn hfo hS hP ht hf (m_nh I) 0 (by omega) I J x_ex.rf (fun t h => absurd h (Nat.not_lt_zero _))

set_option maxRecDepth 100000 in
set_option maxHeartbeats 4000000 in
theorem t_X12_may {K : x_K} {S : x_S} {P : x_P} {I : x_I} {J : x_J} {n : Nat} {c : Int32} (hh : 0 ≤ (I 39 24).toInt ∧ (I 39 24).toInt ≤ 6) (hws : g_ws I) (hn : 0 ≤ (I 39 2).toInt ∧ (I 39 2).toInt ≤ 10) (hfo : ∀ s, s < m_ns I → m_fo I s) (hS : x_hS S) (hP : x_hP P) (hK : ∀ (I' : x_I) (J' : x_J), x_ex mF I I' J J' → K (some (.int (q_may I c))) S P I' J' n) : x_Call f_X12_may [.ref 39, .int c] K S P I J n := by
  have t9 : (-9 : Int32).toInt = -9 := by decide
  have h9 : m_ns I = (I 39 2).toInt.toNat := rfl
  refine x_intro (by decide) 0 (ls := [_, _]) rfl (Nat.le_of_ble_eq_true rfl) ?_
  refine v_aload_n d_X12_may_0 rfl ?_
  refine v_gi d_X12_may_1 lf_X12_53_12 rfl (hS _ _ rfl) ?_
  refine v_bipush (v := (-9)) d_X12_may_4 x_bp_m9 ?_
  refine w_icmp_ne d_X12_may_6 (fun a6 => ?_) (fun a6 => ?_)
  · refine v_aload_n d_X12_may_12 rfl ?_
    refine v_aload_n d_X12_may_13 rfl ?_
    refine v_gi d_X12_may_14 lf_X12_53_12 rfl (hS _ _ rfl) ?_
    refine v_iload_n d_X12_may_17 rfl ?_
    refine v_cv (as := [_, _]) (rest := []) d_X12_may_18 lv_X12_146_12 (hS _ _ rfl) rfl ⟨by decide, by decide⟩ rfl (Nat.le_of_ble_eq_true rfl) (by decide) (by decide) ?_
    refine t_X12_isCell hn.2 hS hP (fun qc => ?_) (fun qc => ?_)
    · refine w_if_ne d_X12_may_21 (fun _ => ?_) (fun h21 => absurd h21 (by decide))
      have qc0 := qc
      have qc : (0 ≤ (I 39 26).toInt ∧ (I 39 26).toInt < (I 39 2).toInt) ∧ 0 ≤ c.toInt ∧ c.toInt < m_ce I (x_k (I 39 26)) := qc
      obtain ⟨p, hp, hp1, hp2, hp3⟩ := x_ex1 (s := I 39 26) (by omega)
      rw [hp3] at qc
      obtain ⟨b, rfl, hk_b, t_b, y_b⟩ := x_ex1 (s := c) (by omega)
      refine v_aload_n d_X12_may_26 rfl ?_
      refine v_iload_n d_X12_may_27 rfl ?_
      refine v_cv (as := [_]) (rest := []) d_X12_may_28 lv_X12_238_12 (hS _ _ rfl) rfl ⟨by decide, by decide⟩ rfl (Nat.le_of_ble_eq_true rfl) (by decide) (by decide) ?_
      refine t_X12_mayBe p b rfl hp (by omega) hh hws (by omega) hn hfo hS hP (fun qm I' J' h1 => ?_) (fun qm I' J' h1 => ?_)
      · refine w_if_eq d_X12_may_31 (fun h31 => absurd h31 (by decide)) (fun _ => ?_)
        refine v_iconst (v := nI 1) d_X12_may_34 x_ic_1 ?_
        refine v_goto d_X12_may_35 ?_
        refine v_ret (v := some (.int _)) d_X12_may_39 rfl ⟨rfl, _, rfl, rfl⟩ (by decide) (by decide) ?_
        simp only [q_may, x_if_f (show ¬ (I 39 26).toInt = -9 by rw [← t9]; exact a6), x_if_f (show ¬ (¬ g_ce I (I 39 26) (nI b)) from fun z => z qc0), hp3, y_b, x_if_t qm] at hK
        exact hK I' J' h1
      · refine w_if_eq d_X12_may_31 (fun _ => ?_) (fun h31 => absurd h31 (by decide))
        refine v_iconst (v := nI 0) d_X12_may_38 x_ic_0 ?_
        refine v_ret (v := some (.int _)) d_X12_may_39 rfl ⟨rfl, _, rfl, rfl⟩ (by decide) (by decide) ?_
        simp only [q_may, x_if_f (show ¬ (I 39 26).toInt = -9 by rw [← t9]; exact a6), x_if_f (show ¬ (¬ g_ce I (I 39 26) (nI b)) from fun z => z qc0), hp3, y_b, x_if_f qm] at hK
        exact hK I' J' h1
    · refine w_if_ne d_X12_may_21 (fun h21 => absurd h21 (by decide)) (fun _ => ?_)
      refine v_iconst (v := (-1)) d_X12_may_24 x_ic_m1 ?_
      refine v_ret (v := some (.int _)) d_X12_may_25 rfl ⟨rfl, _, rfl, rfl⟩ (by decide) (by decide) ?_
      simp only [q_may, x_if_f (show ¬ (I 39 26).toInt = -9 by rw [← t9]; exact a6), x_if_t (show ¬ g_ce I (I 39 26) c from qc)] at hK
      exact hK I J x_ex.rf
  · refine v_bipush (v := (-3)) d_X12_may_9 x_bp_m3 ?_
    refine v_ret (v := some (.int _)) d_X12_may_11 rfl ⟨rfl, _, rfl, rfl⟩ (by decide) (by decide) ?_
    simp only [q_may, x_if_t (show (I 39 26).toInt = -9 by rw [← t9]; exact a6)] at hK
    exact hK I J x_ex.rf

