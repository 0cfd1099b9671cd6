set_option maxRecDepth 100000 in
set_option maxHeartbeats 4000000 in
theorem t_X3_clear {K : x_K} {S : x_S} {P : x_P} {I : x_I} {J : x_J} {n : Nat} (hS : x_hS S) (hP : x_hP P) (hK : K none S P (x_u2 (x_u2 (x_u2 I 24 6 (nI 0)) 24 8 (nI 0)) 24 7 (nI 0)) J n) : x_Call f_X3_clear [.ref 24] K S P I J n := by
  refine x_intro (by decide) 0 (ls := [_]) rfl (Nat.le_of_ble_eq_true rfl) ?_
  refine v_aload_n d_X3_clear_0 rfl ?_
  refine v_iconst (v := nI 0) d_X3_clear_1 x_ic_0 ?_
  refine v_pi d_X3_clear_2 (lp_X3_31_3 _) rfl (hS _ _ rfl) (rfl) rfl ?_
  refine v_aload_n d_X3_clear_5 rfl ?_
  refine v_iconst (v := nI 0) d_X3_clear_6 x_ic_0 ?_
  refine v_pi d_X3_clear_7 (lp_X3_35_3 _) rfl (hS _ _ rfl) (rfl) rfl ?_
  refine v_aload_n d_X3_clear_10 rfl ?_
  refine v_iconst (v := nI 0) d_X3_clear_11 x_ic_0 ?_
  refine v_pi d_X3_clear_12 (lp_X3_38_3 _) rfl (hS _ _ rfl) (rfl) rfl ?_
  refine v_ret (v := none) d_X3_clear_15 rfl ⟨rfl, rfl⟩ (by decide) (by decide) ?_
  exact hK

set_option maxRecDepth 100000 in
set_option maxHeartbeats 4000000 in
theorem t_X3_isFull {K : x_K} {S : x_S} {P : x_P} {I : x_I} {J : x_J} {n : Nat} (k : Nat) (hk : k ≤ 16) (hc : I 24 6 = nI k) (hS : x_hS S) (hP : x_hP P) (ht : k = 16 → K (some (.int (nI 1))) S P I J n) (hf : ¬ (k = 16) → K (some (.int (nI 0))) S P I J n) : x_Call f_X3_isFull [.ref 24] K S P I J n := by
  refine x_intro (by decide) 0 (ls := [_]) rfl (Nat.le_of_ble_eq_true rfl) ?_
  refine v_aload_n d_X3_isFull_0 rfl ?_
  refine v_gie d_X3_isFull_1 lf_X3_31_3 rfl (hS _ _ rfl) (hc) ?_
  refine v_bipush (v := nI 16) d_X3_isFull_4 x_bp_16 ?_
  refine w_icmp_lt d_X3_isFull_6 (fun h6 => ?_) (fun h6 => ?_)
  · try simp (disch := omega) only [x_ti, x_tm1] at h6
    refine v_iconst (v := nI 0) d_X3_isFull_13 x_ic_0 ?_
    refine v_ret (v := some (.int _)) d_X3_isFull_14 rfl ⟨rfl, _, rfl, rfl⟩ (by decide) (by decide) ?_
    exact hf (by omega)
  · try simp (disch := omega) only [x_ti, x_tm1] at h6
    refine v_iconst (v := nI 1) d_X3_isFull_9 x_ic_1 ?_
    refine v_goto d_X3_isFull_10 ?_
    refine v_ret (v := some (.int _)) d_X3_isFull_14 rfl ⟨rfl, _, rfl, rfl⟩ (by decide) (by decide) ?_
    exact ht (by omega)

set_option maxRecDepth 100000 in
set_option maxHeartbeats 4000000 in
theorem l_X3_first {K : x_K} {S : x_S} {P : x_P} {I : x_I} {J : x_J} {n : Nat} {v : Int32} (e : Nat → Int32) (k0 t : Nat) (hk0 : k0 < 16) (ht : t < 6) (hc : I 24 6 = nI (k0 + 1)) (he : ∀ j, j < k0 → I 26 (6 * j + t) = e j) (hS : x_hS S) (hP : x_hP P) (hK : ∀ f, f ≤ k0 → (∀ j, j < f → ¬ (e j).toInt = v.toInt) → (f < k0 → (e f).toInt = v.toInt) → K (some (.int (nI f))) S P I J n) : ∀ d k : Nat, k + d = k0 → (∀ j, j < k → ¬ (e j).toInt = v.toInt) → x_V f_X3_firstWith K 2 [some (.ref 24), some (.int (nI t)), some (.int v), some (.int (nI k))] [] S P I J n 0 0 := by
  intro d
  induction d with
  | zero =>
    intro k hd hj
    refine v_iload_n d_X3_firstWith_2 rfl ?_
    refine v_aload_n d_X3_firstWith_3 rfl ?_
    refine v_gie d_X3_firstWith_4 lf_X3_31_3 rfl (hS _ _ rfl) (hc) ?_
    refine v_iconst (v := nI 1) d_X3_firstWith_7 x_ic_1 ?_
    refine v_isub d_X3_firstWith_8 ?_
    rw [x_subN (by omega), Nat.add_sub_cancel]
    refine w_icmp_ge d_X3_firstWith_9 (fun h9 => ?_) (fun h9 => False.elim (by (try simp (disch := omega) only [x_ti, x_tm1] at h9); omega))
    refine v_iload_n d_X3_firstWith_33 rfl ?_
    refine v_ret (v := some (.int _)) d_X3_firstWith_34 rfl ⟨rfl, _, rfl, rfl⟩ (by decide) (by decide) ?_
    exact hK k (by omega) hj (fun w => by omega)
  | succ d ih =>
    intro k hd hj
    refine v_iload_n d_X3_firstWith_2 rfl ?_
    refine v_aload_n d_X3_firstWith_3 rfl ?_
    refine v_gie d_X3_firstWith_4 lf_X3_31_3 rfl (hS _ _ rfl) (hc) ?_
    refine v_iconst (v := nI 1) d_X3_firstWith_7 x_ic_1 ?_
    refine v_isub d_X3_firstWith_8 ?_
    rw [x_subN (by omega), Nat.add_sub_cancel]
    refine w_icmp_ge d_X3_firstWith_9 (fun h9 => False.elim (by (try simp (disch := omega) only [x_ti, x_tm1] at h9); omega)) (fun h9 => ?_)
    refine v_aload_n d_X3_firstWith_12 rfl ?_
    refine v_gr d_X3_firstWith_13 lf_X3_15_3 rfl (hS _ _ rfl) (hP _ _ _ rfl) ?_
    refine v_iload_n d_X3_firstWith_16 rfl ?_
    refine v_bipush (v := nI 6) d_X3_firstWith_17 x_bp_6 ?_
    first | refine v_imulN d_X3_firstWith_19 ?_ | refine v_imul d_X3_firstWith_19 ?_
    refine v_iload_n d_X3_firstWith_20 rfl ?_
    first | refine v_iaddN d_X3_firstWith_21 ?_ | refine v_iadd d_X3_firstWith_21 ?_
    refine v_iald (6 * k + t) d_X3_firstWith_22 (by rw [Nat.mul_comm]) (hS _ _ rfl) (⟨by omega, by omega⟩) (he k (by omega)) ?_
    refine v_iload_n d_X3_firstWith_23 rfl ?_
    refine w_icmp_eq d_X3_firstWith_24 (fun a24 => ?_) (fun a24 => ?_)
    · refine v_iload_n d_X3_firstWith_33 rfl ?_
      refine v_ret (v := some (.int _)) d_X3_firstWith_34 rfl ⟨rfl, _, rfl, rfl⟩ (by decide) (by decide) ?_
      exact hK k (by omega) hj (fun _ => a24)
    · first | refine v_iinc (ls' := [_, _, _, _]) d_X3_firstWith_27 rfl (x_inc_1 _) (by decide) rfl ?_ | refine v_iinc (ls' := [_, _, _, _]) d_X3_firstWith_27 rfl rfl (by decide) rfl ?_
      refine v_goto d_X3_firstWith_30 ?_
      refine ih (k + 1) (by omega) (fun j h1 => ?_)
      by_cases w : j = k
      · subst w; exact a24
      · exact hj j (by omega)

set_option maxRecDepth 100000 in
set_option maxHeartbeats 4000000 in
theorem t_X3_first {K : x_K} {S : x_S} {P : x_P} {I : x_I} {J : x_J} {n : Nat} {x v : Int32} (e : Nat → Int32) (k0 t : Nat) (hk0 : k0 < 16) (ht : t < 6) (hc : I 24 6 = nI (k0 + 1)) (he : ∀ j, j < k0 → I 26 (6 * j + t) = e j) (hx : x = nI t) (hS : x_hS S) (hP : x_hP P) (hK : ∀ f, f ≤ k0 → (∀ j, j < f → ¬ (e j).toInt = v.toInt) → (f < k0 → (e f).toInt = v.toInt) → K (some (.int (nI f))) S P I J n) : x_Call f_X3_firstWith [.ref 24, .int x, .int v] K S P I J n := by
  subst hx
  refine x_intro (by decide) 1 (ls := [_, _, _, _]) rfl (Nat.le_of_ble_eq_true rfl) ?_
  refine v_iconst (v := nI 0) d_X3_firstWith_0 x_ic_0 ?_
  refine v_istore_n (ls' := [_, _, _, _]) d_X3_firstWith_1 (by decide) rfl ?_
  exact l_X3_first e k0 t hk0 ht hc he hS hP hK k0 0 (by omega) (fun j hj => absurd hj (Nat.not_lt_zero _))

def mA (a k : Nat) : Bool := Nat.beq a 25 || (Nat.beq a 26 || (Nat.beq a 27 || (Nat.beq a 28 || (Nat.beq a 24 && (Nat.beq k 6 || Nat.beq k 7)))))
theorem mA_F {a k : Nat} (h : cF a k = false) : mA a k = false := by
  cases hc : mA a k with
  | false => rfl
  | true =>
    unfold mA at hc
    simp only [Bool.or_eq_true, Bool.and_eq_true, Nat.beq_eq] at hc
    have h2 : a = 24 ∨ a = 25 ∨ a = 26 ∨ a = 27 ∨ a = 28 := by omega
    rcases h2 with rfl | rfl | rfl | rfl | rfl <;> cases h
theorem x_ex.AF {I I' : x_I} {J J' : x_J} (h : x_ex mA I I' J J') : x_ex cF I I' J J' := fun a k hk => h a k (mA_F hk)

set_option maxRecDepth 100000 in
set_option maxHeartbeats 4000000 in
theorem l_X3_add {K : x_K} {S : x_S} {P : x_P} {n : Nat} (I0 I1 : x_I) (J0 : x_J) (L : Nat → Nat → Option Nat) (e : Nat → Nat → Int32) (k0 c T : Nat) (hk0 : k0 < 16) (hT : T ≤ 6) (hneg : ∀ t, t < T → ((e k0 t).toInt < 0 ↔ L k0 t = none)) (heq : ∀ j t, j ≤ k0 → t < T → ((e j t).toInt = (e k0 t).toInt ↔ L j t = L k0 t)) (hend : ∀ t, t < T → I0 23 t = e k0 t) (hS : x_hS S) (hP : x_hP P) (hcont : ∀ (I : x_I) (J : x_J), x_ex mA I0 I J0 J → I 24 6 = nI (k0 + 1) → (∀ k t, k < k0 → t < T → I 26 (6 * k + t) = e k t) → (∀ u, u < T → I 26 (6 * k0 + u) = e k0 u) → (∀ k, k < k0 → J 27 k = J0 27 k ∧ J 28 k = J0 28 k) → (∀ b, b < 128 → (p_on J k0 b = true ↔ p_b L k0 T b)) → I 25 = I1 25 → I 24 7 = I0 24 7 → x_V f_X3_add K 149 [some (.ref 24), some (.int (nI c)), some (.ref 23), some (.int (nI T)), some (.int (nI k0)), some (.int (nI T)), none, none] [] S P I J n 0 0) :
    ∀ d t : Nat, t + d = T → ∀ (I : x_I) (J : x_J), x_ex mA I0 I J0 J → I 24 6 = nI (k0 + 1) → (∀ k t, k < k0 → t < T → I 26 (6 * k + t) = e k t) → (∀ u, u < t → I 26 (6 * k0 + u) = e k0 u) → (∀ k, k < k0 → J 27 k = J0 27 k ∧ J 28 k = J0 28 k) → (∀ b, b < 128 → (p_on J k0 b = true ↔ p_b L k0 t b)) → I 25 = I1 25 → I 24 7 = I0 24 7 → x_V f_X3_add K 43 [some (.ref 24), some (.int (nI c)), some (.ref 23), some (.int (nI T)), some (.int (nI k0)), some (.int (nI t)), none, none] [] S P I J n 0 0 := by
  intro d
  induction d with
  | zero =>
    intro t hd I J hex r6 r26 r26b r27 rb r25 r7
    refine v_iload d_X3_add_43 rfl ?_
    refine v_iload_n d_X3_add_45 rfl ?_
    refine w_icmp_ge d_X3_add_46 (fun h46 => ?_) (fun h46 => False.elim (by (try simp (disch := omega) only [x_ti, x_tm1] at h46); omega))
    have e1 : t = T := by omega
    subst e1
    exact hcont I J hex r6 r26 r26b r27 rb r25 r7
  | succ d ih =>
    intro t hd I J hex r6 r26 r26b r27 rb r25 r7
    by_cases zo : L k0 t = none
    · refine v_iload d_X3_add_43 rfl ?_
      refine v_iload_n d_X3_add_45 rfl ?_
      refine w_icmp_ge d_X3_add_46 (fun h46 => False.elim (by (try simp (disch := omega) only [x_ti, x_tm1] at h46); omega)) (fun h46 => ?_)
      refine v_iload d_X3_add_49 rfl ?_
      refine v_aload_n d_X3_add_51 rfl ?_
      refine v_alen d_X3_add_52 (hS _ _ rfl) (by decide) ?_
      refine w_icmp_ge d_X3_add_53 (fun h53 => False.elim (by (try simp (disch := omega) only [x_ti, x_tm1] at h53); omega)) (fun h53 => ?_)
      refine v_aload_n d_X3_add_56 rfl ?_
      refine v_iload d_X3_add_57 rfl ?_
      refine v_iald _ d_X3_add_59 (rfl) (hS _ _ rfl) (⟨by omega, by omega⟩) ((hex.i 23 t rfl).trans (hend t (by omega))) ?_
      refine v_istore (ls' := [_, _, _, _, _, _, _, _]) d_X3_add_60 (by decide) rfl ?_
      refine v_aload_n d_X3_add_62 rfl ?_
      refine v_gr d_X3_add_63 lf_X3_15_3 rfl (hS _ _ rfl) (hP _ _ _ rfl) ?_
      refine v_iload d_X3_add_66 rfl ?_
      refine v_bipush (v := nI 6) d_X3_add_68 x_bp_6 ?_
      first | refine v_imulN d_X3_add_70 ?_ | refine v_imul d_X3_add_70 ?_
      refine v_iload d_X3_add_71 rfl ?_
      first | refine v_iaddN d_X3_add_73 ?_ | refine v_iadd d_X3_add_73 ?_
      refine v_iload d_X3_add_74 rfl ?_
      refine v_iast (6 * k0 + t) d_X3_add_76 (by rw [Nat.mul_comm]) (hS _ _ rfl) (⟨by omega, by omega⟩) ?_
      refine v_iload d_X3_add_77 rfl ?_
      refine w_if_lt d_X3_add_79 (fun a79 => ?_) (fun a79 => False.elim (by exact absurd ((hneg t (by omega)).mpr zo) (by omega)))
      first | refine v_iinc (ls' := [_, _, _, _, _, _, _, _]) d_X3_add_143 rfl (x_inc_1 _) (by decide) rfl ?_ | refine v_iinc (ls' := [_, _, _, _, _, _, _, _]) d_X3_add_143 rfl rfl (by decide) rfl ?_
      refine v_goto d_X3_add_146 ?_
      refine x_V.fg1 6 (ls' := [_, _, _, _, _, _, _, _]) rfl ?_
      refine ih (t + 1) (by omega) _ J (hex.ui rfl) r6 (fun k u hk hu => by rw [x_u2_nk _ _ _ _ (by omega)]; exact r26 k u hk hu) (fun u hu => by
        rw [x_u2_at]
        by_cases w : u = t
        · rw [if_pos ⟨rfl, by rw [w]⟩, w]
        · rw [if_neg (by omega)]; exact r26b u (by omega)) r27 (fun b hb => ?_) r25 r7
      rw [rb b hb]
      constructor
      · intro ⟨u, f, q1, q2, q3, q4, q5, q6⟩; exact ⟨u, f, by omega, q2, q3, q4, q5, q6⟩
      · intro ⟨u, f, q1, q2, q3, q4, q5, q6⟩
        exact ⟨u, f, Nat.lt_of_le_of_ne (by omega) (fun w => q4 (by rw [w]; exact zo)), q2, q3, q4, q5, q6⟩
    · refine v_iload d_X3_add_43 rfl ?_
      refine v_iload_n d_X3_add_45 rfl ?_
      refine w_icmp_ge d_X3_add_46 (fun h46 => False.elim (by (try simp (disch := omega) only [x_ti, x_tm1] at h46); omega)) (fun h46 => ?_)
      refine v_iload d_X3_add_49 rfl ?_
      refine v_aload_n d_X3_add_51 rfl ?_
      refine v_alen d_X3_add_52 (hS _ _ rfl) (by decide) ?_
      refine w_icmp_ge d_X3_add_53 (fun h53 => False.elim (by (try simp (disch := omega) only [x_ti, x_tm1] at h53); omega)) (fun h53 => ?_)
      refine v_aload_n d_X3_add_56 rfl ?_
      refine v_iload d_X3_add_57 rfl ?_
      refine v_iald _ d_X3_add_59 (rfl) (hS _ _ rfl) (⟨by omega, by omega⟩) ((hex.i 23 t rfl).trans (hend t (by omega))) ?_
      refine v_istore (ls' := [_, _, _, _, _, _, _, _]) d_X3_add_60 (by decide) rfl ?_
      refine v_aload_n d_X3_add_62 rfl ?_
      refine v_gr d_X3_add_63 lf_X3_15_3 rfl (hS _ _ rfl) (hP _ _ _ rfl) ?_
      refine v_iload d_X3_add_66 rfl ?_
      refine v_bipush (v := nI 6) d_X3_add_68 x_bp_6 ?_
      first | refine v_imulN d_X3_add_70 ?_ | refine v_imul d_X3_add_70 ?_
      refine v_iload d_X3_add_71 rfl ?_
      first | refine v_iaddN d_X3_add_73 ?_ | refine v_iadd d_X3_add_73 ?_
      refine v_iload d_X3_add_74 rfl ?_
      refine v_iast (6 * k0 + t) d_X3_add_76 (by rw [Nat.mul_comm]) (hS _ _ rfl) (⟨by omega, by omega⟩) ?_
      refine v_iload d_X3_add_77 rfl ?_
      refine w_if_lt d_X3_add_79 (fun a79 => False.elim (by exact zo ((hneg t (by omega)).mp a79))) (fun a79 => ?_)
      refine v_aload_n d_X3_add_82 rfl ?_
      refine v_iload d_X3_add_83 rfl ?_
      refine v_iload d_X3_add_85 rfl ?_
      refine v_cv (as := [_, _]) (rest := []) d_X3_add_87 lv_X3_41_3 (hS _ _ rfl) rfl ⟨by decide, by decide⟩ rfl (Nat.le_of_ble_eq_true rfl) (by decide) (by decide) ?_
      refine t_X3_first (fun j => e j t) k0 t hk0 (by omega) r6 (fun j hj => by rw [x_u2_nk _ _ _ _ (by omega)]; exact r26 j t hj (by omega)) rfl hS hP (fun f zf1 zf2 zf3 => ?_)
      have zL : L f t = L k0 t := by
        by_cases w : f = k0
        · rw [w]
        · exact (heq f t zf1 (by omega)).mp (zf3 (by omega))
      have zn : ∀ f', f' < f → ¬ L f' t = L k0 t := fun f' hf' w => zf2 f' hf' ((heq f' t (by omega) (by omega)).mpr w)
      refine v_istore (ls' := [_, _, _, _, _, _, _, _]) d_X3_add_90 (by decide) rfl ?_
      refine v_iload d_X3_add_92 rfl ?_
      refine v_iconst (v := nI 4) d_X3_add_94 x_ic_4 ?_
      refine w_icmp_ge d_X3_add_95 (fun a95 => ?_) (fun a95 => ?_)
      · try simp (disch := omega) only [x_ti, x_tm1] at a95
        refine v_aload_n d_X3_add_121 rfl ?_
        refine v_gr d_X3_add_122 lf_X3_22_3 rfl (hS _ _ rfl) (hP _ _ _ rfl) ?_
        refine v_iload d_X3_add_125 rfl ?_
        refine v_dup2 d_X3_add_127 rfl rfl ?_
        refine v_lald _ d_X3_add_128 (rfl) (hS _ _ rfl) (⟨by omega, by omega⟩) (rfl) ?_
        refine v_lconst (v := 1) d_X3_add_129 rfl ?_
        refine v_bipush (v := nI 16) d_X3_add_130 x_bp_16 ?_
        refine v_iload d_X3_add_132 rfl ?_
        refine v_iconst (v := nI 4) d_X3_add_134 x_ic_4 ?_
        refine v_isub d_X3_add_135 ?_
        rw [x_subN (by omega)]
        refine v_imulN d_X3_add_136 ?_
        refine v_iload d_X3_add_137 rfl ?_
        refine v_iaddN d_X3_add_139 ?_
        refine v_lshl d_X3_add_140 ?_
        refine v_lor d_X3_add_141 ?_
        refine v_last _ d_X3_add_142 (rfl) (hS _ _ rfl) (⟨by omega, by omega⟩) ?_
        first | refine v_iinc (ls' := [_, _, _, _, _, _, _, _]) d_X3_add_143 rfl (x_inc_1 _) (by decide) rfl ?_ | refine v_iinc (ls' := [_, _, _, _, _, _, _, _]) d_X3_add_143 rfl rfl (by decide) rfl ?_
        refine v_goto d_X3_add_146 ?_
        first
          | (refine x_V.fg1 6 (ls' := [_, _, _, _, _, _, _, _]) rfl ?_
             refine x_V.fg1 7 (ls' := [_, _, _, _, _, _, _, _]) rfl ?_
             refine ih (t + 1) (by omega) _ _ ((hex.ui (a := 26) (k := 6 * k0 + t) rfl).uj (a := 27) (k := k0) rfl) r6 (fun k u hk hu => by rw [x_u2_nk _ _ _ _ (by omega)]; exact r26 k u hk hu) (fun u hu => by
               rw [x_u2_at]
               by_cases w : u = t
               · rw [if_pos ⟨rfl, by rw [w]⟩, w]
               · rw [if_neg (by omega)]; exact r26b u (by omega)) (fun k hk => ⟨(x_u2_nk _ _ _ _ (by omega)).trans (r27 k hk).1, (r27 k hk).2⟩) (fun b hb => ?_) r25 r7
             show x_on (x_u2 J 27 k0 _ 27 k0) (J 28 k0) b = true ↔ _
             rw [x_u2_s, x_on_lo2 (by omega)]
             change (p_on J k0 b || _) = true ↔ _
             rw [Bool.or_eq_true, rb b hb, decide_eq_true_eq]
             constructor
             · intro q
               rcases q with ⟨u, f', q1, q2, q3, q4, q5, q6⟩ | q
               · exact ⟨u, f', by omega, q2, q3, q4, q5, q6⟩
               · exact ⟨t, f, by omega, zf1, by omega, zo, zL, zn⟩
             · intro ⟨u, f', q1, q2, q3, q4, q5, q6⟩
               by_cases w : u = t
               · subst w
                 have ef : f' = f := by
                   rcases Nat.lt_trichotomy f' f with v | v | v
                   · exact absurd q5 (zn f' v)
                   · exact v
                   · exact absurd zL (q6 f v)
                 exact Or.inr (by omega)
               · exact Or.inl ⟨u, f', by omega, q2, q3, q4, q5, q6⟩)
          | (refine x_V.fg1 6 (ls' := [_, _, _, _, _, _, _, _]) rfl ?_
             refine x_V.fg1 7 (ls' := [_, _, _, _, _, _, _, _]) rfl ?_
             refine ih (t + 1) (by omega) _ _ ((hex.ui (a := 26) (k := 6 * k0 + t) rfl).uj (a := 28) (k := k0) rfl) r6 (fun k u hk hu => by rw [x_u2_nk _ _ _ _ (by omega)]; exact r26 k u hk hu) (fun u hu => by
               rw [x_u2_at]
               by_cases w : u = t
               · rw [if_pos ⟨rfl, by rw [w]⟩, w]
               · rw [if_neg (by omega)]; exact r26b u (by omega)) (fun k hk => ⟨(r27 k hk).1, (x_u2_nk _ _ _ _ (by omega)).trans (r27 k hk).2⟩) (fun b hb => ?_) r25 r7
             show x_on (J 27 k0) (x_u2 J 28 k0 _ 28 k0) b = true ↔ _
             rw [x_u2_s, x_on_hi2 (by omega)]
             change (p_on J k0 b || _) = true ↔ _
             rw [Bool.or_eq_true, rb b hb, decide_eq_true_eq]
             constructor
             · intro q
               rcases q with ⟨u, f', q1, q2, q3, q4, q5, q6⟩ | q
               · exact ⟨u, f', by omega, q2, q3, q4, q5, q6⟩
               · exact ⟨t, f, by omega, zf1, by omega, zo, zL, zn⟩
             · intro ⟨u, f', q1, q2, q3, q4, q5, q6⟩
               by_cases w : u = t
               · subst w
                 have ef : f' = f := by
                   rcases Nat.lt_trichotomy f' f with v | v | v
                   · exact absurd q5 (zn f' v)
                   · exact v
                   · exact absurd zL (q6 f v)
                 exact Or.inr (by omega)
               · exact Or.inl ⟨u, f', by omega, q2, q3, q4, q5, q6⟩)
      · try simp (disch := omega) only [x_ti, x_tm1] at a95
        refine v_aload_n d_X3_add_98 rfl ?_
        refine v_gr d_X3_add_99 lf_X3_18_3 rfl (hS _ _ rfl) (hP _ _ _ rfl) ?_
        refine v_iload d_X3_add_102 rfl ?_
        refine v_dup2 d_X3_add_104 rfl rfl ?_
        refine v_lald _ d_X3_add_105 (rfl) (hS _ _ rfl) (⟨by omega, by omega⟩) (rfl) ?_
        refine v_lconst (v := 1) d_X3_add_106 rfl ?_
        refine v_bipush (v := nI 16) d_X3_add_107 x_bp_16 ?_
        refine v_iload d_X3_add_109 rfl ?_
        refine v_imulN d_X3_add_111 ?_
        refine v_iload d_X3_add_112 rfl ?_
        refine v_iaddN d_X3_add_114 ?_
        refine v_lshl d_X3_add_115 ?_
        refine v_lor d_X3_add_116 ?_
        refine v_last _ d_X3_add_117 (rfl) (hS _ _ rfl) (⟨by omega, by omega⟩) ?_
        refine v_goto d_X3_add_118 ?_
        first | refine v_iinc (ls' := [_, _, _, _, _, _, _, _]) d_X3_add_143 rfl (x_inc_1 _) (by decide) rfl ?_ | refine v_iinc (ls' := [_, _, _, _, _, _, _, _]) d_X3_add_143 rfl rfl (by decide) rfl ?_
        refine v_goto d_X3_add_146 ?_
        first
          | (refine x_V.fg1 6 (ls' := [_, _, _, _, _, _, _, _]) rfl ?_
             refine x_V.fg1 7 (ls' := [_, _, _, _, _, _, _, _]) rfl ?_
             refine ih (t + 1) (by omega) _ _ ((hex.ui (a := 26) (k := 6 * k0 + t) rfl).uj (a := 27) (k := k0) rfl) r6 (fun k u hk hu => by rw [x_u2_nk _ _ _ _ (by omega)]; exact r26 k u hk hu) (fun u hu => by
               rw [x_u2_at]
               by_cases w : u = t
               · rw [if_pos ⟨rfl, by rw [w]⟩, w]
               · rw [if_neg (by omega)]; exact r26b u (by omega)) (fun k hk => ⟨(x_u2_nk _ _ _ _ (by omega)).trans (r27 k hk).1, (r27 k hk).2⟩) (fun b hb => ?_) r25 r7
             show x_on (x_u2 J 27 k0 _ 27 k0) (J 28 k0) b = true ↔ _
             rw [x_u2_s, x_on_lo2 (by omega)]
             change (p_on J k0 b || _) = true ↔ _
             rw [Bool.or_eq_true, rb b hb, decide_eq_true_eq]
             constructor
             · intro q
               rcases q with ⟨u, f', q1, q2, q3, q4, q5, q6⟩ | q
               · exact ⟨u, f', by omega, q2, q3, q4, q5, q6⟩
               · exact ⟨t, f, by omega, zf1, by omega, zo, zL, zn⟩
             · intro ⟨u, f', q1, q2, q3, q4, q5, q6⟩
               by_cases w : u = t
               · subst w
                 have ef : f' = f := by
                   rcases Nat.lt_trichotomy f' f with v | v | v
                   · exact absurd q5 (zn f' v)
                   · exact v
                   · exact absurd zL (q6 f v)
                 exact Or.inr (by omega)
               · exact Or.inl ⟨u, f', by omega, q2, q3, q4, q5, q6⟩)
          | (refine x_V.fg1 6 (ls' := [_, _, _, _, _, _, _, _]) rfl ?_
             refine x_V.fg1 7 (ls' := [_, _, _, _, _, _, _, _]) rfl ?_
             refine ih (t + 1) (by omega) _ _ ((hex.ui (a := 26) (k := 6 * k0 + t) rfl).uj (a := 28) (k := k0) rfl) r6 (fun k u hk hu => by rw [x_u2_nk _ _ _ _ (by omega)]; exact r26 k u hk hu) (fun u hu => by
               rw [x_u2_at]
               by_cases w : u = t
               · rw [if_pos ⟨rfl, by rw [w]⟩, w]
               · rw [if_neg (by omega)]; exact r26b u (by omega)) (fun k hk => ⟨(r27 k hk).1, (x_u2_nk _ _ _ _ (by omega)).trans (r27 k hk).2⟩) (fun b hb => ?_) r25 r7
             show x_on (J 27 k0) (x_u2 J 28 k0 _ 28 k0) b = true ↔ _
             rw [x_u2_s, x_on_hi2 (by omega)]
             change (p_on J k0 b || _) = true ↔ _
             rw [Bool.or_eq_true, rb b hb, decide_eq_true_eq]
             constructor
             · intro q
               rcases q with ⟨u, f', q1, q2, q3, q4, q5, q6⟩ | q
               · exact ⟨u, f', by omega, q2, q3, q4, q5, q6⟩
               · exact ⟨t, f, by omega, zf1, by omega, zo, zL, zn⟩
             · intro ⟨u, f', q1, q2, q3, q4, q5, q6⟩
               by_cases w : u = t
               · subst w
                 have ef : f' = f := by
                   rcases Nat.lt_trichotomy f' f with v | v | v
                   · exact absurd q5 (zn f' v)
                   · exact v
                   · exact absurd zL (q6 f v)
                 exact Or.inr (by omega)
               · exact Or.inl ⟨u, f', by omega, q2, q3, q4, q5, q6⟩)

set_option maxRecDepth 100000 in
set_option maxHeartbeats 4000000 in
theorem t_X3_add {K : x_K} {S : x_S} {P : x_P} {I : x_I} {J : x_J} {n : Nat} {x y : Int32} (L : Nat → Nat → Option Nat) (e : Nat → Nat → Int32) (k0 c T : Nat) (hk0 : k0 < 16) (hT : T ≤ 6) (hneg : ∀ t, t < T → ((e k0 t).toInt < 0 ↔ L k0 t = none)) (heq : ∀ j t, j ≤ k0 → t < T → ((e j t).toInt = (e k0 t).toInt ↔ L j t = L k0 t)) (hend : ∀ t, t < T → I 23 t = e k0 t) (M : Nat) (hM : I 24 7 = nI M) (hM8 : M ≤ 128) (hc6 : I 24 6 = nI k0) (h26 : ∀ k t, k < k0 → t < T → I 26 (6 * k + t) = e k t) (hx : x = nI c) (hy : y = nI T) (hS : x_hS S) (hP : x_hP P) (hK : ∀ (I' : x_I) (J' : x_J) (M' : Nat), x_ex mA I I' J J' → I' 24 6 = nI (k0 + 1) → (∀ k t, k < k0 + 1 → t < T → I' 26 (6 * k + t) = e k t) → (∀ k, k < k0 → J' 27 k = J 27 k ∧ J' 28 k = J 28 k) → (∀ b, b < 128 → (p_on J' k0 b = true ↔ p_b L k0 T b)) → (∀ k, k < k0 → I' 25 k = I 25 k) → I' 25 k0 = nI c → I' 24 7 = nI M' → M ≤ M' → M' ≤ 128 → x_ct (p_on J' k0) 128 ≤ M' → K none S P I' J' n) : x_Call f_X3_add [.ref 24, .int x, .ref 23, .int y] K S P I J n := by
  subst hx hy
  refine x_intro (by decide) 4 (ls := [_, _, _, _, _, _, _, _]) rfl (Nat.le_of_ble_eq_true rfl) ?_
  refine v_aload_n d_X3_add_0 rfl ?_
  refine v_gie d_X3_add_1 lf_X3_31_3 rfl (hS _ _ rfl) (hc6) ?_
  refine v_istore (ls' := [_, _, _, _, _, _, _, _]) d_X3_add_4 (by decide) rfl ?_
  refine v_aload_n d_X3_add_6 rfl ?_
  refine v_gr d_X3_add_7 lf_X3_9_3 rfl (hS _ _ rfl) (hP _ _ _ rfl) ?_
  refine v_iload d_X3_add_10 rfl ?_
  refine v_iload_n d_X3_add_12 rfl ?_
  refine v_iast _ d_X3_add_13 (rfl) (hS _ _ rfl) (⟨by omega, by omega⟩) ?_
  refine v_aload_n d_X3_add_14 rfl ?_
  refine v_gr d_X3_add_15 lf_X3_18_3 rfl (hS _ _ rfl) (hP _ _ _ rfl) ?_
  refine v_iload d_X3_add_18 rfl ?_
  refine v_lconst (v := 0) d_X3_add_20 rfl ?_
  refine v_last _ d_X3_add_21 (rfl) (hS _ _ rfl) (⟨by omega, by omega⟩) ?_
  refine v_aload_n d_X3_add_22 rfl ?_
  refine v_gr d_X3_add_23 lf_X3_22_3 rfl (hS _ _ rfl) (hP _ _ _ rfl) ?_
  refine v_iload d_X3_add_26 rfl ?_
  refine v_lconst (v := 0) d_X3_add_28 rfl ?_
  refine v_last _ d_X3_add_29 (rfl) (hS _ _ rfl) (⟨by omega, by omega⟩) ?_
  refine v_aload_n d_X3_add_30 rfl ?_
  refine v_dup d_X3_add_31 rfl ?_
  refine v_gie d_X3_add_32 lf_X3_31_3 rfl (hS _ _ rfl) (hc6) ?_
  refine v_iconst (v := nI 1) d_X3_add_35 x_ic_1 ?_
  refine v_iaddN d_X3_add_36 ?_
  refine v_pi d_X3_add_37 (lp_X3_31_3 _) rfl (hS _ _ rfl) (rfl) rfl ?_
  refine v_iconst (v := nI 0) d_X3_add_40 x_ic_0 ?_
  refine v_istore (ls' := [_, _, _, _, _, _, _, _]) d_X3_add_41 (by decide) rfl ?_
  have hx0 : x_ex mA I (x_u2 (x_u2 I 25 k0 (nI c)) 24 6 (nI (k0 + 1))) J (x_u2 (x_u2 J 27 k0 0) 28 k0 0) := (((x_ex.rf.ui rfl).uj rfl).uj rfl).ui rfl
  refine l_X3_add (x_u2 (x_u2 I 25 k0 (nI c)) 24 6 (nI (k0 + 1))) (x_u2 I 25 k0 (nI c)) (x_u2 (x_u2 J 27 k0 0) 28 k0 0) L e k0 c T hk0 hT hneg heq hend hS hP ?_ T 0 (by omega) _ _ x_ex.rf rfl h26 (fun u hu => absurd hu (Nat.not_lt_zero _)) (fun k hk => ⟨rfl, rfl⟩) (fun b hb => ?_) rfl rfl
  · intro I2 J2 hex r6 r26 r26b r27 rb r25 r7
    have r7 : I2 24 7 = I 24 7 := r7
    refine v_aload_n d_X3_add_149 rfl ?_
    refine v_aload_n d_X3_add_150 rfl ?_
    refine v_gie d_X3_add_151 lf_X3_38_3 rfl (hS _ _ rfl) (r7.trans hM) ?_
    refine v_aload_n d_X3_add_154 rfl ?_
    refine v_gr d_X3_add_155 lf_X3_18_3 rfl (hS _ _ rfl) (hP _ _ _ rfl) ?_
    refine v_iload d_X3_add_158 rfl ?_
    refine v_lald _ d_X3_add_160 (rfl) (hS _ _ rfl) (⟨by omega, by omega⟩) (rfl) ?_
    refine v_cs (as := [_]) (rest := [_, _]) d_X3_add_161 ls_X3_45 rfl ⟨by decide, by decide⟩ rfl (Nat.le_of_ble_eq_true rfl) (by decide) (by decide) ?_
    refine t_bitL ?_
    refine v_aload_n d_X3_add_164 rfl ?_
    refine v_gr d_X3_add_165 lf_X3_22_3 rfl (hS _ _ rfl) (hP _ _ _ rfl) ?_
    refine v_iload d_X3_add_168 rfl ?_
    refine v_lald _ d_X3_add_170 (rfl) (hS _ _ rfl) (⟨by omega, by omega⟩) (rfl) ?_
    refine v_cs (as := [_]) (rest := [_, _, _]) d_X3_add_171 ls_X3_45 rfl ⟨by decide, by decide⟩ rfl (Nat.le_of_ble_eq_true rfl) (by decide) (by decide) ?_
    refine t_bitL ?_
    refine v_iaddN d_X3_add_174 ?_
    rw [x_on_pc]
    have zle := x_ct_le (x_on (J2 27 k0) (J2 28 k0)) 128
    refine v_max d_X3_add_175 lm_X3_51 lm_st lm_in lm_cd (by decide) (Nat.le_of_ble_eq_true rfl) (by decide) (by decide) ?_
    have zmx : (if nI M < nI (x_ct (x_on (J2 27 k0) (J2 28 k0)) 128) then nI (x_ct (x_on (J2 27 k0) (J2 28 k0)) 128) else nI M) = nI (if M < x_ct (x_on (J2 27 k0) (J2 28 k0)) 128 then x_ct (x_on (J2 27 k0) (J2 28 k0)) 128 else M) := by
      by_cases w : M < x_ct (x_on (J2 27 k0) (J2 28 k0)) 128
      · rw [if_pos w, if_pos (by rw [Int32.lt_iff_toInt_lt, x_ti (by omega), x_ti (by omega)]; omega)]
      · rw [if_neg w, if_neg (by rw [Int32.lt_iff_toInt_lt, x_ti (by omega), x_ti (by omega)]; omega)]
    rw [zmx]
    refine v_pi d_X3_add_178 (lp_X3_38_3 _) rfl (hS _ _ rfl) (rfl) rfl ?_
    refine v_ret (v := none) d_X3_add_181 rfl ⟨rfl, rfl⟩ (by decide) (by decide) ?_
    have zpo : x_ct (p_on J2 k0) 128 = x_ct (x_on (J2 27 k0) (J2 28 k0)) 128 := rfl
    refine hK _ J2 _ (hx0.tr (hex.ui rfl)) r6 (fun k t hk ht => ?_) (fun k hk => ⟨by rw [(r27 k hk).1, x_u2_na _ _ _ _ (by decide), x_u2_nk _ _ _ _ (by omega)], by rw [(r27 k hk).2, x_u2_nk _ _ _ _ (by omega), x_u2_na _ _ _ _ (by decide)]⟩) rb (fun k hk => ?_) ?_ rfl (by split <;> omega) (by split <;> omega) (by rw [zpo]; split <;> omega)
    · by_cases w : k = k0
      · subst w; exact r26b t ht
      · exact r26 k t (by omega) ht
    · exact (congrFun r25 k).trans (x_u2_nk _ _ _ _ (by omega))
    · exact (congrFun r25 k0).trans (x_u2_s _ _ _ _)
  · have z1 : x_u2 (x_u2 J 27 k0 0) 28 k0 0 27 k0 = 0 := by rw [x_u2_na _ _ _ _ (by decide), x_u2_s]
    have z2 : p_on (x_u2 (x_u2 J 27 k0 0) 28 k0 0) k0 b = false := by
      unfold p_on x_on
      rw [z1, x_u2_s]
      split <;> exact x_lb_0 _
    rw [z2]
    exact ⟨(fun z => by cases z), fun ⟨u, f, q1, _⟩ => by omega⟩

