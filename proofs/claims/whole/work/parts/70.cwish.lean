def w_fate (Z : x_I) (o : Option (Nat × Nat)) (v : Int32) : Nat := match o with
  | none => 2
  | some (s, c) => if (Z 42 (64 * s + c)).toInt = v.toInt then 1 else 3
def w_pr (Z : x_I) (what : Int) (e j : Nat) : Bool := w_is Z e j && (decide (what = 0) || decide ((w_fate Z (r_sby Z e j).1 (Z 44 (64 * e + j)) : Int) = what))
theorem r_ans9 {s c : Nat} (h : s < 10) (h2 : c < 64) : ¬ (r_ans (some (s, c))).toInt = -9 := by
  show ¬ (nI (100 * s + c)).toInt = -9
  rw [x_ti (by omega)]; omega
theorem o_in_sby {Z : x_I} (mi : m_I Z) (hnb : m_nb Z = Z) {e j : Nat} (he : e < 4) (hj : (j : Int) < m_ce Z 10) : o_in Z (r_sby Z e j).1 := fun s c h => by
  have hbo := mi.bo
  rw [hnb] at hbo
  have := r_sby_in he mi.es hbo hj mi.fo h
  exact ⟨this.1, this.2.1, this.2.2.1⟩
theorem o_in_seen {Z : x_I} (mi : m_I Z) (hnb : m_nb Z = Z) {x y z : Int} {j : Nat} (hpl : (0 ≤ x ∧ x ≤ 40) ∧ (0 ≤ y ∧ y ≤ 40) ∧ (0 ≤ z ∧ z ≤ 40)) (hj : (j : Int) < m_ce Z 10) : o_in Z (r_seen Z x y z j).1 := fun s c h => by
  have hbo := mi.bo
  rw [hnb] at hbo
  have := r_seen_in hpl hbo hj mi.fo h
  exact ⟨this.1, this.2.1, this.2.2.1⟩
theorem x_ct_a {p : Nat → Bool} {k c : Nat} (h : p k = true) : c + x_ct p k + 1 = c + x_ct p (k + 1) := by rw [Nat.add_assoc, x_ct_y h]
theorem x_ct_b {p : Nat → Bool} {k c : Nat} (h : p k = false) : c + x_ct p k = c + x_ct p (k + 1) := by rw [← x_ct_n h, Nat.add_zero]
theorem w_sum_ct (Z : x_I) (f : Nat → Nat → Bool) (set : Int32) (e : Nat) : w_sum Z f set e = x_ct (fun j => decide (x_bt set e = 1) && f e j) (m_ce Z 10).toNat := by
  unfold w_sum
  by_cases h : x_bt set e = 1
  · rw [if_pos h]; exact x_ct_cg _ (fun k _ => by simp [h])
  · rw [if_neg h]
    have : ∀ n, x_ct (fun j => decide (x_bt set e = 1) && f e j) n = 0 := by
      intro n
      induction n with
      | zero => rfl
      | succ n ih => rw [← x_ct_n (by simp [h]), ih]
    exact (this _).symm
theorem x_ct_4 {p p1 p2 p3 : Nat → Bool} : ∀ n, (∀ k, k < n → (p k = true ↔ (p1 k = true ∨ p2 k = true ∨ p3 k = true)) ∧ ¬ (p1 k = true ∧ p2 k = true) ∧ ¬ (p1 k = true ∧ p3 k = true) ∧ ¬ (p2 k = true ∧ p3 k = true)) → x_ct p n = x_ct p1 n + x_ct p2 n + x_ct p3 n
  | 0, _ => rfl
  | n + 1, h => by
    have ih := x_ct_4 n (fun k hk => h k (by omega))
    have hn := h n (by omega)
    unfold x_ct
    rw [ih]
    cases h1 : p1 n <;> cases h2 : p2 n <;> cases h3 : p3 n <;> cases h0 : p n <;> simp [h0, h1, h2, h3] at hn ⊢ <;> omega

set_option maxRecDepth 100000 in
set_option maxHeartbeats 4000000 in
theorem t_X2_fateOf {K : x_K} {S : x_S} {P : x_P} {I : x_I} {J : x_J} {n : Nat} {x v : Int32} {fa : Nat → Nat} {bd : Nat} {Z : x_I} (hR : c_R fa bd Z S P I J n) (mi : m_I Z) (o : Option (Nat × Nat)) (hx : x = r_ans o) (hi : o_in Z o) (hK : K (some (.int (nI (w_fate Z o v)))) S P I J n) : x_Call f_X2_fateOf [.ref 8, .int x, .int v] K S P I J n := by
  refine x_intro (by decide) 0 (ls := [_, _, _]) rfl (Nat.le_of_ble_eq_true rfl) ?_
  have hS := hR.hS
  have hP := hR.hP
  have hn := mi.hn
  have hfo := mi.fo
  have h9 : m_ns Z = (Z 39 2).toInt.toNat := rfl
  subst hx
  cases o with
  | none =>
    show x_V f_X2_fateOf K 0 [some (.ref 8), some (.int (-9)), some (.int v)] [] S P I J n 0 0
    refine v_iload_n d_X2_fateOf_0 rfl ?_
    refine v_bipush (v := (-9)) d_X2_fateOf_1 x_bp_m9 ?_
    refine w_icmp_ne d_X2_fateOf_3 (fun a3 => False.elim (by exact absurd a3 (by decide))) (fun a3 => ?_)
    refine v_iconst (v := nI 2) d_X2_fateOf_6 x_ic_2 ?_
    refine v_ret (v := some (.int _)) d_X2_fateOf_7 rfl ⟨rfl, _, rfl, rfl⟩ (by decide) (by decide) ?_
    exact hK
  | some w =>
    obtain ⟨s, c⟩ := w
    have hin := hi s c rfl
    refine v_iload_n d_X2_fateOf_0 rfl ?_
    refine v_bipush (v := (-9)) d_X2_fateOf_1 x_bp_m9 ?_
    refine w_icmp_ne d_X2_fateOf_3 (fun a3 => ?_) (fun a3 => False.elim (by exact absurd a3 (fun z => r_ans9 (by omega) hin.2.2 (z.trans (by decide)))))
    refine v_aload_n d_X2_fateOf_8 rfl ?_
    refine v_gr d_X2_fateOf_9 lf_X2_42_2 rfl (hS _ _ rfl) (hP _ _ _ rfl) ?_
    refine v_iload_n d_X2_fateOf_12 rfl ?_
    refine v_cv (as := [_]) (rest := []) d_X2_fateOf_13 lv_X2_106_8 (hS _ _ rfl) rfl ⟨by decide, by decide⟩ rfl (Nat.le_of_ble_eq_true rfl) (by decide) (by decide) ?_
    refine t_X8_colourOf hR mi (some (s, c)) rfl hi ?_
    refine v_iload_n d_X2_fateOf_16 rfl ?_
    refine w_icmp_ne d_X2_fateOf_17 (fun a17 => ?_) (fun a17 => ?_)
    · refine v_iconst (v := nI 3) d_X2_fateOf_24 x_ic_3 ?_
      refine v_ret (v := some (.int _)) d_X2_fateOf_25 rfl ⟨rfl, _, rfl, rfl⟩ (by decide) (by decide) ?_
      have ef : w_fate Z (some (s, c)) v = 3 := if_neg a17
      rw [ef] at hK
      exact hK
    · refine v_iconst (v := nI 1) d_X2_fateOf_20 x_ic_1 ?_
      refine v_goto d_X2_fateOf_21 ?_
      refine v_ret (v := some (.int _)) d_X2_fateOf_25 rfl ⟨rfl, _, rfl, rfl⟩ (by decide) (by decide) ?_
      have ef : w_fate Z (some (s, c)) v = 1 := if_pos a17
      rw [ef] at hK
      exact hK

theorem w_fate_le (Z : x_I) (o : Option (Nat × Nat)) (v : Int32) : w_fate Z o v ≤ 3 := by
  unfold w_fate
  split
  · omega
  · split <;> omega

set_option maxRecDepth 100000 in
set_option maxHeartbeats 4000000 in
theorem l_X2_cw_i {K : x_K} {set what : Int32} {S : x_S} {J : x_J} {n : Nat} {fa : Nat → Nat} {bd : Nat} {Z : x_I} (P0 : x_P) (I0 : x_I) (hR0 : c_R fa bd Z S P0 I0 J n) (mi : m_I Z) (hnb : m_nb Z = Z) (N : Nat) (hN : (N : Int) = m_ce Z 10) (e c0 : Nat) (he : e < 4) (hc : ∀ (P : x_P) (I : x_I), p_ex P0 P → x_ex cE I0 I J J →  x_V f_X2_countWishes K 77 [some (.ref 8), some (.int set), some (.int what), some (.int (nI (c0 + x_ct (fun j => decide (x_bt set e = 1) && w_pr Z what.toInt e j) N))), some (.int (nI e)), some (.int (nI N))] [] S P I J n 0 0) :
    ∀ d k : Nat, k + d = N → ∀ (P : x_P) (I : x_I), p_ex P0 P → x_ex cE I0 I J J →  x_V f_X2_countWishes K 14 [some (.ref 8), some (.int set), some (.int what), some (.int (nI (c0 + x_ct (fun j => decide (x_bt set e = 1) && w_pr Z what.toInt e j) k))), some (.int (nI e)), some (.int (nI k))] [] S P I J n 0 0 := by
  have hn := mi.hn
  have hfo := mi.fo
  have hbo := mi.bo
  rw [hnb] at hbo
  have hbm := m_ce_in hbo
  intro d
  induction d with
  | zero =>
    intro k hd P I hpe hex
    have hR := hR0.cgE hex hpe
    have hS := hR.hS
    have hP := hR.hP
    have hceN := hR.fb.ce
    rw [hnb] at hceN
    have hceN := hceN.trans (x_of' (k := N) (by unfold m_ce at hN; omega))
    refine v_iload d_X2_countWishes_14 rfl ?_
    refine v_aload_n d_X2_countWishes_16 rfl ?_
    refine v_gr d_X2_countWishes_17 lf_X2_38_2 rfl (hS _ _ rfl) (hR.pb) ?_
    refine v_gie d_X2_countWishes_20 lf_X2_63_1 rfl (hR.sb) (hceN) ?_
    refine w_icmp_ge d_X2_countWishes_23 (fun h23 => ?_) (fun h23 => False.elim (by (try simp (disch := omega) only [x_ti, x_tm1] at h23); omega))
    have e1 : k = N := by omega
    subst e1
    exact hc P I hpe hex
  | succ d ih =>
    intro k hd P I hpe hex
    have hR := hR0.cgE hex hpe
    have hS := hR.hS
    have hP := hR.hP
    have hceN := hR.fb.ce
    rw [hnb] at hceN
    have hceN := hceN.trans (x_of' (k := N) (by unfold m_ce at hN; omega))
    refine v_iload d_X2_countWishes_14 rfl ?_
    refine v_aload_n d_X2_countWishes_16 rfl ?_
    refine v_gr d_X2_countWishes_17 lf_X2_38_2 rfl (hS _ _ rfl) (hR.pb) ?_
    refine v_gie d_X2_countWishes_20 lf_X2_63_1 rfl (hR.sb) (hceN) ?_
    refine w_icmp_ge d_X2_countWishes_23 (fun h23 => False.elim (by (try simp (disch := omega) only [x_ti, x_tm1] at h23); omega)) (fun h23 => ?_)
    refine v_aload_n d_X2_countWishes_26 rfl ?_
    refine v_iload_n d_X2_countWishes_27 rfl ?_
    refine v_iload d_X2_countWishes_28 rfl ?_
    refine v_iload d_X2_countWishes_30 rfl ?_
    refine v_cv (as := [_, _, _]) (rest := []) d_X2_countWishes_32 lv_X2_96_2 (hS _ _ rfl) rfl ⟨by decide, by decide⟩ rfl (Nat.le_of_ble_eq_true rfl) (by decide) (by decide) ?_
    refine t_X2_isWish hR mi e k rfl he rfl (by omega) (fun q => ?_) (fun q => ?_)
    · refine w_if_eq d_X2_countWishes_35 (fun h35 => absurd h35 (by decide)) (fun _ => ?_)
      refine v_iload_n d_X2_countWishes_38 rfl ?_
      refine w_if_eq d_X2_countWishes_39 (fun a39 => ?_) (fun a39 => ?_)
      · first | refine v_iinc (ls' := [_, _, _, _, _, _]) d_X2_countWishes_68 rfl (x_inc_1 _) (by decide) rfl ?_ | refine v_iinc (ls' := [_, _, _, _, _, _]) d_X2_countWishes_68 rfl rfl (by decide) rfl ?_
        first | refine v_iinc (ls' := [_, _, _, _, _, _]) d_X2_countWishes_71 rfl (x_inc_1 _) (by decide) rfl ?_ | refine v_iinc (ls' := [_, _, _, _, _, _]) d_X2_countWishes_71 rfl rfl (by decide) rfl ?_
        refine v_goto d_X2_countWishes_74 ?_
        first
          | (rw [x_ct_a (p := (fun j => decide (x_bt set e = 1) && w_pr Z what.toInt e j)) (k := k) (by simp only [w_pr, q.1, q.2, decide_true, Bool.true_and, Bool.or_eq_true, decide_eq_true_eq]; exact Or.inl (by omega))]
             exact ih (k + 1) (by omega) P I (hpe) (hex))
          | (rw [x_ct_a (p := (fun j => decide (x_bt set e = 1) && w_pr Z what.toInt e j)) (k := k) (by simp only [w_pr, q.1, q.2, decide_true, Bool.true_and, Bool.or_eq_true, decide_eq_true_eq]; exact Or.inr (by rw [← a65, x_ti (by have := w_fate_le Z (r_sby Z e k).1 (Z 44 (64 * e + k)); omega)]))]
             exact ih (k + 1) (by omega) P' I' (hpe.tr h1) (hex.tr h2))
          | (rw [x_ct_b (p := (fun j => decide (x_bt set e = 1) && w_pr Z what.toInt e j)) (k := k) (by rw [Bool.eq_false_iff]; intro hq; simp only [w_pr, Bool.and_eq_true, Bool.or_eq_true, decide_eq_true_eq] at hq; exact q ⟨hq.1, hq.2.1⟩)]
             exact ih (k + 1) (by omega) P I (hpe) (hex))
          | (rw [x_ct_b (p := (fun j => decide (x_bt set e = 1) && w_pr Z what.toInt e j)) (k := k) (by rw [Bool.eq_false_iff]; intro hq; simp only [w_pr, Bool.and_eq_true, Bool.or_eq_true, decide_eq_true_eq] at hq; rcases hq.2.2 with h5 | h5; exact a39 h5; exact a65 (by rw [x_ti (by have := w_fate_le Z (r_sby Z e k).1 (Z 44 (64 * e + k)); omega)]; exact h5))]
             exact ih (k + 1) (by omega) P' I' (hpe.tr h1) (hex.tr h2))
      · refine v_aload_n d_X2_countWishes_42 rfl ?_
        refine v_aload_n d_X2_countWishes_43 rfl ?_
        refine v_iload d_X2_countWishes_44 rfl ?_
        refine v_iload d_X2_countWishes_46 rfl ?_
        refine v_cv (as := [_, _]) (rest := [_]) d_X2_countWishes_48 lv_X2_100_2 (hS _ _ rfl) rfl ⟨by decide, by decide⟩ rfl (Nat.le_of_ble_eq_true rfl) (by decide) (by decide) ?_
        refine t_X2_look hR mi hnb e k rfl he rfl (by omega) (fun P' I' h1 h2 => ?_)
        have hP := h1.hP hP
        refine v_aload_n d_X2_countWishes_51 rfl ?_
        refine v_gr d_X2_countWishes_52 lf_X2_17_2 rfl (hS _ _ rfl) (hP _ _ _ rfl) ?_
        refine v_iload d_X2_countWishes_55 rfl ?_
        refine v_aald _ d_X2_countWishes_57 (rfl) (hS _ _ rfl) (by decide) (⟨by omega, by omega⟩) (c_pp hP he) ?_
        refine v_iload d_X2_countWishes_58 rfl ?_
        refine v_iald _ d_X2_countWishes_60 (rfl) (c_sp hS he) (⟨by omega, by omega⟩) ((h2.i (11 + e) k (by rcases (show e = 0 ∨ e = 1 ∨ e = 2 ∨ e = 3 by omega) with rfl | rfl | rfl | rfl <;> rfl)).trans (hR.Pi e k he (by omega))) ?_
        refine v_cv (as := [_, _]) (rest := []) d_X2_countWishes_61 lv_X2_103_2 (hS _ _ rfl) rfl ⟨by decide, by decide⟩ rfl (Nat.le_of_ble_eq_true rfl) (by decide) (by decide) ?_
        refine t_X2_fateOf (hR.cgE h2 h1) mi (r_sby Z e k).1 rfl (o_in_sby mi hnb he (by omega)) ?_
        refine v_iload_n d_X2_countWishes_64 rfl ?_
        refine w_icmp_ne d_X2_countWishes_65 (fun a65 => ?_) (fun a65 => ?_)
        · first | refine v_iinc (ls' := [_, _, _, _, _, _]) d_X2_countWishes_71 rfl (x_inc_1 _) (by decide) rfl ?_ | refine v_iinc (ls' := [_, _, _, _, _, _]) d_X2_countWishes_71 rfl rfl (by decide) rfl ?_
          refine v_goto d_X2_countWishes_74 ?_
          first
            | (rw [x_ct_a (p := (fun j => decide (x_bt set e = 1) && w_pr Z what.toInt e j)) (k := k) (by simp only [w_pr, q.1, q.2, decide_true, Bool.true_and, Bool.or_eq_true, decide_eq_true_eq]; exact Or.inl (by omega))]
               exact ih (k + 1) (by omega) P I (hpe) (hex))
            | (rw [x_ct_a (p := (fun j => decide (x_bt set e = 1) && w_pr Z what.toInt e j)) (k := k) (by simp only [w_pr, q.1, q.2, decide_true, Bool.true_and, Bool.or_eq_true, decide_eq_true_eq]; exact Or.inr (by rw [← a65, x_ti (by have := w_fate_le Z (r_sby Z e k).1 (Z 44 (64 * e + k)); omega)]))]
               exact ih (k + 1) (by omega) P' I' (hpe.tr h1) (hex.tr h2))
            | (rw [x_ct_b (p := (fun j => decide (x_bt set e = 1) && w_pr Z what.toInt e j)) (k := k) (by rw [Bool.eq_false_iff]; intro hq; simp only [w_pr, Bool.and_eq_true, Bool.or_eq_true, decide_eq_true_eq] at hq; exact q ⟨hq.1, hq.2.1⟩)]
               exact ih (k + 1) (by omega) P I (hpe) (hex))
            | (rw [x_ct_b (p := (fun j => decide (x_bt set e = 1) && w_pr Z what.toInt e j)) (k := k) (by rw [Bool.eq_false_iff]; intro hq; simp only [w_pr, Bool.and_eq_true, Bool.or_eq_true, decide_eq_true_eq] at hq; rcases hq.2.2 with h5 | h5; exact a39 h5; exact a65 (by rw [x_ti (by have := w_fate_le Z (r_sby Z e k).1 (Z 44 (64 * e + k)); omega)]; exact h5))]
               exact ih (k + 1) (by omega) P' I' (hpe.tr h1) (hex.tr h2))
        · first | refine v_iinc (ls' := [_, _, _, _, _, _]) d_X2_countWishes_68 rfl (x_inc_1 _) (by decide) rfl ?_ | refine v_iinc (ls' := [_, _, _, _, _, _]) d_X2_countWishes_68 rfl rfl (by decide) rfl ?_
          first | refine v_iinc (ls' := [_, _, _, _, _, _]) d_X2_countWishes_71 rfl (x_inc_1 _) (by decide) rfl ?_ | refine v_iinc (ls' := [_, _, _, _, _, _]) d_X2_countWishes_71 rfl rfl (by decide) rfl ?_
          refine v_goto d_X2_countWishes_74 ?_
          first
            | (rw [x_ct_a (p := (fun j => decide (x_bt set e = 1) && w_pr Z what.toInt e j)) (k := k) (by simp only [w_pr, q.1, q.2, decide_true, Bool.true_and, Bool.or_eq_true, decide_eq_true_eq]; exact Or.inl (by omega))]
               exact ih (k + 1) (by omega) P I (hpe) (hex))
            | (rw [x_ct_a (p := (fun j => decide (x_bt set e = 1) && w_pr Z what.toInt e j)) (k := k) (by simp only [w_pr, q.1, q.2, decide_true, Bool.true_and, Bool.or_eq_true, decide_eq_true_eq]; exact Or.inr (by rw [← a65, x_ti (by have := w_fate_le Z (r_sby Z e k).1 (Z 44 (64 * e + k)); omega)]))]
               exact ih (k + 1) (by omega) P' I' (hpe.tr h1) (hex.tr h2))
            | (rw [x_ct_b (p := (fun j => decide (x_bt set e = 1) && w_pr Z what.toInt e j)) (k := k) (by rw [Bool.eq_false_iff]; intro hq; simp only [w_pr, Bool.and_eq_true, Bool.or_eq_true, decide_eq_true_eq] at hq; exact q ⟨hq.1, hq.2.1⟩)]
               exact ih (k + 1) (by omega) P I (hpe) (hex))
            | (rw [x_ct_b (p := (fun j => decide (x_bt set e = 1) && w_pr Z what.toInt e j)) (k := k) (by rw [Bool.eq_false_iff]; intro hq; simp only [w_pr, Bool.and_eq_true, Bool.or_eq_true, decide_eq_true_eq] at hq; rcases hq.2.2 with h5 | h5; exact a39 h5; exact a65 (by rw [x_ti (by have := w_fate_le Z (r_sby Z e k).1 (Z 44 (64 * e + k)); omega)]; exact h5))]
               exact ih (k + 1) (by omega) P' I' (hpe.tr h1) (hex.tr h2))
    · refine w_if_eq d_X2_countWishes_35 (fun _ => ?_) (fun h35 => absurd h35 (by decide))
      first | refine v_iinc (ls' := [_, _, _, _, _, _]) d_X2_countWishes_71 rfl (x_inc_1 _) (by decide) rfl ?_ | refine v_iinc (ls' := [_, _, _, _, _, _]) d_X2_countWishes_71 rfl rfl (by decide) rfl ?_
      refine v_goto d_X2_countWishes_74 ?_
      first
        | (rw [x_ct_a (p := (fun j => decide (x_bt set e = 1) && w_pr Z what.toInt e j)) (k := k) (by simp only [w_pr, q.1, q.2, decide_true, Bool.true_and, Bool.or_eq_true, decide_eq_true_eq]; exact Or.inl (by omega))]
           exact ih (k + 1) (by omega) P I (hpe) (hex))
        | (rw [x_ct_a (p := (fun j => decide (x_bt set e = 1) && w_pr Z what.toInt e j)) (k := k) (by simp only [w_pr, q.1, q.2, decide_true, Bool.true_and, Bool.or_eq_true, decide_eq_true_eq]; exact Or.inr (by rw [← a65, x_ti (by have := w_fate_le Z (r_sby Z e k).1 (Z 44 (64 * e + k)); omega)]))]
           exact ih (k + 1) (by omega) P' I' (hpe.tr h1) (hex.tr h2))
        | (rw [x_ct_b (p := (fun j => decide (x_bt set e = 1) && w_pr Z what.toInt e j)) (k := k) (by rw [Bool.eq_false_iff]; intro hq; simp only [w_pr, Bool.and_eq_true, Bool.or_eq_true, decide_eq_true_eq] at hq; exact q ⟨hq.1, hq.2.1⟩)]
           exact ih (k + 1) (by omega) P I (hpe) (hex))
        | (rw [x_ct_b (p := (fun j => decide (x_bt set e = 1) && w_pr Z what.toInt e j)) (k := k) (by rw [Bool.eq_false_iff]; intro hq; simp only [w_pr, Bool.and_eq_true, Bool.or_eq_true, decide_eq_true_eq] at hq; rcases hq.2.2 with h5 | h5; exact a39 h5; exact a65 (by rw [x_ti (by have := w_fate_le Z (r_sby Z e k).1 (Z 44 (64 * e + k)); omega)]; exact h5))]
           exact ih (k + 1) (by omega) P' I' (hpe.tr h1) (hex.tr h2))

set_option maxRecDepth 100000 in
set_option maxHeartbeats 4000000 in
theorem l_X2_cw_o {K : x_K} {set what : Int32} {S : x_S} {J : x_J} {n : Nat} {fa : Nat → Nat} {bd : Nat} {Z : x_I} (P0 : x_P) (I0 : x_I) (hR0 : c_R fa bd Z S P0 I0 J n) (mi : m_I Z) (hnb : m_nb Z = Z) (N : Nat) (hN : (N : Int) = m_ce Z 10) (hK : ∀ (P : x_P) (I : x_I), p_ex P0 P → x_ex cE I0 I J J →  K (some (.int (nI (x_sm (fun e => x_ct (fun j => decide (x_bt set e = 1) && w_pr Z what.toInt e j) N) 4)))) S P I J n) :
    ∀ d e : Nat, e + d = 4 → ∀ (P : x_P) (I : x_I), p_ex P0 P → x_ex cE I0 I J J →  x_V f_X2_countWishes K 5 [some (.ref 8), some (.int set), some (.int what), some (.int (nI (x_sm (fun e => x_ct (fun j => decide (x_bt set e = 1) && w_pr Z what.toInt e j) N) e))), some (.int (nI e)), none] [] S P I J n 0 0 := by
  have hn := mi.hn
  have hfo := mi.fo
  have hbo := mi.bo
  rw [hnb] at hbo
  have hbm := m_ce_in hbo
  intro d
  induction d with
  | zero =>
    intro e hd P I hpe hex
    refine v_iload d_X2_countWishes_5 rfl ?_
    refine v_iconst (v := nI 4) d_X2_countWishes_7 x_ic_4 ?_
    refine w_icmp_ge d_X2_countWishes_8 (fun h8 => ?_) (fun h8 => False.elim (by (try simp (disch := omega) only [x_ti, x_tm1] at h8); omega))
    refine v_iload_n d_X2_countWishes_83 rfl ?_
    refine v_ret (v := some (.int _)) d_X2_countWishes_84 rfl ⟨rfl, _, rfl, rfl⟩ (by decide) (by decide) ?_
    have e1 : e = 4 := by omega
    subst e1
    exact hK P I hpe hex
  | succ d ih =>
    intro e hd P I hpe hex
    refine v_iload d_X2_countWishes_5 rfl ?_
    refine v_iconst (v := nI 4) d_X2_countWishes_7 x_ic_4 ?_
    refine w_icmp_ge d_X2_countWishes_8 (fun h8 => False.elim (by (try simp (disch := omega) only [x_ti, x_tm1] at h8); omega)) (fun h8 => ?_)
    refine v_iconst (v := nI 0) d_X2_countWishes_11 x_ic_0 ?_
    refine v_istore (ls' := [_, _, _, _, _, _]) d_X2_countWishes_12 (by decide) rfl ?_
    refine l_X2_cw_i P0 I0 hR0 mi hnb N hN e (x_sm (fun e => x_ct (fun j => decide (x_bt set e = 1) && w_pr Z what.toInt e j) N) e) (by omega) (fun P I hpe hex => ?_) N 0 (by omega) P I hpe hex
    first | refine v_iinc (ls' := [_, _, _, _, _, _]) d_X2_countWishes_77 rfl (x_inc_1 _) (by decide) rfl ?_ | refine v_iinc (ls' := [_, _, _, _, _, _]) d_X2_countWishes_77 rfl rfl (by decide) rfl ?_
    refine v_goto d_X2_countWishes_80 ?_
    refine x_V.fg1 5 (ls' := [_, _, _, _, _, _]) rfl ?_
    exact ih (e + 1) (by omega) P I hpe hex

set_option maxRecDepth 100000 in
set_option maxHeartbeats 4000000 in
theorem t_X2_countWishes {K : x_K} {S : x_S} {P : x_P} {I : x_I} {J : x_J} {n : Nat} {set what : Int32} {fa : Nat → Nat} {bd : Nat} {Z : x_I} (hR : c_R fa bd Z S P I J n) (mi : m_I Z) (hnb : m_nb Z = Z) (N : Nat) (hN : (N : Int) = m_ce Z 10) (hK : ∀ (P' : x_P) (I' : x_I), p_ex P P' → x_ex cE I I' J J → K (some (.int (nI (x_sm (fun e => x_ct (fun j => decide (x_bt set e = 1) && w_pr Z what.toInt e j) N) 4)))) S P' I' J n) : x_Call f_X2_countWishes [.ref 8, .int set, .int what] K S P I J n := by
  refine x_intro (by decide) 3 (ls := [_, _, _, _, _, _]) rfl (Nat.le_of_ble_eq_true rfl) ?_
  refine v_iconst (v := nI 0) d_X2_countWishes_0 x_ic_0 ?_
  refine v_istore_n (ls' := [_, _, _, _, _, _]) d_X2_countWishes_1 (by decide) rfl ?_
  refine v_iconst (v := nI 0) d_X2_countWishes_2 x_ic_0 ?_
  refine v_istore (ls' := [_, _, _, _, _, _]) d_X2_countWishes_3 (by decide) rfl ?_
  exact l_X2_cw_o P I hR mi hnb N hN hK 4 0 (by omega) P I p_ex.rf x_ex.rf

theorem w_cw (Z : x_I) (set what : Int32) (hw : 0 ≤ what.toInt ∧ what.toInt ≤ 3) : nI (x_sm (fun e => x_ct (fun j => decide (x_bt set e = 1) && w_pr Z what.toInt e j) (m_ce Z 10).toNat) 4) = q_wishes0 Z set what := by
  have e0 : ∀ f : Nat → Nat → Bool, x_sm (w_sum Z f set) 4 = x_sm (fun e => x_ct (fun j => decide (x_bt set e = 1) && f e j) (m_ce Z 10).toNat) 4 := fun f => x_sm_cg 4 (fun e _ => w_sum_ct Z f set e)
  have c1 : ∀ e j, w_p1 Z e j = (w_is Z e j && decide ((w_fate Z (r_sby Z e j).1 (Z 44 (64 * e + j)) : Int) = 1)) := fun e j => by
    unfold w_p1 w_met w_fate
    congr 1
    cases (r_sby Z e j).1 with
    | none => simp
    | some v =>
      obtain ⟨s, c⟩ := v
      show decide _ = decide (((if _ then 1 else 3 : Nat) : Int) = 1)
      by_cases q : (Z 42 (64 * s + c)).toInt = (Z 44 (64 * e + j)).toInt
      · rw [if_pos q, decide_eq_true q]; rfl
      · rw [if_neg q, decide_eq_false q]; rfl
  have c2 : ∀ e j, w_p2 Z e j = (w_is Z e j && decide ((w_fate Z (r_sby Z e j).1 (Z 44 (64 * e + j)) : Int) = 2)) := fun e j => by
    unfold w_p2 w_fate
    congr 1
    cases (r_sby Z e j).1 with
    | none => simp
    | some v => obtain ⟨s, c⟩ := v; simp only [Option.isNone]; split <;> simp
  unfold q_wishes0
  rcases (show what.toInt = 0 ∨ what.toInt = 1 ∨ what.toInt = 2 ∨ what.toInt = 3 by omega) with h | h | h | h
  · rw [x_if_t h, e0]
    congr 1
    exact x_sm_cg 4 (fun e _ => x_ct_cg _ (fun j _ => by simp [w_pr, h]))
  · rw [x_if_f (by omega), x_if_t h, e0]
    congr 1
    exact x_sm_cg 4 (fun e _ => x_ct_cg _ (fun j _ => by rw [c1]; simp [w_pr, h]))
  · rw [x_if_f (by omega), x_if_f (by omega), x_if_t h, e0]
    congr 1
    exact x_sm_cg 4 (fun e _ => x_ct_cg _ (fun j _ => by rw [c2]; simp [w_pr, h]))
  · rw [x_if_f (by omega), x_if_f (by omega), x_if_f (by omega)]
    have hs : x_sm (w_sum Z (w_is Z) set) 4 = x_sm (w_sum Z (w_p1 Z) set) 4 + x_sm (w_sum Z (w_p2 Z) set) 4 + x_sm (fun e => x_ct (fun j => decide (x_bt set e = 1) && w_pr Z what.toInt e j) (m_ce Z 10).toNat) 4 := by
      rw [e0, e0, e0]
      have : ∀ e, x_ct (fun j => decide (x_bt set e = 1) && w_is Z e j) (m_ce Z 10).toNat = x_ct (fun j => decide (x_bt set e = 1) && w_p1 Z e j) (m_ce Z 10).toNat + x_ct (fun j => decide (x_bt set e = 1) && w_p2 Z e j) (m_ce Z 10).toNat + x_ct (fun j => decide (x_bt set e = 1) && w_pr Z what.toInt e j) (m_ce Z 10).toNat := fun e => x_ct_4 _ (fun j _ => by
        have hf : w_fate Z (r_sby Z e j).1 (Z 44 (64 * e + j)) = 1 ∨ w_fate Z (r_sby Z e j).1 (Z 44 (64 * e + j)) = 2 ∨ w_fate Z (r_sby Z e j).1 (Z 44 (64 * e + j)) = 3 := by
          unfold w_fate
          split
          · exact Or.inr (Or.inl rfl)
          · split
            · exact Or.inl rfl
            · exact Or.inr (Or.inr rfl)
        simp only [c1, c2, w_pr, h]
        rcases hf with hf | hf | hf <;> rw [hf] <;> cases (decide (x_bt set e = 1)) <;> cases (w_is Z e j) <;> simp)
      simp only [x_sm, this]
      omega
    rw [hs, x_subN (by omega), x_subN (by omega)]
    congr 1
    omega

set_option maxRecDepth 100000 in
set_option maxHeartbeats 4000000 in
theorem t_X11_wishes {K : x_K} {S : x_S} {P : x_P} {I : x_I} {J : x_J} {n : Nat} {set what : Int32} {fa : Nat → Nat} {bd : Nat} {Z : x_I} (hR : c_R fa bd Z S P I J n) (mi : m_I Z) (hK : c_K K (z_wishes Z set what) I J n (.int (q_wishes Z set what))) : x_Call f_X11_wishes [.ref 1, .int set, .int what] K S P I J n := by
  have hS := hR.hS
  have hP := hR.hP
  have hn := mi.hn
  have hfo := mi.fo
  have h9 : m_ns Z = (Z 39 2).toInt.toNat := rfl
  have hbm := m_ce_in mi.bo
  refine x_intro (by decide) 0 (ls := [_, _, _]) rfl (Nat.le_of_ble_eq_true rfl) ?_
  refine v_iload_n d_X11_wishes_0 rfl ?_
  refine v_cs (as := [_]) (rest := []) d_X11_wishes_1 ls_X11_195 rfl ⟨by decide, by decide⟩ rfl (Nat.le_of_ble_eq_true rfl) (by decide) (by decide) ?_
  refine t_X11_isSetOfEyes (fun q1 => ?_) (fun q1 => ?_)
  · refine w_if_eq d_X11_wishes_4 (fun h4 => absurd h4 (by decide)) (fun _ => ?_)
    refine v_iload_n d_X11_wishes_7 rfl ?_
    refine v_iconst (v := nI 0) d_X11_wishes_8 x_ic_0 ?_
    refine v_iconst (v := nI 3) d_X11_wishes_9 x_ic_3 ?_
    refine v_cs (as := [_, _, _]) (rest := []) d_X11_wishes_10 ls_X11_57 rfl ⟨by decide, by decide⟩ rfl (Nat.le_of_ble_eq_true rfl) (by decide) (by decide) ?_
    refine t_X11_within (x_ti (k := 0) (by decide)) (x_ti (k := 3) (by decide)) (fun q2 => ?_) (fun q2 => ?_)
    · refine w_if_ne d_X11_wishes_13 (fun _ => ?_) (fun h13 => absurd h13 (by decide))
      refine v_aload_n d_X11_wishes_19 rfl ?_
      refine v_gr d_X11_wishes_20 lf_X11_39_11 rfl (hS _ _ rfl) (hP _ _ _ rfl) ?_
      refine v_iload_n d_X11_wishes_23 rfl ?_
      refine v_iload_n d_X11_wishes_24 rfl ?_
      refine v_cv (as := [_, _]) (rest := []) d_X11_wishes_25 lv_X11_198_2 (hS _ _ rfl) rfl ⟨by decide, by decide⟩ rfl (Nat.le_of_ble_eq_true rfl) (by decide) (by decide) ?_
      refine t_X2_countWishes (hR.nb hn.2) mi.nb (m_nb_nb Z) (m_ce (m_nb Z) 10).toNat (by omega) (fun P' I' h1 h2 => ?_)
      refine v_ret (v := some (.int _)) d_X11_wishes_28 rfl ⟨rfl, _, rfl, rfl⟩ (by decide) (by decide) ?_
      rw [w_cw (m_nb Z) set what q2]
      have ec0 : (0 ≤ set.toInt ∧ set.toInt ≤ 15) ∧ 0 ≤ what.toInt ∧ what.toInt ≤ 3 := ⟨q1, q2⟩
      simp only [q_wishes, z_wishes, x_if_t ec0] at hK
      exact hK _ _ _ _ _ ⟨fa, bd, (hR.nb hn.2).cgE h2 h1⟩ (h2.EC) (by omega)
    · refine w_if_ne d_X11_wishes_13 (fun h13 => absurd h13 (by decide)) (fun _ => ?_)
      refine v_bipush (v := (-2)) d_X11_wishes_16 x_bp_m2 ?_
      refine v_ret (v := some (.int _)) d_X11_wishes_18 rfl ⟨rfl, _, rfl, rfl⟩ (by decide) (by decide) ?_
      first
        | (have ec0 : ¬ ((0 ≤ set.toInt ∧ set.toInt ≤ 15) ∧ 0 ≤ what.toInt ∧ what.toInt ≤ 3) := fun z => q1 z.1
           simp only [q_wishes, z_wishes, x_if_f ec0] at hK
           exact hK _ _ _ _ _ ⟨fa, bd, hR⟩ (x_ex.rf) (by omega))
        | (have ec0 : ¬ ((0 ≤ set.toInt ∧ set.toInt ≤ 15) ∧ 0 ≤ what.toInt ∧ what.toInt ≤ 3) := fun z => q2 z.2
           simp only [q_wishes, z_wishes, x_if_f ec0] at hK
           exact hK _ _ _ _ _ ⟨fa, bd, hR⟩ (x_ex.rf) (by omega))
  · refine w_if_eq d_X11_wishes_4 (fun _ => ?_) (fun h4 => absurd h4 (by decide))
    refine v_bipush (v := (-2)) d_X11_wishes_16 x_bp_m2 ?_
    refine v_ret (v := some (.int _)) d_X11_wishes_18 rfl ⟨rfl, _, rfl, rfl⟩ (by decide) (by decide) ?_
    first
      | (have ec0 : ¬ ((0 ≤ set.toInt ∧ set.toInt ≤ 15) ∧ 0 ≤ what.toInt ∧ what.toInt ≤ 3) := fun z => q1 z.1
         simp only [q_wishes, z_wishes, x_if_f ec0] at hK
         exact hK _ _ _ _ _ ⟨fa, bd, hR⟩ (x_ex.rf) (by omega))
      | (have ec0 : ¬ ((0 ≤ set.toInt ∧ set.toInt ≤ 15) ∧ 0 ≤ what.toInt ∧ what.toInt ≤ 3) := fun z => q2 z.2
         simp only [q_wishes, z_wishes, x_if_f ec0] at hK
         exact hK _ _ _ _ _ ⟨fa, bd, hR⟩ (x_ex.rf) (by omega))

