theorem x_blt' {a b : Nat} (h : b ≤ a) : Nat.blt a b = false := by
  cases hc : Nat.blt a b with
  | true => exact absurd (Nat.le_of_ble_eq_true hc) (by omega)
  | false => rfl

theorem cC_no {a k : Nat} (h : cC a k = false) : ¬ (1 ≤ a ∧ a ≤ 38) ∧ ¬ 63 ≤ a :=
  ⟨(fun z => by rw [cC_lo z.1 z.2] at h; cases h), (fun z => by rw [cC_hi z] at h; cases h)⟩
theorem x_P0_hi {b k : Nat} (h : 63 ≤ b) : x_P0 b k = none := by
  unfold x_P0
  simp [show Nat.blt b 20 = false from x_blt' (by omega), show Nat.blt b 31 = false from x_blt' (by omega), show Nat.blt b 32 = false from x_blt' (by omega), show Nat.blt b 39 = false from x_blt' (by omega), x_bne (show b ≠ 39 by omega)]

set_option maxRecDepth 100000 in
set_option maxHeartbeats 4000000 in
theorem l_X2_hang {K : x_K} {S : x_S} {P : x_P} {I : x_I} {J : x_J} {n : Nat} {f : Nat} (hf : f < 11 ∨ 15 ≤ f) (hsf : S f = .inl 1) (hS : x_hS S) (hP2 : x_hP (x_u2 P 8 8 (some f))) (hK : ∀ I' : x_I, (∀ e k, e < 4 → k < 64 → I' (11 + e) k = 0) → (∀ a k, (a < 11 ∨ 15 ≤ a) → I' a k = I a k) → K (some (.int (I f 8))) S (x_u2 P 8 8 (some f)) I' J n) : ∀ d k : Nat, k + d = 4 → ∀ I' : x_I, (∀ e j, e < k → j < 64 → I' (11 + e) j = 0) → (∀ a k, (a < 11 ∨ 15 ≤ a) → I' a k = I a k) → x_V f_X2_hang K 7 [some (.ref 8), some (.ref f), some (.int (nI k))] [] S (x_u2 P 8 8 (some f)) I' J n 0 0 := by
  have hP := hP2
  intro d
  induction d with
  | zero =>
    intro k hd I' h1 h2
    have e : k = 4 := by omega
    subst e
    refine v_iload_n d_X2_hang_7 rfl ?_
    refine v_iconst (v := nI 4) d_X2_hang_8 x_ic_4 ?_
    refine w_icmp_ge d_X2_hang_9 (fun h9 => ?_) (fun h9 => False.elim (by (try simp (disch := omega) only [x_ti, x_tm1] at h9); omega))
    refine v_aload_n d_X2_hang_28 rfl ?_
    refine v_gr d_X2_hang_29 lf_X2_38_2 rfl (hS _ _ rfl) (x_u2_s _ _ _ _) ?_
    refine v_gie d_X2_hang_32 lf_X2_63_1 rfl (hsf) (h2 f 8 (by omega)) ?_
    refine v_ret (v := some (.int _)) d_X2_hang_35 rfl ⟨rfl, _, rfl, rfl⟩ (by decide) (by decide) ?_
    exact hK I' (fun e k he hk => h1 e k (by omega) hk) h2
  | succ d ih =>
    intro k hd I' h1 h2
    refine v_iload_n d_X2_hang_7 rfl ?_
    refine v_iconst (v := nI 4) d_X2_hang_8 x_ic_4 ?_
    refine w_icmp_ge d_X2_hang_9 (fun h9 => False.elim (by (try simp (disch := omega) only [x_ti, x_tm1] at h9); omega)) (fun h9 => ?_)
    refine v_aload_n d_X2_hang_12 rfl ?_
    refine v_gr d_X2_hang_13 lf_X2_17_2 rfl (hS _ _ rfl) (hP _ _ _ rfl) ?_
    refine v_iload_n d_X2_hang_16 rfl ?_
    refine v_aald _ d_X2_hang_17 (rfl) (hS _ _ rfl) (by decide) (⟨by omega, by omega⟩) (c_pp hP2 (by omega)) ?_
    refine v_iconst (v := nI 0) d_X2_hang_18 x_ic_0 ?_
    refine v_cs (as := [_, _]) (rest := []) d_X2_hang_19 ls_X2_57 rfl ⟨by decide, by decide⟩ rfl (Nat.le_of_ble_eq_true rfl) (by decide) (by decide) ?_
    refine t_fill 64 (c_sp hS (show k < 4 by omega)) (by decide) ?_
    first | refine v_iinc (ls' := [_, _, _]) d_X2_hang_22 rfl (x_inc_1 _) (by decide) rfl ?_ | refine v_iinc (ls' := [_, _, _]) d_X2_hang_22 rfl rfl (by decide) rfl ?_
    refine v_goto d_X2_hang_25 ?_
    refine ih (k + 1) (by omega) _ (fun e j he hj => ?_) (fun a j ha => ?_)
    · by_cases e1 : e = k
      · subst e1; exact x_fi_in _ _ (Nat.zero_le _) (by omega)
      · rw [x_fi_na _ _ _ _ _ (by omega)]; exact h1 e j (by omega) hj
    · rw [x_fi_na _ _ _ _ _ (by omega)]; exact h2 a j ha

set_option maxRecDepth 100000 in
set_option maxHeartbeats 4000000 in
theorem t_X2_hang {K : x_K} {S : x_S} {P : x_P} {I : x_I} {J : x_J} {n : Nat} {f : Nat} (hf : f < 11 ∨ 15 ≤ f) (hsf : S f = .inl 1) (hS : x_hS S) (hP : x_hP P) (hK : ∀ I' : x_I, (∀ e k, e < 4 → k < 64 → I' (11 + e) k = 0) → (∀ a k, (a < 11 ∨ 15 ≤ a) → I' a k = I a k) → K (some (.int (I f 8))) S (x_u2 P 8 8 (some f)) I' J n) : x_Call f_X2_hang [.ref 8, .ref f] K S P I J n := by
  refine x_intro (by decide) 1 (ls := [_, _, _]) rfl (Nat.le_of_ble_eq_true rfl) ?_
  refine v_aload_n d_X2_hang_0 rfl ?_
  refine v_aload_n d_X2_hang_1 rfl ?_
  refine v_pr d_X2_hang_2 (lp_X2_38_2 _) rfl (hS _ _ rfl) (fun _ => rfl) (fun _ => rfl) ?_
  refine v_iconst (v := nI 0) d_X2_hang_5 x_ic_0 ?_
  refine v_istore_n (ls' := [_, _, _]) d_X2_hang_6 (by decide) rfl ?_
  exact l_X2_hang hf hsf hS (x_hP_u hP rfl) hK 4 0 (by omega) I (fun e k he => absurd he (Nat.not_lt_zero _)) (fun _ _ _ => rfl)

theorem c_f6.fl {I : x_I} {a : Nat} {x c u v w h : Int32} {Z : x_I} {s : Nat} (h6 : c_f6 I a x c u v w h) (e0 : Z 41 (6 * s) = x) (e1 : Z 41 (6 * s + 1) = c) (e2 : Z 41 (6 * s + 2) = u) (e3 : Z 41 (6 * s + 3) = v) (e4 : Z 41 (6 * s + 4) = w) (e5 : Z 41 (6 * s + 5) = h) : c_fl I a Z s := by
  unfold c_fl r_a
  rw [e0, e1, e2, e3, e4, e5]
  exact h6
theorem m_lay_at {I : x_I} {k : Nat} {a c u v w h : Int32} : m_lay I k a c u v w h 41 (6 * k) = a ∧ m_lay I k a c u v w h 41 (6 * k + 1) = c ∧ m_lay I k a c u v w h 41 (6 * k + 2) = u ∧ m_lay I k a c u v w h 41 (6 * k + 3) = v ∧ m_lay I k a c u v w h 41 (6 * k + 4) = w ∧ m_lay I k a c u v w h 41 (6 * k + 5) = h := by
  unfold m_lay
  simp only [x_u2_at, true_and]
  refine ⟨?_, ?_, ?_, ?_, ?_, ?_⟩
  · rw [if_neg (by omega), if_neg (by omega), if_neg (by omega), if_neg (by omega), if_neg (by omega), if_pos trivial]
  · rw [if_neg (by omega), if_neg (by omega), if_neg (by omega), if_neg (by omega), if_pos trivial]
  · rw [if_neg (by omega), if_neg (by omega), if_neg (by omega), if_pos trivial]
  · rw [if_neg (by omega), if_neg (by omega), if_pos trivial]
  · rw [if_neg (by omega), if_pos trivial]
  · rw [if_pos trivial]
theorem m_lay_na {I : x_I} {k : Nat} {a c u v w h : Int32} {b j : Nat} (hb : ¬ (b = 41 ∧ 6 * k ≤ j ∧ j < 6 * k + 6)) : m_lay I k a c u v w h b j = I b j := by
  unfold m_lay
  simp only [x_u2_at]
  rw [if_neg (by omega), if_neg (by omega), if_neg (by omega), if_neg (by omega), if_neg (by omega), if_neg (by omega)]

theorem c_R.bd_ {fa : Nat → Nat} {bd : Nat} {Z : x_I} {S S' : x_S} {P P' : x_P} {I I' : x_I} {J J' : x_J} {n : Nat} {a c u v w h : Int32} (hR : c_R fa bd Z S P I J n) (hn : (Z 39 2).toInt ≤ 10) (eS : ∀ b, b ≤ n → S' b = S b) (sn : S' (n + 1) = .inl 1) (hp : P' 8 8 = some (n + 1)) (eP : ∀ b j, b ≤ n → ¬ (b = 8 ∧ j = 8) → P' b j = P b j) (h6 : c_f6 I' (n + 1) a c u v w h) (hz : ∀ e k, e < 4 → k < 64 → I' (11 + e) k = 0) (eI : ∀ b j, b ≤ n → (b < 11 ∨ 15 ≤ b) → I' b j = I b j) (eJ : ∀ b j, b ≤ n → J' b j = J b j) : c_R fa (n + 1) (x_fi (m_lay (x_u2 Z 39 8 (nI 1)) 10 a c u v w h) 44 0 256 0) S' P' I' J' (n + 1) := by
  have h62 := hR.n62
  have zz : ∀ b j, ¬ (b = 41 ∧ 60 ≤ j ∧ j < 66) → b ≠ 44 → ¬ (b = 39 ∧ j = 8) → (x_fi (m_lay (x_u2 Z 39 8 (nI 1)) 10 a c u v w h) 44 0 256 0) b j = Z b j := fun b j b1 b2 b3 => by
    rw [x_fi_na _ _ _ _ _ b2, m_lay_na (by omega), x_u2_at, if_neg b3]
  have ens : m_ns (x_fi (m_lay (x_u2 Z 39 8 (nI 1)) 10 a c u v w h) 44 0 256 0) = m_ns Z := by unfold m_ns; rw [zz 39 2 (by omega) (by omega) (by omega)]
  refine ⟨⟨fun b z hb => ?_, fun b k r hr => ?_, by omega⟩, ⟨fun s hs => ?_, fun s t q1 q2 => hR.2.1.2.1 s t q1 (by rw [← ens]; exact q2), ?_⟩, ⟨Or.inr (by omega), by omega, hp, sn, ?_⟩, ?_, ?_, ?_, ?_, ?_, ?_, ?_⟩
  · have := x_S0_lt hb
    rw [eS b (by omega)]; exact hR.hS b z hb
  · have hb : b ≤ n := by
      rcases Nat.lt_or_ge b 63 with q | q
      · omega
      · exfalso
        have hq : x_P0 b k = none := by
          exact x_P0_hi q
        rw [hq] at hr; cases hr
    rw [eP b k hb (fun q => by obtain ⟨rfl, rfl⟩ := q; cases hr)]
    exact hR.hP b k r hr
  · rw [ens] at hs
    have h10 : s < 10 := by unfold m_ns at hs; omega
    have ef : ∀ k, k < 6 → (x_fi (m_lay (x_u2 Z 39 8 (nI 1)) 10 a c u v w h) 44 0 256 0) 41 (6 * s + k) = Z 41 (6 * s + k) := fun k hk => zz _ _ (by omega) (by omega) (by omega)
    obtain ⟨b1, b2, b3, b4, b5, b6, b7, b8, b9, b10⟩ := hR.w hs
    refine ⟨⟨b1.1, by omega⟩, by rw [eS _ (by omega)]; exact b2, by rw [eS _ (by omega), zz _ _ (by omega) (by omega) (by omega)]; exact b3, by rw [eS _ (by omega), m_ce_sm ef]; exact b4, by rw [eP _ _ (by omega) (by omega)]; exact b5, by rw [eP _ _ (by omega) (by omega)]; exact b6, by rw [eP _ _ (by omega) (by omega)]; exact b7, by rw [eI _ _ (by omega) (by omega)]; exact b8, (b9.cg (I' := I') (fun k => eI _ _ (by omega) (by omega))).cz ef, fun k hk => ?_⟩
    rw [m_ce_sm ef] at hk
    rw [eI _ _ (by omega) (by omega), zz _ _ (by omega) (by omega) (by omega)]
    exact b10 k hk
  · rw [eI _ _ (by omega) (by omega), zz _ _ (by omega) (by omega) (by omega)]; exact hR.ns
  · have e8 : (x_fi (m_lay (x_u2 Z 39 8 (nI 1)) 10 a c u v w h) 44 0 256 0) 39 8 = nI 1 := rfl
    have enb : m_nb (x_fi (m_lay (x_u2 Z 39 8 (nI 1)) 10 a c u v w h) 44 0 256 0) = (x_fi (m_lay (x_u2 Z 39 8 (nI 1)) 10 a c u v w h) 44 0 256 0) := if_neg (by rw [e8]; decide)
    rw [enb]
    have hl := m_lay_at (I := x_u2 Z 39 8 (nI 1)) (k := 10) (a := a) (c := c) (u := u) (v := v) (w := w) (h := h)
    exact h6.fl hl.1 hl.2.1 hl.2.2.1 hl.2.2.2.1 hl.2.2.2.2.1 hl.2.2.2.2.2
  · intro k hk; rw [eI _ _ (by omega) (by omega), zz _ _ (by omega) (by omega) (by omega)]; exact hR.Ey k hk
  · intro e k he hk; rw [hz e k he hk, x_fi_in _ _ (by omega) (by omega)]
  · refine ⟨?_, ?_, fun k hk => ?_⟩
    · rw [eI _ _ (by omega) (by omega), zz _ _ (by omega) (by omega) (by omega)]; exact hR.Li.1
    · rw [eI _ _ (by omega) (by omega), zz _ _ (by omega) (by omega) (by omega)]; exact hR.Li.2.1
    · rw [eI _ _ (by omega) (by omega), zz _ _ (by omega) (by omega) (by omega)]; exact hR.Li.2.2 k hk
  · intro t s c ht hs hc; rw [eJ _ _ (by omega), zz _ _ (by omega) (by omega) (by omega)]; exact hR.Wa t s c ht hs hc
  · intro k hk
    obtain ⟨b1, b2, b3⟩ := hR.Sh k hk
    rw [eI _ _ (by omega) (by omega), eI _ _ (by omega) (by omega), zz _ _ (by omega) (by omega) (by omega), zz _ _ (by omega) (by omega) (by omega)]
    exact ⟨b1, b2, fun i hi => by rw [eI _ _ (by omega) (by omega), zz _ _ (by omega) (by omega) (by omega)]; exact b3 i hi⟩
  · rw [eI _ _ (by omega) (by omega), zz _ _ (by omega) (by omega) (by omega)]; exact hR.fau
  · rw [eI _ _ (by omega) (by omega), zz _ _ (by omega) (by omega) (by omega)]; exact hR.tra

set_option maxRecDepth 100000 in
set_option maxHeartbeats 4000000 in
theorem t_X11_board {K : x_K} {S : x_S} {P : x_P} {I : x_I} {J : x_J} {n : Nat} {a c u v w h : Int32} {fa : Nat → Nat} {bd : Nat} {Z : x_I} (hR : c_R fa bd Z S P I J n) (mi : m_I Z) (hK : c_K K (z_board Z a c u v w h) I J n (.int (q_board a c u v w h))) : x_Call f_X11_board [.ref 1, .int a, .int c, .int u, .int v, .int w, .int h] K S P I J n := by
  have hS := hR.hS
  have hP := hR.hP
  have hn := mi.hn
  have hfo := mi.fo
  have h9 : m_ns Z = (Z 39 2).toInt.toNat := rfl
  have h62 := hR.n62
  refine x_intro (by decide) 0 (ls := [_, _, _, _, _, _, _]) rfl (Nat.le_of_ble_eq_true rfl) ?_
  refine v_iload_n d_X11_board_0 rfl ?_
  refine v_iload_n d_X11_board_1 rfl ?_
  refine v_iload_n d_X11_board_2 rfl ?_
  refine v_iload d_X11_board_3 rfl ?_
  refine v_iload d_X11_board_5 rfl ?_
  refine v_iload d_X11_board_7 rfl ?_
  refine v_cs (as := [_, _, _, _, _, _]) (rest := []) d_X11_board_9 ls_X11_61 rfl ⟨by decide, by decide⟩ rfl (Nat.le_of_ble_eq_true rfl) (by decide) (by decide) ?_
  refine t_X1_fits (fun q => ?_) (fun q => ?_)
  · refine w_if_ne d_X11_board_12 (fun _ => ?_) (fun h12 => absurd h12 (by decide))
    refine v_aload_n d_X11_board_18 rfl ?_
    refine v_gr d_X11_board_19 lf_X11_39_11 rfl (hS _ _ rfl) (hP _ _ _ rfl) ?_
    refine v_new d_X11_board_22 ln_X11_62 (by decide) (by decide) ?_
    refine v_dup d_X11_board_25 rfl ?_
    refine v_iload_n d_X11_board_26 rfl ?_
    refine v_iload_n d_X11_board_27 rfl ?_
    refine v_iload_n d_X11_board_28 rfl ?_
    refine v_iload d_X11_board_29 rfl ?_
    refine v_iload d_X11_board_31 rfl ?_
    refine v_iload d_X11_board_33 rfl ?_
    refine v_ci (as := [_, _, _, _, _, _]) (rest := [_, _]) d_X11_board_35 li_X11_71 rfl ⟨by decide, by decide⟩ rfl (Nat.le_of_ble_eq_true rfl) (by decide) (by decide) ?_
    refine t_X1_init (x_u1_s _ _ _) q.1 (fun I1 g1 g2 => ?_)
    have hSn := x_hS_u (S := S) (a := n + 1) (z := .inl 1) hS (by omega)
    have hPn : x_hP (x_u1 P (n + 1) (fun _ => none)) := fun b k r hr => by
      have := hP b k r hr
      rw [x_u1_n _ _ (fun z => by subst z; exact absurd hr (by rw [x_P0_hi (by omega)]; intro z; cases z))]
      exact this
    refine v_cv (as := [_]) (rest := []) d_X11_board_38 lv_X11_114_2 (hSn _ _ rfl) rfl ⟨by decide, by decide⟩ rfl (Nat.le_of_ble_eq_true rfl) (by decide) (by decide) ?_
    refine t_X2_hang (f := n + 1) (by omega) (x_u1_s _ _ _) (x_hS_u hS (by omega)) hPn (fun I2 k1 k2 => ?_)
    rw [g2.2.2.2.2.2.2.2.2]
    refine v_ret (v := some (.int _)) d_X11_board_41 rfl ⟨rfl, _, rfl, rfl⟩ (by decide) (by decide) ?_
    have ec0 : ¬ (¬ m_isf a.toInt c.toInt u.toInt v.toInt w.toInt h.toInt) := fun z => z q
    simp only [q_board, z_board, x_if_f ec0] at hK
    refine hK _ _ _ _ _ ⟨fa, n + 1, hR.bd_ hn.2 (fun b hb => x_u1_n _ _ (by omega)) (x_u1_s _ _ _) (x_u2_s _ _ _ _) (fun b j hb hj => ?_) ?_ k1 (fun b j hb hj => ?_) (fun b j hb => ?_)⟩ (fun b j hj => ⟨?_, ?_⟩) (by omega)
    · rw [x_u2_at, if_neg hj, x_u1_n _ _ (by omega)]
    · unfold c_f6 at g2 ⊢; simp only [k2 (n + 1) _ (by omega)]; exact g2
    · rw [k2 b j hj, g1 b j (by omega), x_u1_n _ _ (by omega)]
    · rw [x_u1_n _ _ (by omega)]
    · have hb2 := cC_no hj
      rw [k2 b j (by omega), g1 b j (by omega), x_u1_n _ _ (by omega)]
    · have hb2 : ¬ 63 ≤ b := fun z => by rw [cC_hi z] at hj; cases hj
      rw [x_u1_n _ _ (by omega)]
  · refine w_if_ne d_X11_board_12 (fun h12 => absurd h12 (by decide)) (fun _ => ?_)
    refine v_bipush (v := (-2)) d_X11_board_15 x_bp_m2 ?_
    refine v_ret (v := some (.int _)) d_X11_board_17 rfl ⟨rfl, _, rfl, rfl⟩ (by decide) (by decide) ?_
    have ec0 : ¬ m_isf a.toInt c.toInt u.toInt v.toInt w.toInt h.toInt := q
    simp only [q_board, z_board, x_if_t ec0] at hK
    exact hK _ _ _ _ _ ⟨fa, bd, hR⟩ (x_ex.rf) (by omega)

