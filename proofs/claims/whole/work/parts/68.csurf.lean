theorem c_R.sf_ {fa : Nat → Nat} {bd : Nat} {Z : x_I} {S S' : x_S} {P P' : x_P} {I I' : x_I} {J J' : x_J} {n N : Nat} {kd a c u v w h : Int32} (hR : c_R fa bd Z S P I J n) (h10 : (Z 39 2).toInt < 10) (h0 : 0 ≤ (Z 39 2).toInt) (hce : ∀ t, t < m_ns Z → (m_ce Z t).toNat ≤ 64) (eS : ∀ b, b ≤ n → S' b = S b) (s1 : S' (n + 1) = .inl 1) (s2 : S' (n + 2) = .inl (c_kc kd)) (s3 : S' (n + 3) = .inr (0, N)) (hN : (w * h).toInt.toNat = N) (hN6 : N ≤ 64)
    (hp : P' 4 (m_ns Z) = some (n + 2)) (p1 : P' (n + 2) 1 = some (n + 1)) (p2 : P' (n + 2) 2 = some (n + 3)) (eP : ∀ b j, b ≤ n → ¬ (b = 4 ∧ j = m_ns Z) → P' b j = P b j) (h6 : c_f6 I' (n + 1) a c u v w h) (i2 : I' (n + 2) 0 = nI (m_ns Z)) (i3 : ∀ j, I' (n + 3) j = 0) (in_ : I' 3 1 = nI (m_ns Z + 1)) (eI : ∀ b j, b ≤ n → ¬ (b = 3 ∧ j = 1) → I' b j = I b j) (eJ : ∀ b j, b ≤ n → J' b j = J b j) : c_R (fun s => if s = m_ns Z then n + 1 else fa s) bd (x_u2 (x_fi (m_lay (x_u2 Z 40 (m_ns Z) kd) (m_ns Z) a c u v w h) 42 (64 * m_ns Z) 64 0) 39 2 (nI (m_ns Z + 1))) S' P' I' J' (n + 3) := by
  have h62 := hR.n62
  have hns : m_ns Z < 10 := by unfold m_ns; omega
  have zz : ∀ b j, ¬ (b = 41 ∧ 6 * m_ns Z ≤ j ∧ j < 6 * m_ns Z + 6) → ¬ (b = 42 ∧ 64 * m_ns Z ≤ j ∧ j < 64 * m_ns Z + 64) → ¬ (b = 39 ∧ j = 2) → ¬ (b = 40 ∧ j = m_ns Z) → (x_u2 (x_fi (m_lay (x_u2 Z 40 (m_ns Z) kd) (m_ns Z) a c u v w h) 42 (64 * m_ns Z) 64 0) 39 2 (nI (m_ns Z + 1))) b j = Z b j := fun b j b1 b2 b3 b4 => by
    rw [x_u2_at, if_neg b3]
    have : x_fi (m_lay (x_u2 Z 40 (m_ns Z) kd) (m_ns Z) a c u v w h) 42 (64 * m_ns Z) 64 0 b j = m_lay (x_u2 Z 40 (m_ns Z) kd) (m_ns Z) a c u v w h b j := by unfold x_fi; rw [if_neg (by omega)]
    rw [this, m_lay_na (by omega), x_u2_at, if_neg b4]
  have ens : m_ns (x_u2 (x_fi (m_lay (x_u2 Z 40 (m_ns Z) kd) (m_ns Z) a c u v w h) 42 (64 * m_ns Z) 64 0) 39 2 (nI (m_ns Z + 1))) = m_ns Z + 1 := by
    unfold m_ns
    rw [x_u2_s, x_ti (by unfold m_ns at hns; omega)]
    rfl
  have hl := m_lay_at (I := x_u2 Z 40 (m_ns Z) kd) (k := m_ns Z) (a := a) (c := c) (u := u) (v := v) (w := w) (h := h)
  have zl : ∀ j, (x_u2 (x_fi (m_lay (x_u2 Z 40 (m_ns Z) kd) (m_ns Z) a c u v w h) 42 (64 * m_ns Z) 64 0) 39 2 (nI (m_ns Z + 1))) 41 j = m_lay (x_u2 Z 40 (m_ns Z) kd) (m_ns Z) a c u v w h 41 j := fun j => by rw [x_u2_na _ _ _ _ (by decide), x_fi_na _ _ _ _ _ (by decide)]
  have fs : ∀ s, s ≠ m_ns Z → (fun s => if s = m_ns Z then n + 1 else fa s) s = fa s := fun s q => if_neg q
  have f1 : (fun s => if s = m_ns Z then n + 1 else fa s) (m_ns Z) = n + 1 := if_pos rfl
  have ece : m_ce (x_u2 (x_fi (m_lay (x_u2 Z 40 (m_ns Z) kd) (m_ns Z) a c u v w h) 42 (64 * m_ns Z) 64 0) 39 2 (nI (m_ns Z + 1))) (m_ns Z) = (w * h).toInt := by unfold m_ce; rw [zl, zl, hl.2.2.2.2.1, hl.2.2.2.2.2]
  refine ⟨⟨fun b z hb => ?_, fun b k r hr => ?_, by omega⟩, ⟨fun s hs => ?_, fun s t q1 q2 => ?_, ?_⟩, ⟨hR.Bd.1, ?_, ?_, ?_, ?_⟩, ?_, ?_, ?_, ?_, ?_, ?_, ?_⟩
  · have := x_S0_lt hb
    rw [eS b (by omega)]; exact hR.hS b z hb
  · have hb : b ≤ n := by
      rcases Nat.lt_or_ge b 63 with q | q
      · omega
      · rw [x_P0_hi q] at hr; cases hr
    rw [eP b k hb (fun q => by obtain ⟨rfl, rfl⟩ := q; cases hr)]
    exact hR.hP b k r hr
  · rw [ens] at hs
    by_cases e : s = m_ns Z
    · subst e
      unfold c_w
      rw [f1, ece, hN]
      refine ⟨⟨by omega, by omega⟩, s1, ?_, s3, hp, p1, p2, i2, ?_, fun k hk => ?_⟩
      · rw [x_u2_na _ _ _ _ (by decide), x_fi_na _ _ _ _ _ (by decide), m_lay_na (by omega), x_u2_s]; exact s2
      · exact h6.fl ((zl _).trans hl.1) ((zl _).trans hl.2.1) ((zl _).trans hl.2.2.1) ((zl _).trans hl.2.2.2.1) ((zl _).trans hl.2.2.2.2.1) ((zl _).trans hl.2.2.2.2.2)
      · rw [i3, x_u2_na _ _ _ _ (by decide), x_fi_in _ _ (by omega) (by omega)]
    · have hs2 : s < m_ns Z := by omega
      have ef : ∀ k, k < 6 → (x_u2 (x_fi (m_lay (x_u2 Z 40 (m_ns Z) kd) (m_ns Z) a c u v w h) 42 (64 * m_ns Z) 64 0) 39 2 (nI (m_ns Z + 1))) 41 (6 * s + k) = Z 41 (6 * s + k) := fun k hk => zz _ _ (by omega) (by omega) (by omega) (by omega)
      obtain ⟨b1, b2, b3, b4, b5, b6, b7, b8, b9, b10⟩ := hR.w hs2
      unfold c_w
      rw [fs s e, m_ce_sm ef]
      refine ⟨⟨b1.1, by omega⟩, by rw [eS _ (by omega)]; exact b2, by rw [eS _ (by omega), zz _ _ (by omega) (by omega) (by omega) (by omega)]; exact b3, by rw [eS _ (by omega)]; exact b4, by rw [eP _ _ (by omega) (by omega)]; exact b5, by rw [eP _ _ (by omega) (by omega)]; exact b6, by rw [eP _ _ (by omega) (by omega)]; exact b7, by rw [eI _ _ (by omega) (by omega)]; exact b8, (b9.cg (I' := I') (fun k => eI _ _ (by omega) (by omega))).cz ef, fun k hk => ?_⟩
      have h64 : (m_ce Z s).toNat ≤ 64 ∨ 64 < (m_ce Z s).toNat := by omega
      rw [eI _ _ (by omega) (by omega)]
      by_cases k6 : k < 64
      · rw [zz _ _ (by omega) (by omega) (by omega) (by omega)]; exact b10 k hk
      · exact absurd (hce s hs2) (by omega)
  · rw [ens] at q2
    show (if s = m_ns Z then n + 1 else fa s) + 2 < (if t = m_ns Z then n + 1 else fa t)
    rw [if_neg (show ¬ s = m_ns Z by omega)]
    have hw := (hR.w (show s < m_ns Z by omega)).ad
    by_cases e : t = m_ns Z
    · rw [if_pos e]; omega
    · rw [if_neg e]; exact hR.2.1.2.1 s t q1 (by omega)
  · rw [in_, x_u2_s]
  · have := hR.Bd.2.1; omega
  · rw [eP _ _ (by omega) (by omega)]; exact hR.pb
  · have := hR.Bd.2.1
    rw [eS _ (by omega)]; exact hR.sb
  · have hb1 := hR.Bd.1
    have hb2 := hR.Bd.2.1
    refine (hR.fb.cg (I' := I') (fun k => eI _ _ (by omega) (by omega))).cz (fun k hk => ?_)
    have e8 : (x_u2 (x_fi (m_lay (x_u2 Z 40 (m_ns Z) kd) (m_ns Z) a c u v w h) 42 (64 * m_ns Z) 64 0) 39 2 (nI (m_ns Z + 1))) 39 8 = Z 39 8 := zz _ _ (by omega) (by omega) (by omega) (by omega)
    unfold m_nb
    rw [e8]
    split
    · have hq := m_lay_at (I := x_u2 (x_u2 (x_fi (m_lay (x_u2 Z 40 (m_ns Z) kd) (m_ns Z) a c u v w h) 42 (64 * m_ns Z) 64 0) 39 2 (nI (m_ns Z + 1))) 39 8 (nI 1)) (k := 10) (a := nI 2) (c := nI 20) (u := nI 0) (v := nI 0) (w := nI 1) (h := nI 1)
      have hq2 := m_lay_at (I := x_u2 Z 39 8 (nI 1)) (k := 10) (a := nI 2) (c := nI 20) (u := nI 0) (v := nI 0) (w := nI 1) (h := nI 1)
      rcases (show k = 0 ∨ k = 1 ∨ k = 2 ∨ k = 3 ∨ k = 4 ∨ k = 5 by omega) with rfl | rfl | rfl | rfl | rfl | rfl
      · exact hq.1.trans hq2.1.symm
      · exact hq.2.1.trans hq2.2.1.symm
      · exact hq.2.2.1.trans hq2.2.2.1.symm
      · exact hq.2.2.2.1.trans hq2.2.2.2.1.symm
      · exact hq.2.2.2.2.1.trans hq2.2.2.2.2.1.symm
      · exact hq.2.2.2.2.2.trans hq2.2.2.2.2.2.symm
    · exact zz _ _ (by omega) (by omega) (by omega) (by omega)
  · intro k hk; rw [eI _ _ (by omega) (by omega), zz _ _ (by omega) (by omega) (by omega) (by omega)]; exact hR.Ey k hk
  · intro e k he hk; rw [eI _ _ (by omega) (by omega), zz _ _ (by omega) (by omega) (by omega) (by omega)]; exact hR.Pi e k he hk
  · refine ⟨?_, ?_, fun k hk => ?_⟩
    · rw [eI _ _ (by omega) (by omega), zz _ _ (by omega) (by omega) (by omega) (by omega)]; exact hR.Li.1
    · rw [eI _ _ (by omega) (by omega), zz _ _ (by omega) (by omega) (by omega) (by omega)]; exact hR.Li.2.1
    · rw [eI _ _ (by omega) (by omega), zz _ _ (by omega) (by omega) (by omega) (by omega)]; exact hR.Li.2.2 k hk
  · intro t s c ht hs hc; rw [eJ _ _ (by omega), zz _ _ (by omega) (by omega) (by omega) (by omega)]; exact hR.Wa t s c ht hs hc
  · intro k hk
    obtain ⟨b1, b2, b3⟩ := hR.Sh k hk
    rw [eI _ _ (by omega) (by omega), eI _ _ (by omega) (by omega), zz _ _ (by omega) (by omega) (by omega) (by omega), zz _ _ (by omega) (by omega) (by omega) (by omega)]
    exact ⟨b1, b2, fun i hi => by rw [eI _ _ (by omega) (by omega), zz _ _ (by omega) (by omega) (by omega) (by omega)]; exact b3 i hi⟩
  · rw [eI _ _ (by omega) (by omega), zz _ _ (by omega) (by omega) (by omega) (by omega)]; exact hR.fau
  · rw [eI _ _ (by omega) (by omega), zz _ _ (by omega) (by omega) (by omega) (by omega)]; exact hR.tra

set_option maxRecDepth 100000 in
set_option maxHeartbeats 4000000 in
theorem t_X11_surface {K : x_K} {S : x_S} {P : x_P} {I : x_I} {J : x_J} {n : Nat} {kd a c u v w h : Int32} {fa : Nat → Nat} {bd : Nat} {Z : x_I} (hR : c_R fa bd Z S P I J n) (mi : m_I Z) (hK : c_K K (z_surface Z kd a c u v w h) I J n (.int (q_surface Z kd a c u v w h))) : x_Call f_X11_surface [.ref 1, .int kd, .int a, .int c, .int u, .int v, .int w, .int h] K S P I J n := by
  have hS := hR.hS
  have hP := hR.hP
  have hn := mi.hn
  have hfo := mi.fo
  have h9 : m_ns Z = (Z 39 2).toInt.toNat := rfl
  have h62 := hR.n62
  refine x_intro (by decide) 0 (ls := [_, _, _, _, _, _, _, _]) rfl (Nat.le_of_ble_eq_true rfl) ?_
  refine v_iload_n d_X11_surface_0 rfl ?_
  refine v_iconst (v := nI 0) d_X11_surface_1 x_ic_0 ?_
  refine v_iconst (v := nI 2) d_X11_surface_2 x_ic_2 ?_
  refine v_cs (as := [_, _, _]) (rest := []) d_X11_surface_3 ls_X11_57 rfl ⟨by decide, by decide⟩ rfl (Nat.le_of_ble_eq_true rfl) (by decide) (by decide) ?_
  refine t_X11_within (x_ti (k := 0) (by decide)) (x_ti (k := 2) (by decide)) (fun q1 => ?_) (fun q1 => ?_)
  · refine w_if_eq d_X11_surface_6 (fun h6 => absurd h6 (by decide)) (fun _ => ?_)
    refine v_iload_n d_X11_surface_9 rfl ?_
    refine v_iload_n d_X11_surface_10 rfl ?_
    refine v_iload d_X11_surface_11 rfl ?_
    refine v_iload d_X11_surface_13 rfl ?_
    refine v_iload d_X11_surface_15 rfl ?_
    refine v_iload d_X11_surface_17 rfl ?_
    refine v_cs (as := [_, _, _, _, _, _]) (rest := []) d_X11_surface_19 ls_X11_61 rfl ⟨by decide, by decide⟩ rfl (Nat.le_of_ble_eq_true rfl) (by decide) (by decide) ?_
    refine t_X1_fits (fun q2 => ?_) (fun q2 => ?_)
    · refine w_if_ne d_X11_surface_22 (fun _ => ?_) (fun h22 => absurd h22 (by decide))
      refine v_aload_n d_X11_surface_28 rfl ?_
      refine v_gr d_X11_surface_29 lf_X11_21_11 rfl (hS _ _ rfl) (hP _ _ _ rfl) ?_
      refine v_cv (as := []) (rest := []) d_X11_surface_32 lv_X11_67_8 (hS _ _ rfl) rfl ⟨by decide, by decide⟩ rfl (Nat.le_of_ble_eq_true rfl) (by decide) (by decide) ?_
      refine t_X8_isFull hR mi (fun q3 => ?_) (fun q3 => ?_)
      · refine w_if_eq d_X11_surface_35 (fun h35 => absurd h35 (by decide)) (fun _ => ?_)
        refine v_bipush (v := (-4)) d_X11_surface_38 x_bp_m4 ?_
        refine v_ret (v := some (.int _)) d_X11_surface_40 rfl ⟨rfl, _, rfl, rfl⟩ (by decide) (by decide) ?_
        have ec0 : ¬ (¬ ((0 ≤ kd.toInt ∧ kd.toInt ≤ 2) ∧ m_isf a.toInt c.toInt u.toInt v.toInt w.toInt h.toInt)) := fun z => z ⟨q1, q2⟩
        have ec1 : (Z 39 2).toInt = 10 := q3
        simp only [q_surface, z_surface, x_if_f ec0, x_if_t ec1] at hK
        exact hK _ _ _ _ _ ⟨fa, bd, hR⟩ (x_ex.rf) (by omega)
      · refine w_if_eq d_X11_surface_35 (fun _ => ?_) (fun h35 => absurd h35 (by decide))
        refine v_aload_n d_X11_surface_41 rfl ?_
        refine v_gr d_X11_surface_42 lf_X11_21_11 rfl (hS _ _ rfl) (hP _ _ _ rfl) ?_
        refine v_iload_n d_X11_surface_45 rfl ?_
        refine v_new d_X11_surface_46 ln_X11_62 (by decide) (by decide) ?_
        refine v_dup d_X11_surface_49 rfl ?_
        refine v_iload_n d_X11_surface_50 rfl ?_
        refine v_iload_n d_X11_surface_51 rfl ?_
        refine v_iload d_X11_surface_52 rfl ?_
        refine v_iload d_X11_surface_54 rfl ?_
        refine v_iload d_X11_surface_56 rfl ?_
        refine v_iload d_X11_surface_58 rfl ?_
        refine v_ci (as := [_, _, _, _, _, _]) (rest := [_, _, _]) d_X11_surface_60 li_X11_71 rfl ⟨by decide, by decide⟩ rfl (Nat.le_of_ble_eq_true rfl) (by decide) (by decide) ?_
        refine t_X1_init (x_u1_s _ _ _) q2.1 (fun I1 g1 g2 => ?_)
        have hSn := x_hS_u (S := S) (a := n + 1) (z := .inl 1) hS (by omega)
        have hPn : x_hP (x_u1 P (n + 1) (fun _ => none)) := fun b k r hr => by
          have := hP b k r hr
          rw [x_u1_n _ _ (fun z => by subst z; exact absurd hr (by rw [x_P0_hi (by omega)]; intro z; cases z))]
          exact this
        obtain ⟨w1, w2, w3, w4, w5, w6⟩ := id q2
        have pb := x_pb (a := w.toInt) (b := h.toInt) (A := 8) (B := 8) (by omega) (by omega) (by omega) (by omega)
        have pp : 0 < w.toInt * h.toInt := Int.mul_pos (by omega) (by omega)
        have ew : (w * h).toInt = w.toInt * h.toInt := x_mul (by omega) (by omega)
        refine v_cv (as := [_, _]) (rest := []) d_X11_surface_63 lv_X11_74_8 (hSn _ _ rfl) rfl ⟨by decide, by decide⟩ rfl (Nat.le_of_ble_eq_true rfl) (by decide) (by decide) ?_
        refine t_X8_add (f := n + 1) (N := (w * h).toInt.toNat) (q := m_ns Z) q1 (by omega) (by omega) (x_u1_s _ _ _) (g2.2.2.2.2.2.2.2.2.trans (x_of (by omega))) (by omega) ((g1 3 1 (by omega)).trans ((congrFun (x_u1_n I (fun _ => 0) (show 3 ≠ n + 1 by omega)) 1).trans (hR.ns.trans (x_of hn.1)))) (by omega) hSn hPn (fun S2 P2 I2 J2 r1 r2 r3 r4 r5 r6 r7 r8 r9 r10 r11 r12 => ?_)
        refine v_ret (v := some (.int _)) d_X11_surface_66 rfl ⟨rfl, _, rfl, rfl⟩ (by decide) (by decide) ?_
        have ec0 : ¬ (¬ ((0 ≤ kd.toInt ∧ kd.toInt ≤ 2) ∧ m_isf a.toInt c.toInt u.toInt v.toInt w.toInt h.toInt)) := fun z => z ⟨q1, q2⟩
        have ec1 : ¬ (Z 39 2).toInt = 10 := q3
        simp only [q_surface, z_surface, x_if_f ec0, x_if_f ec1] at hK
        refine hK _ _ _ _ _ ⟨_, bd, hR.sf_ (by omega) hn.1 mi.ce6 (fun b hb => ?_) ?_ r1 r2 rfl (by omega) r4 r5 r6 (fun b j hb hj => ?_) ?_ r8 r9 r10 (fun b j hb hj => ?_) (fun b j hb => ?_)⟩ (fun b j hj => ⟨?_, ?_⟩) (by omega)
        · rw [r3 b (by omega), x_u1_n _ _ (by omega)]
        · rw [r3 _ (by omega), x_u1_s]
        · rw [r7 b j (by omega) hj, x_u1_n _ _ (by omega)]
        · have e9 : ∀ k, I2 (n + 1) k = I1 (n + 1) k := fun k => r11 (n + 1) k (by omega) (by omega)
          unfold c_f6 at g2 ⊢; simp only [e9]; exact g2
        · rw [r11 b j (by omega) hj, g1 b j (by omega), x_u1_n _ _ (by omega)]
        · rw [r12 b j (by omega), x_u1_n _ _ (by omega)]
        · have hb2 := cC_no hj
          rw [r11 b j (by omega) (by omega), g1 b j (by omega), x_u1_n _ _ (by omega)]
        · have hb2 := cC_no hj
          rw [r12 b j (by omega), x_u1_n _ _ (by omega)]
    · refine w_if_ne d_X11_surface_22 (fun h22 => absurd h22 (by decide)) (fun _ => ?_)
      refine v_bipush (v := (-2)) d_X11_surface_25 x_bp_m2 ?_
      refine v_ret (v := some (.int _)) d_X11_surface_27 rfl ⟨rfl, _, rfl, rfl⟩ (by decide) (by decide) ?_
      first
        | (have ec0 : ¬ ((0 ≤ kd.toInt ∧ kd.toInt ≤ 2) ∧ m_isf a.toInt c.toInt u.toInt v.toInt w.toInt h.toInt) := fun z => q1 z.1
           simp only [q_surface, z_surface, x_if_t ec0] at hK
           exact hK _ _ _ _ _ ⟨fa, bd, hR⟩ (x_ex.rf) (by omega))
        | (have ec0 : ¬ ((0 ≤ kd.toInt ∧ kd.toInt ≤ 2) ∧ m_isf a.toInt c.toInt u.toInt v.toInt w.toInt h.toInt) := fun z => q2 z.2
           simp only [q_surface, z_surface, x_if_t ec0] at hK
           exact hK _ _ _ _ _ ⟨fa, bd, hR⟩ (x_ex.rf) (by omega))
  · refine w_if_eq d_X11_surface_6 (fun _ => ?_) (fun h6 => absurd h6 (by decide))
    refine v_bipush (v := (-2)) d_X11_surface_25 x_bp_m2 ?_
    refine v_ret (v := some (.int _)) d_X11_surface_27 rfl ⟨rfl, _, rfl, rfl⟩ (by decide) (by decide) ?_
    first
      | (have ec0 : ¬ ((0 ≤ kd.toInt ∧ kd.toInt ≤ 2) ∧ m_isf a.toInt c.toInt u.toInt v.toInt w.toInt h.toInt) := fun z => q1 z.1
         simp only [q_surface, z_surface, x_if_t ec0] at hK
         exact hK _ _ _ _ _ ⟨fa, bd, hR⟩ (x_ex.rf) (by omega))
      | (have ec0 : ¬ ((0 ≤ kd.toInt ∧ kd.toInt ≤ 2) ∧ m_isf a.toInt c.toInt u.toInt v.toInt w.toInt h.toInt) := fun z => q2 z.2
         simp only [q_surface, z_surface, x_if_t ec0] at hK
         exact hK _ _ _ _ _ ⟨fa, bd, hR⟩ (x_ex.rf) (by omega))

