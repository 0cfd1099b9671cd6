set_option maxRecDepth 100000 in
set_option maxHeartbeats 4000000 in
theorem t_X3_pick (L : Nat → Nat → Option Nat) (m T M : Nat) : ∀ (w : Nat) (K : x_K) (S : x_S) (P : x_P) (I : x_I) (J : x_J) (n g f : Nat) (R : Nat → Nat) (lo hi : Int64), (p_D L m T M J) → (I 24 6 = nI m) → (I 24 7 = nI M) → (f_row m g R) → (∀ i, i < g → R i < f) → (f ≤ m) → (g + w ≤ m) → (p_lit J g R lo hi) → (x_hS S) → (x_hP P) → (∀ Q : Nat → Nat, p_ext m g w f R Q → f_cov L m T (g + w) Q → (∀ C, p_ext m g w f R C → f_cov L m T (g + w) C → ¬ f_lt (g + w) C Q) → K (some (.int (nI 1))) S P (x_u2 I 24 8 (nI (h_mk Q (g + w)))) J n) → ((∀ C, p_ext m g w f R C → ¬ f_cov L m T (g + w) C) → K (some (.int (nI 0))) S P I J n) → x_Call (f_X3_pick w) [.ref 24, .int (nI f), .int (nI w), .int (nI (h_mk R g)), .long lo, .long hi] K S P I J n := by
  intro w
  induction w with
  | zero =>
    intro K S P I J n g f R lo hi hD hc hb hRr hRf hfm hgw hl hS hP hyes hno
    have hm16 := hD.1
    have hM := hD.2.1
    refine x_intro (show plainName RX3 = true by decide) 2 (ls := [_, _, _, _, _, _, _, _, _, _]) rfl (Nat.le_of_ble_eq_true rfl) ?_
    refine v_aload_n d_X3_pick_0 rfl ?_
    refine v_gr d_X3_pick_1 lf_X3_25_3 rfl (hS _ _ rfl) (hP _ _ _ rfl) ?_
    refine v_iconst (v := nI 0) d_X3_pick_4 x_ic_0 ?_
    refine v_lald _ d_X3_pick_5 (rfl) (hS _ _ rfl) (⟨by omega, by omega⟩) (rfl) ?_
    refine v_lload d_X3_pick_6 rfl ?_
    refine v_ldc2 d_X3_pick_8 lk_X3_60 ?_
    refine v_lxor d_X3_pick_11 ?_
    refine v_land d_X3_pick_12 ?_
    refine v_cs (as := [_]) (rest := []) d_X3_pick_13 ls_X3_45 rfl ⟨by show 1 + 1 ≤ 0 + 3; omega, by show 8 + (2 + 11) + 40 * 1 ≤ 40 * (0 + 3); omega⟩ rfl (Nat.le_of_ble_eq_true rfl) (Nat.le_of_ble_eq_true rfl) (Nat.le_of_ble_eq_true rfl) ?_
    refine t_bitL ?_
    refine v_aload_n d_X3_pick_16 rfl ?_
    refine v_gr d_X3_pick_17 lf_X3_28_3 rfl (hS _ _ rfl) (hP _ _ _ rfl) ?_
    refine v_iconst (v := nI 0) d_X3_pick_20 x_ic_0 ?_
    refine v_lald _ d_X3_pick_21 (rfl) (hS _ _ rfl) (⟨by omega, by omega⟩) (rfl) ?_
    refine v_lload d_X3_pick_22 rfl ?_
    refine v_ldc2 d_X3_pick_24 lk_X3_60 ?_
    refine v_lxor d_X3_pick_27 ?_
    refine v_land d_X3_pick_28 ?_
    refine v_cs (as := [_]) (rest := [_]) d_X3_pick_29 ls_X3_45 rfl ⟨by show 1 + 1 ≤ 0 + 3; omega, by show 8 + (2 + 11) + 40 * 1 ≤ 40 * (0 + 3); omega⟩ rfl (Nat.le_of_ble_eq_true rfl) (Nat.le_of_ble_eq_true rfl) (Nat.le_of_ble_eq_true rfl) ?_
    refine t_bitL ?_
    refine v_iaddN d_X3_pick_32 ?_
    rw [x_on_pc]
    refine v_istore (ls' := [_, _, _, _, _, _, _, _, _, _]) d_X3_pick_33 (Nat.le_of_ble_eq_true rfl) rfl ?_
    refine v_iload d_X3_pick_35 rfl ?_
    refine v_iload_n d_X3_pick_37 rfl ?_
    refine v_aload_n d_X3_pick_38 rfl ?_
    refine v_gie d_X3_pick_39 lf_X3_38_3 rfl (hS _ _ rfl) (hb) ?_
    refine v_imulN d_X3_pick_42 ?_
    have zle := x_ct_le (x_on (J 29 0 &&& (lo ^^^ -1)) (J 30 0 &&& (hi ^^^ -1))) 128
    rw [Nat.zero_mul]
    refine w_icmp_le d_X3_pick_43 (fun a43 => ?_) (fun a43 => ?_)
    · try simp (disch := omega) only [x_ti, x_tm1] at a43
      refine v_iload_n d_X3_pick_48 rfl ?_
      refine w_if_ne d_X3_pick_49 (fun h49 => absurd h49 (by decide)) (fun _ => ?_)
      refine v_aload_n d_X3_pick_52 rfl ?_
      refine v_iload_n d_X3_pick_53 rfl ?_
      refine v_pi d_X3_pick_54 (lp_X3_35_3 _) rfl (hS _ _ rfl) (rfl) rfl ?_
      refine v_iconst (v := nI 1) d_X3_pick_57 x_ic_1 ?_
      refine v_ret (v := some (.int _)) d_X3_pick_58 rfl ⟨rfl, _, rfl, rfl⟩ (Nat.le_of_ble_eq_true rfl) (Nat.le_of_ble_eq_true rfl) ?_
      have z0 : ∀ b, b < 128 → ¬ x_on (J 29 0 &&& (lo ^^^ -1)) (J 30 0 &&& (hi ^^^ -1)) b = true := fun b hb1 hp => by
        have y1 := x_ct_y hp
        have y2 := x_ct_mo (x_on (J 29 0 &&& (lo ^^^ -1)) (J 30 0 &&& (hi ^^^ -1))) (show b + 1 ≤ 128 by omega)
        omega
      have zc : f_cov L m T (g + 0) R := (hD.2.2.1 g R hRr.1).mpr (fun b hb1 ⟨j, j1, j2⟩ => by
        have y1 := (hD.2.2.2.1 0 b (Nat.zero_le _) hb1).mpr ⟨j, Nat.zero_le _, j1, j2⟩
        have y2 := z0 b hb1
        rw [x_on_an _ _ _ _ hb1, y1, Bool.true_and] at y2
        refine (hl b hb1).mp ?_
        cases y3 : x_on lo hi b with
        | true => rfl
        | false => rw [y3] at y2; exact absurd rfl y2)
      exact hyes R ⟨hRr, fun _ _ => rfl, fun q => absurd q (Nat.lt_irrefl _)⟩ zc (fun C he _ ⟨i, i1, i2, i3⟩ => by rw [he.2.1 i i1] at i3; omega)
    · try simp (disch := omega) only [x_ti, x_tm1] at a43
      refine v_iconst (v := nI 0) d_X3_pick_46 x_ic_0 ?_
      refine v_ret (v := some (.int _)) d_X3_pick_47 rfl ⟨rfl, _, rfl, rfl⟩ (Nat.le_of_ble_eq_true rfl) (Nat.le_of_ble_eq_true rfl) ?_
      exact hno (fun C he hcv => by have z9 := p_miss hD hl he hcv; rw [Nat.zero_mul] at z9; omega)
  | succ w ih =>
    intro K S P I J n g f R lo hi hD hc hb hRr hRf hfm hgw hl hS hP hyes hno
    have hm16 := hD.1
    have hM := hD.2.1
    refine x_intro (show plainName RX3 = true by decide) 2 (ls := [_, _, _, _, _, _, _, _, _, _]) rfl (Nat.le_of_ble_eq_true rfl) ?_
    refine v_aload_n d_X3_pick_0 rfl ?_
    refine v_gr d_X3_pick_1 lf_X3_25_3 rfl (hS _ _ rfl) (hP _ _ _ rfl) ?_
    refine v_iconst (v := nI 0) d_X3_pick_4 x_ic_0 ?_
    refine v_lald _ d_X3_pick_5 (rfl) (hS _ _ rfl) (⟨by omega, by omega⟩) (rfl) ?_
    refine v_lload d_X3_pick_6 rfl ?_
    refine v_ldc2 d_X3_pick_8 lk_X3_60 ?_
    refine v_lxor d_X3_pick_11 ?_
    refine v_land d_X3_pick_12 ?_
    refine v_cs (as := [_]) (rest := []) d_X3_pick_13 ls_X3_45 rfl ⟨by show 1 + 1 ≤ (w + 1) + 3; omega, by show 8 + (2 + 11) + 40 * 1 ≤ 40 * ((w + 1) + 3); omega⟩ rfl (Nat.le_of_ble_eq_true rfl) (Nat.le_of_ble_eq_true rfl) (Nat.le_of_ble_eq_true rfl) ?_
    refine t_bitL ?_
    refine v_aload_n d_X3_pick_16 rfl ?_
    refine v_gr d_X3_pick_17 lf_X3_28_3 rfl (hS _ _ rfl) (hP _ _ _ rfl) ?_
    refine v_iconst (v := nI 0) d_X3_pick_20 x_ic_0 ?_
    refine v_lald _ d_X3_pick_21 (rfl) (hS _ _ rfl) (⟨by omega, by omega⟩) (rfl) ?_
    refine v_lload d_X3_pick_22 rfl ?_
    refine v_ldc2 d_X3_pick_24 lk_X3_60 ?_
    refine v_lxor d_X3_pick_27 ?_
    refine v_land d_X3_pick_28 ?_
    refine v_cs (as := [_]) (rest := [_]) d_X3_pick_29 ls_X3_45 rfl ⟨by show 1 + 1 ≤ (w + 1) + 3; omega, by show 8 + (2 + 11) + 40 * 1 ≤ 40 * ((w + 1) + 3); omega⟩ rfl (Nat.le_of_ble_eq_true rfl) (Nat.le_of_ble_eq_true rfl) (Nat.le_of_ble_eq_true rfl) ?_
    refine t_bitL ?_
    refine v_iaddN d_X3_pick_32 ?_
    rw [x_on_pc]
    refine v_istore (ls' := [_, _, _, _, _, _, _, _, _, _]) d_X3_pick_33 (Nat.le_of_ble_eq_true rfl) rfl ?_
    refine v_iload d_X3_pick_35 rfl ?_
    refine v_iload_n d_X3_pick_37 rfl ?_
    refine v_aload_n d_X3_pick_38 rfl ?_
    refine v_gie d_X3_pick_39 lf_X3_38_3 rfl (hS _ _ rfl) (hb) ?_
    refine v_imulN d_X3_pick_42 ?_
    have zle := x_ct_le (x_on (J 29 0 &&& (lo ^^^ -1)) (J 30 0 &&& (hi ^^^ -1))) 128
    have zM : (w + 1) * M ≤ 16 * 128 := Nat.mul_le_mul (by omega) hM
    refine w_icmp_le d_X3_pick_43 (fun a43 => ?_) (fun a43 => ?_)
    · try simp (disch := omega) only [x_ti, x_tm1] at a43
      refine v_iload_n d_X3_pick_48 rfl ?_
      refine w_if_ne d_X3_pick_49 (fun h49 => ?_) (fun h49 => False.elim (by (try simp (disch := omega) only [x_ti, x_tm1] at h49); omega))
      refine v_iload_n d_X3_pick_59 rfl ?_
      refine v_istore (ls' := [_, _, _, _, _, _, _, _, _, _]) d_X3_pick_60 (Nat.le_of_ble_eq_true rfl) rfl ?_
      have hwm : w + 1 ≤ m := by omega
      have lp : ∀ d k : Nat, m ≤ k + w + d → f ≤ k → k ≤ m → (∀ C, p_ext m g (w + 1) f R C → f_cov L m T (g + (w + 1)) C → k ≤ C g) → x_V (f_X3_pick (w + 1)) K 62 [some (.ref 24), some (.int (nI f)), some (.int (nI (w + 1))), some (.int (nI (h_mk R g))), some (.long lo), none, some (.long hi), none, some (.int (nI (x_ct (x_on (J 29 0 &&& (lo ^^^ -1)) (J 30 0 &&& (hi ^^^ -1))) 128))), some (.int (nI k))] [] S P I J n 0 0 := by
        intro d
        induction d with
        | zero =>
          intro k hd hfk hkm hk
          refine v_iload d_X3_pick_62 rfl ?_
          refine v_iload_n d_X3_pick_64 rfl ?_
          refine v_iaddN d_X3_pick_65 ?_
          refine v_aload_n d_X3_pick_66 rfl ?_
          refine v_gie d_X3_pick_67 lf_X3_31_3 rfl (hS _ _ rfl) (hc) ?_
          refine w_icmp_gt d_X3_pick_70 (fun h70 => ?_) (fun h70 => False.elim (by (try simp (disch := omega) only [x_ti, x_tm1] at h70); omega))
          refine v_iconst (v := nI 0) d_X3_pick_163 x_ic_0 ?_
          refine v_ret (v := some (.int _)) d_X3_pick_164 rfl ⟨rfl, _, rfl, rfl⟩ (Nat.le_of_ble_eq_true rfl) (Nat.le_of_ble_eq_true rfl) ?_
          exact hno (fun C he hcv => by have z1 := hk C he hcv; have z2 := f_row_le he.1 w g (by omega); omega)
        | succ d lp =>
          intro k hd hfk hkm hk
          by_cases zk : m < k + (w + 1)
          · refine v_iload d_X3_pick_62 rfl ?_
            refine v_iload_n d_X3_pick_64 rfl ?_
            refine v_iaddN d_X3_pick_65 ?_
            refine v_aload_n d_X3_pick_66 rfl ?_
            refine v_gie d_X3_pick_67 lf_X3_31_3 rfl (hS _ _ rfl) (hc) ?_
            refine w_icmp_gt d_X3_pick_70 (fun h70 => ?_) (fun h70 => False.elim (by (try simp (disch := omega) only [x_ti, x_tm1] at h70); omega))
            refine v_iconst (v := nI 0) d_X3_pick_163 x_ic_0 ?_
            refine v_ret (v := some (.int _)) d_X3_pick_164 rfl ⟨rfl, _, rfl, rfl⟩ (Nat.le_of_ble_eq_true rfl) (Nat.le_of_ble_eq_true rfl) ?_
            exact hno (fun C he hcv => by have z1 := hk C he hcv; have z2 := f_row_le he.1 w g (by omega); omega)
          · refine v_iload d_X3_pick_62 rfl ?_
            refine v_iload_n d_X3_pick_64 rfl ?_
            refine v_iaddN d_X3_pick_65 ?_
            refine v_aload_n d_X3_pick_66 rfl ?_
            refine v_gie d_X3_pick_67 lf_X3_31_3 rfl (hS _ _ rfl) (hc) ?_
            refine w_icmp_gt d_X3_pick_70 (fun h70 => False.elim (by (try simp (disch := omega) only [x_ti, x_tm1] at h70); omega)) (fun h70 => ?_)
            refine v_lload d_X3_pick_73 rfl ?_
            refine v_aload_n d_X3_pick_75 rfl ?_
            refine v_gr d_X3_pick_76 lf_X3_25_3 rfl (hS _ _ rfl) (hP _ _ _ rfl) ?_
            refine v_iload d_X3_pick_79 rfl ?_
            refine v_lald _ d_X3_pick_81 (rfl) (hS _ _ rfl) (⟨by omega, by omega⟩) (rfl) ?_
            refine v_lor d_X3_pick_82 ?_
            refine v_aload_n d_X3_pick_83 rfl ?_
            refine v_gr d_X3_pick_84 lf_X3_25_3 rfl (hS _ _ rfl) (hP _ _ _ rfl) ?_
            refine v_iconst (v := nI 0) d_X3_pick_87 x_ic_0 ?_
            refine v_lald _ d_X3_pick_88 (rfl) (hS _ _ rfl) (⟨by omega, by omega⟩) (rfl) ?_
            refine w_lc_ne d_X3_pick_89 d_X3_pick_90 (fun a89 => ?_) (fun a89 => ?_)
            · refine v_iconst (v := nI 0) d_X3_pick_113 x_ic_0 ?_
              refine v_ret (v := some (.int _)) d_X3_pick_114 rfl ⟨rfl, _, rfl, rfl⟩ (Nat.le_of_ble_eq_true rfl) (Nat.le_of_ble_eq_true rfl) ?_
              exact hno (fun C he hcv => by have z1 := hk C he hcv; have z2 := p_dark (k := k) hD hl (fun i hi1 => hRr.1 i hi1) (by omega) hkm ⟨he.1, he.2.1, fun _ => z1⟩ hcv; first | exact a89 (congrArg Int64.toInt z2.1) | exact a109 (congrArg Int64.toInt z2.2))
            · refine v_lload d_X3_pick_93 rfl ?_
              refine v_aload_n d_X3_pick_95 rfl ?_
              refine v_gr d_X3_pick_96 lf_X3_28_3 rfl (hS _ _ rfl) (hP _ _ _ rfl) ?_
              refine v_iload d_X3_pick_99 rfl ?_
              refine v_lald _ d_X3_pick_101 (rfl) (hS _ _ rfl) (⟨by omega, by omega⟩) (rfl) ?_
              refine v_lor d_X3_pick_102 ?_
              refine v_aload_n d_X3_pick_103 rfl ?_
              refine v_gr d_X3_pick_104 lf_X3_28_3 rfl (hS _ _ rfl) (hP _ _ _ rfl) ?_
              refine v_iconst (v := nI 0) d_X3_pick_107 x_ic_0 ?_
              refine v_lald _ d_X3_pick_108 (rfl) (hS _ _ rfl) (⟨by omega, by omega⟩) (rfl) ?_
              refine w_lc_eq d_X3_pick_109 d_X3_pick_110 (fun a109 => ?_) (fun a109 => ?_)
              · have zRk : h_mk R g + 2 ^ k = h_mk (fun i => if i = g then k else R i) (g + 1) := by
                  rw [h_mk]
                  have e1 : h_mk (fun i => if i = g then k else R i) g = h_mk R g := h_mk_cg g (fun i hi1 => if_neg (by omega))
                  rw [e1]
                  simp
                have zrow : f_row m (g + 1) (fun i => if i = g then k else R i) := by
                  refine ⟨fun i hi1 => ?_, fun i j h1 h2 => ?_⟩
                  · show (if i = g then k else R i) < m
                    by_cases e : i = g
                    · rw [if_pos e]; omega
                    · rw [if_neg e]; exact hRr.1 i (by omega)
                  · show (if i = g then k else R i) < (if j = g then k else R j)
                    rw [if_neg (by omega)]
                    by_cases e : j = g
                    · rw [if_pos e]; have := hRf i (by omega); omega
                    · rw [if_neg e]; exact hRr.2 i j h1 (by omega)
                have zlit : p_lit J (g + 1) (fun i => if i = g then k else R i) (lo ||| J 27 k) (hi ||| J 28 k) := fun b hb1 => by
                  rw [x_on_or, Bool.or_eq_true, hl b hb1]
                  constructor
                  · intro q
                    rcases q with ⟨i, i1, i2⟩ | q
                    · refine ⟨i, by omega, ?_⟩
                      show p_on J (if i = g then k else R i) b = true
                      rw [if_neg (by omega)]; exact i2
                    · refine ⟨g, by omega, ?_⟩
                      show p_on J (if g = g then k else R g) b = true
                      rw [if_pos rfl]; exact q
                  · intro ⟨i, i1, i2⟩
                    have i2 : p_on J (if i = g then k else R i) b = true := i2
                    by_cases e : i = g
                    · rw [if_pos e] at i2; exact Or.inr i2
                    · rw [if_neg e] at i2; exact Or.inl ⟨i, by omega, i2⟩
                have zext : ∀ C, p_ext m (g + 1) w (k + 1) (fun i => if i = g then k else R i) C ↔ (p_ext m g (w + 1) f R C ∧ C g = k) := fun C => by
                  have e9 : g + 1 + w = g + (w + 1) := by omega
                  unfold p_ext
                  rw [e9]
                  constructor
                  · intro ⟨q1, q2, q3⟩
                    have hg : C g = k := (q2 g (by omega)).trans (if_pos rfl)
                    refine ⟨⟨q1, fun i hi1 => ?_, fun _ => by omega⟩, hg⟩
                    have := q2 i (by omega)
                    rw [this]; exact if_neg (by omega)
                  · intro ⟨⟨q1, q2, q3⟩, q4⟩
                    refine ⟨q1, fun i hi1 => ?_, fun hw1 => ?_⟩
                    · show C i = if i = g then k else R i
                      by_cases e : i = g
                      · rw [if_pos e, e]; exact q4
                      · rw [if_neg e]; exact q2 i (by omega)
                    · have := q1.2 g (g + 1) (by omega) (by omega)
                      omega
                have zmk : h_mk R g < 2 ^ k := h_mk_lt g hRr.2 (fun i hi1 => by have := hRf i hi1; omega)
                have e9 : g + 1 + w = g + (w + 1) := by omega
                refine v_aload_n d_X3_pick_115 rfl ?_
                refine v_iload d_X3_pick_116 rfl ?_
                refine v_iconst (v := nI 1) d_X3_pick_118 x_ic_1 ?_
                refine v_iaddN d_X3_pick_119 ?_
                refine v_iload_n d_X3_pick_120 rfl ?_
                refine v_iconst (v := nI 1) d_X3_pick_121 x_ic_1 ?_
                refine v_isub d_X3_pick_122 ?_
                rw [x_subN (by omega), Nat.add_sub_cancel]
                refine v_iload_n d_X3_pick_123 rfl ?_
                refine v_iconst (v := nI 1) d_X3_pick_124 x_ic_1 ?_
                refine v_iload d_X3_pick_125 rfl ?_
                refine v_ishl d_X3_pick_127 ?_
                refine v_ior d_X3_pick_128 ?_
                rw [x_ior1 (by omega) zmk, zRk]
                refine v_lload d_X3_pick_129 rfl ?_
                refine v_aload_n d_X3_pick_131 rfl ?_
                refine v_gr d_X3_pick_132 lf_X3_18_3 rfl (hS _ _ rfl) (hP _ _ _ rfl) ?_
                refine v_iload d_X3_pick_135 rfl ?_
                refine v_lald _ d_X3_pick_137 (rfl) (hS _ _ rfl) (⟨by omega, by omega⟩) (rfl) ?_
                refine v_lor d_X3_pick_138 ?_
                refine v_lload d_X3_pick_139 rfl ?_
                refine v_aload_n d_X3_pick_141 rfl ?_
                refine v_gr d_X3_pick_142 lf_X3_22_3 rfl (hS _ _ rfl) (hP _ _ _ rfl) ?_
                refine v_iload d_X3_pick_145 rfl ?_
                refine v_lald _ d_X3_pick_147 (rfl) (hS _ _ rfl) (⟨by omega, by omega⟩) (rfl) ?_
                refine v_lor d_X3_pick_148 ?_
                refine v_cv (as := [_, _, _, _, _]) (rest := []) d_X3_pick_149 (lv_X3_56_3 _) (hS _ _ rfl) rfl ⟨by show w + 3 + 1 ≤ w + 1 + 3; omega, by show 8 + (10 + 11) + 40 * (w + 3) ≤ 40 * (w + 1 + 3); omega⟩ rfl (Nat.le_of_ble_eq_true rfl) (Nat.le_of_ble_eq_true rfl) (Nat.le_of_ble_eq_true rfl) ?_
                refine ih _ S P I J n (g + 1) (k + 1) (fun i => if i = g then k else R i) (lo ||| J 27 k) (hi ||| J 28 k) hD hc hb zrow (fun i hi1 => by show (if i = g then k else R i) < k + 1; by_cases e : i = g; rw [if_pos e]; omega; rw [if_neg e]; have := hRf i (by omega); omega) (by omega) (by omega) zlit hS hP (fun Q zq1 zq2 zq3 => ?_) (fun zq0 => ?_)
                · refine w_if_eq d_X3_pick_152 (fun h152 => absurd h152 (by decide)) (fun _ => ?_)
                  refine v_iconst (v := nI 1) d_X3_pick_155 x_ic_1 ?_
                  refine v_ret (v := some (.int _)) d_X3_pick_156 rfl ⟨rfl, _, rfl, rfl⟩ (Nat.le_of_ble_eq_true rfl) (Nat.le_of_ble_eq_true rfl) ?_
                  rw [e9] at zq2 zq3 ⊢
                  have zx := (zext Q).mp zq1
                  refine hyes Q zx.1 zq2 (fun C he hcv hlt => ?_)
                  have z1 := hk C he hcv
                  by_cases e : C g = k
                  · exact zq3 C ((zext C).mpr ⟨he, e⟩) hcv hlt
                  · obtain ⟨i, i1, i2, i3⟩ := hlt
                    rcases Nat.lt_trichotomy i g with v | v | v
                    · rw [he.2.1 i v, zx.1.2.1 i v] at i3; omega
                    · subst v; omega
                    · have := i2 g v; omega
                · refine w_if_eq d_X3_pick_152 (fun _ => ?_) (fun h152 => absurd h152 (by decide))
                  first | refine v_iinc (ls' := [_, _, _, _, _, _, _, _, _, _]) d_X3_pick_157 rfl (x_inc_1 _) (Nat.le_of_ble_eq_true rfl) rfl ?_ | refine v_iinc (ls' := [_, _, _, _, _, _, _, _, _, _]) d_X3_pick_157 rfl rfl (Nat.le_of_ble_eq_true rfl) rfl ?_
                  refine v_goto d_X3_pick_160 ?_
                  refine lp (k + 1) (by omega) (by omega) (by omega) (fun C he hcv => ?_)
                  have z1 := hk C he hcv
                  by_cases e : C g = k
                  · exact absurd (e9 ▸ hcv) (zq0 C ((zext C).mpr ⟨he, e⟩))
                  · omega
              · refine v_iconst (v := nI 0) d_X3_pick_113 x_ic_0 ?_
                refine v_ret (v := some (.int _)) d_X3_pick_114 rfl ⟨rfl, _, rfl, rfl⟩ (Nat.le_of_ble_eq_true rfl) (Nat.le_of_ble_eq_true rfl) ?_
                exact hno (fun C he hcv => by have z1 := hk C he hcv; have z2 := p_dark (k := k) hD hl (fun i hi1 => hRr.1 i hi1) (by omega) hkm ⟨he.1, he.2.1, fun _ => z1⟩ hcv; first | exact a89 (congrArg Int64.toInt z2.1) | exact a109 (congrArg Int64.toInt z2.2))
      exact lp m f (by omega) (Nat.le_refl _) hfm (fun C he _ => he.2.2 (by omega))
    · try simp (disch := omega) only [x_ti, x_tm1] at a43
      refine v_iconst (v := nI 0) d_X3_pick_46 x_ic_0 ?_
      refine v_ret (v := some (.int _)) d_X3_pick_47 rfl ⟨rfl, _, rfl, rfl⟩ (Nat.le_of_ble_eq_true rfl) (Nat.le_of_ble_eq_true rfl) ?_
      exact hno (fun C he hcv => by have z9 := p_miss hD hl he hcv; omega)

