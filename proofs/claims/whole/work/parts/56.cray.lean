/-! The class's ray. -/
def c5 (a k : Nat) : Bool := Nat.beq a 5 && (Nat.ble 6 k && Nat.ble k 8)
theorem c5_E {a k : Nat} (h : cE a k = false) : c5 a k = false := by
  unfold c5
  cases hc : Nat.beq a 5 with
  | true => unfold cE at h; rw [hc] at h; cases h
  | false => rfl
theorem x_ex.c5E {I I' : x_I} {J J' : x_J} (h : x_ex c5 I I' J J') : x_ex cE I I' J J' := fun a k hk => h a k (c5_E hk)
def c_nx (fa : Nat → Nat) (b : Option (Nat × Nat × Int × Int)) (P : x_P) (I : x_I) : Prop := match b with
  | none => P 5 5 = none
  | some (s, c, u, d) => P 5 5 = some (fa s + 1) ∧ I 5 6 = nI c ∧ (I 5 7).toInt = u ∧ (I 5 8).toInt = d
theorem r_sh {p f d q u : Int32} (hp : -1000 ≤ p.toInt ∧ p.toInt ≤ 1000) (hf : 0 ≤ f.toInt ∧ f.toInt ≤ 40) (hd : 1 ≤ d.toInt ∧ d.toInt ≤ 100) (hq : -100 ≤ q.toInt ∧ q.toInt ≤ 100) (hu : -2000 ≤ u.toInt ∧ u.toInt ≤ 2000) : ((p - nI 2 * f) * d + q * u).toInt = (p.toInt - 2 * f.toInt) * d.toInt + q.toInt * u.toInt := by
  have e2 : (nI 2).toInt = 2 := by decide
  have e1 : (nI 2 * f).toInt = 2 * f.toInt := by rw [x_mul (by rw [e2]; omega) (by rw [e2]; omega), e2]
  have e3 : (p - nI 2 * f).toInt = p.toInt - 2 * f.toInt := by rw [x_sub (by rw [e1]; omega) (by rw [e1]; omega), e1]
  have b1 := x_pb (a := p.toInt - 2 * f.toInt) (b := d.toInt) (A := 1080) (B := 100) (by omega) (by omega) (by omega) (by omega)
  have e4 : ((p - nI 2 * f) * d).toInt = (p.toInt - 2 * f.toInt) * d.toInt := by rw [x_mul (by rw [e3]; omega) (by rw [e3]; omega), e3]
  have b2 := x_pb (a := q.toInt) (b := u.toInt) (A := 100) (B := 2000) (by omega) (by omega) (by omega) (by omega)
  have e5 : (q * u).toInt = q.toInt * u.toInt := x_mul (by omega) (by omega)
  rw [x_add (by rw [e4, e5]; omega) (by rw [e4, e5]; omega), e4, e5]
theorem r_ws {P Q U D f : Int} (hD : 0 < D) : (P * D + Q * U) / (D * 2) - f = ((P - 2 * f) * D + Q * U) / (2 * D) := by
  have h1 : 2 * f * D = f * (2 * D) := by rw [Int.mul_comm 2 f, Int.mul_assoc]
  have e : (P - 2 * f) * D + Q * U = (P * D + Q * U) + (-f) * (2 * D) := by rw [Int.sub_mul, Int.neg_mul]; omega
  rw [e, Int.add_mul_ediv_right _ _ (by omega), Int.mul_comm D 2]
  omega
theorem r_dn_z {Z : x_I} {q : Nat → Int} {s : Nat} : r_dn Z q s = 0 ↔ q (r_a Z s) = 0 := by
  unfold r_dn; split <;> omega
theorem r_com_n {Z : x_I} {fine : Int} {p q : Nat → Int} {lu ld : Int} {s : Nat} (h : q (r_a Z s) = 0 ∨ r_up Z fine p q s * ld ≤ lu * r_dn Z q s ∨ ¬ (0 ≤ r_i Z fine p q s ∧ r_i Z fine p q s < (Z 41 (6 * s + 4)).toInt ∧ 0 ≤ r_jj Z fine p q s ∧ r_jj Z fine p q s < (Z 41 (6 * s + 5)).toInt)) : r_com Z fine p q lu ld s = none := by
  unfold r_com
  split
  · rfl
  · split
    · rfl
    · rw [if_neg]
      rcases h with h | h | h
      · contradiction
      · contradiction
      · exact h
theorem r_com_s {Z : x_I} {fine : Int} {p q : Nat → Int} {lu ld : Int} {s : Nat} (h1 : ¬ q (r_a Z s) = 0) (h2 : ¬ r_up Z fine p q s * ld ≤ lu * r_dn Z q s) (h3 : 0 ≤ r_i Z fine p q s ∧ r_i Z fine p q s < (Z 41 (6 * s + 4)).toInt ∧ 0 ≤ r_jj Z fine p q s ∧ r_jj Z fine p q s < (Z 41 (6 * s + 5)).toInt) : r_com Z fine p q lu ld s = some (((Z 41 (6 * s + 4)).toInt * r_jj Z fine p q s + r_i Z fine p q s).toNat, r_up Z fine p q s, r_dn Z q s) := by
  unfold r_com
  rw [if_neg h1, if_neg h2, if_pos h3]
theorem r_pick_k {Z : x_I} {fine : Int} {p q : Nat → Int} {lu ld : Int} {s s' c' : Nat} {u' d' : Int} (h : ¬ r_up Z fine p q s * d' < u' * r_dn Z q s) : r_pick (some (s', c', u', d')) s (r_com Z fine p q lu ld s) = some (s', c', u', d') := by
  unfold r_com
  split
  · rfl
  · split
    · rfl
    · split
      · show (if _ then _ else _) = _
        rw [if_neg h]
      · rfl
theorem r_pick_t {s c s' c' : Nat} {u d u' d' : Int} (h : u * d' < u' * d) : r_pick (some (s', c', u', d')) s (some (c, u, d)) = some (s, c, u, d) := by
  show (if _ then _ else _) = _
  rw [if_pos h]

set_option maxRecDepth 100000 in
set_option maxHeartbeats 4000000 in
theorem t_X6_cellAlong {K : x_K} {S : x_S} {P : x_P} {I : x_I} {J : x_J} {n : Nat} {x f u d : Int32} (ax : Nat) (hx : x = nI ax) (hax : ax < 3) (hp : -1000 ≤ (I 6 ax).toInt ∧ (I 6 ax).toInt ≤ 1000) (hq : -100 ≤ (I 7 ax).toInt ∧ (I 7 ax).toInt ≤ 100) (hf : 0 ≤ f.toInt ∧ f.toInt ≤ 40) (hu : -2000 ≤ u.toInt ∧ u.toInt ≤ 2000) (hd : 1 ≤ d.toInt ∧ d.toInt ≤ 100) (hS : x_hS S) (hP : x_hP P) (hK : ∀ r : Int32, (r_w 2 (fun a => (I 6 a).toInt) (fun a => (I 7 a).toInt) u.toInt d.toInt ax - f.toInt < 0 → r.toInt = -1) → (0 ≤ r_w 2 (fun a => (I 6 a).toInt) (fun a => (I 7 a).toInt) u.toInt d.toInt ax - f.toInt → r.toInt = r_w 2 (fun a => (I 6 a).toInt) (fun a => (I 7 a).toInt) u.toInt d.toInt ax - f.toInt) → K (some (.int r)) S P I J n) : x_Call f_X6_cellAlong [.ref 5, .int x, .int f, .int u, .int d] K S P I J n := by
  subst hx
  have eW : r_w 2 (fun a => (I 6 a).toInt) (fun a => (I 7 a).toInt) u.toInt d.toInt ax - f.toInt = (((I 6 ax).toInt - 2 * f.toInt) * d.toInt + (I 7 ax).toInt * u.toInt) / (2 * d.toInt) := r_ws (by omega)
  rw [eW] at hK
  have eE := r_sh hp hf hd hq hu
  have e2 : (nI 2).toInt = 2 := by decide
  have e7 : (nI 2 * d).toInt = 2 * d.toInt := by rw [x_mul (by rw [e2]; omega) (by rw [e2]; omega), e2]
  refine x_intro (by decide) 1 (ls := [_, _, _, _, _, _]) rfl (Nat.le_of_ble_eq_true rfl) ?_
  refine v_aload_n d_X6_cellAlong_0 rfl ?_
  refine v_gr d_X6_cellAlong_1 lf_X6_9_6 rfl (hS _ _ rfl) (hP _ _ _ rfl) ?_
  refine v_iload_n d_X6_cellAlong_4 rfl ?_
  refine v_iald _ d_X6_cellAlong_5 (rfl) (hS _ _ rfl) (⟨by omega, by omega⟩) (rfl) ?_
  refine v_iconst (v := nI 2) d_X6_cellAlong_6 x_ic_2 ?_
  refine v_iload_n d_X6_cellAlong_7 rfl ?_
  refine v_imul d_X6_cellAlong_8 ?_
  refine v_isub d_X6_cellAlong_9 ?_
  refine v_iload d_X6_cellAlong_10 rfl ?_
  refine v_imul d_X6_cellAlong_12 ?_
  refine v_aload_n d_X6_cellAlong_13 rfl ?_
  refine v_gr d_X6_cellAlong_14 lf_X6_15_6 rfl (hS _ _ rfl) (hP _ _ _ rfl) ?_
  refine v_iload_n d_X6_cellAlong_17 rfl ?_
  refine v_iald _ d_X6_cellAlong_18 (rfl) (hS _ _ rfl) (⟨by omega, by omega⟩) (rfl) ?_
  refine v_iload_n d_X6_cellAlong_19 rfl ?_
  refine v_imul d_X6_cellAlong_20 ?_
  refine v_iadd d_X6_cellAlong_21 ?_
  rw [← eE] at hK
  generalize (I 6 ax - nI 2 * f) * d + I 7 ax * u = e at eE hK ⊢
  refine v_istore (ls' := [_, _, _, _, _, _]) d_X6_cellAlong_22 (by decide) rfl ?_
  refine v_iload d_X6_cellAlong_24 rfl ?_
  refine w_if_lt d_X6_cellAlong_26 (fun a26 => ?_) (fun a26 => ?_)
  · try simp (disch := omega) only [x_ti, x_tm1] at a26
    refine v_iconst (v := (-1)) d_X6_cellAlong_35 x_ic_m1 ?_
    refine v_goto d_X6_cellAlong_36 ?_
    refine v_ret (v := some (.int _)) d_X6_cellAlong_46 rfl ⟨rfl, _, rfl, rfl⟩ (by decide) (by decide) ?_
    first | exact hK _ (fun _ => x_tm1) (fun z => absurd (Int.ediv_neg_of_neg_of_pos a26 (show 0 < 2 * d.toInt by omega)) (by omega)) | (exfalso; omega)
  · try simp (disch := omega) only [x_ti, x_tm1] at a26
    refine v_iload d_X6_cellAlong_29 rfl ?_
    refine v_iconst (v := nI 1) d_X6_cellAlong_31 x_ic_1 ?_
    refine w_icmp_ge d_X6_cellAlong_32 (fun a32 => ?_) (fun a32 => ?_)
    · try simp (disch := omega) only [x_ti, x_tm1] at a32
      refine v_iload d_X6_cellAlong_39 rfl ?_
      refine v_iconst (v := nI 2) d_X6_cellAlong_41 x_ic_2 ?_
      refine v_iload d_X6_cellAlong_42 rfl ?_
      refine v_imul d_X6_cellAlong_44 ?_
      refine v_idiv d_X6_cellAlong_45 (fun z => by rw [z, x_t0] at e7; omega) ?_
      refine v_ret (v := some (.int _)) d_X6_cellAlong_46 rfl ⟨rfl, _, rfl, rfl⟩ (by decide) (by decide) ?_
      exact hK _ (fun z => absurd (Int.ediv_nonneg a26 (show 0 ≤ 2 * d.toInt by omega)) (by omega)) (fun _ => by rw [x_div a26 (by omega), e7])
    · try simp (disch := omega) only [x_ti, x_tm1] at a32
      refine v_iconst (v := (-1)) d_X6_cellAlong_35 x_ic_m1 ?_
      refine v_goto d_X6_cellAlong_36 ?_
      refine v_ret (v := some (.int _)) d_X6_cellAlong_46 rfl ⟨rfl, _, rfl, rfl⟩ (by decide) (by decide) ?_
      first | exact hK _ (fun _ => x_tm1) (fun z => absurd (Int.ediv_neg_of_neg_of_pos a26 (show 0 < 2 * d.toInt by omega)) (by omega)) | (exfalso; omega)

set_option maxRecDepth 100000 in
set_option maxHeartbeats 4000000 in
theorem l_X6_consider {K : x_K} {S : x_S} {P : x_P} {I : x_I} {J : x_J} {n : Nat} {fa : Nat → Nat} {Z : x_I} {s : Nat} {u d : Int32} (b : Option (Nat × Nat × Int × Int)) (hw : c_w fa Z S P I n s) (hfo : m_fo Z s) (hb : c_nx fa b P I) (hbb : ∀ s' c' u' d', b = some (s', c', u', d') → (-2000 ≤ u' ∧ u' ≤ 2000) ∧ (1 ≤ d' ∧ d' ≤ 100)) (hlu : -2000 ≤ (I 5 3).toInt ∧ (I 5 3).toInt ≤ 2000) (hld : 1 ≤ (I 5 4).toInt ∧ (I 5 4).toInt ≤ 100) (hp : ∀ a, a < 3 → -1000 ≤ (I 6 a).toInt ∧ (I 6 a).toInt ≤ 1000) (hq : ∀ a, a < 3 → -100 ≤ (I 7 a).toInt ∧ (I 7 a).toInt ≤ 100) (hS : x_hS S) (hP : x_hP P) (hu : u.toInt = r_up Z 2 (fun a => (I 6 a).toInt) (fun a => (I 7 a).toInt) s) (hd : d.toInt = r_dn Z (fun a => (I 7 a).toInt) s) (hub : -2000 ≤ u.toInt ∧ u.toInt ≤ 2000) (hdb : 0 ≤ d.toInt ∧ d.toInt ≤ 100) (hK : ∀ (P' : x_P) (I' : x_I), p_ex P P' → x_ex c5 I I' J J → c_nx fa (r_pick b s (r_com Z 2 (fun a => (I 6 a).toInt) (fun a => (I 7 a).toInt) (I 5 3).toInt (I 5 4).toInt s)) P' I' → K none S P' I' J n) :
    x_V f_X6_consider K 45 [some (.ref 5), some (.ref (fa s + 1)), some (.ref (fa s)), some (.int d), some (.int u), none, none] [] S P I J n 0 0 := by
  have m1 : (u * I 5 4).toInt = u.toInt * (I 5 4).toInt := by have := x_pb (a := u.toInt) (b := (I 5 4).toInt) (A := 2000) (B := 100) (by omega) (by omega) (by omega) (by omega); exact x_mul (by omega) (by omega)
  have m2 : (I 5 3 * d).toInt = (I 5 3).toInt * d.toInt := by have := x_pb (a := (I 5 3).toInt) (b := d.toInt) (A := 2000) (B := 100) (by omega) (by omega) (by omega) (by omega); exact x_mul (by omega) (by omega)
  obtain ⟨f0, f1, f2, f3, f4, f5, f6, f7⟩ := id hfo
  cases b with
  | none =>
    refine v_iload_n d_X6_consider_45 rfl ?_
    refine w_if_eq d_X6_consider_46 (fun a46 => ?_) (fun a46 => ?_)
    · try simp (disch := omega) only [x_ti, x_tm1] at a46
      refine v_ret (v := none) d_X6_consider_65 rfl ⟨rfl, rfl⟩ (by decide) (by decide) ?_
      refine hK P I p_ex.rf x_ex.rf ?_
      first
        | (rw [r_com_n (Or.inl (r_dn_z.mp (hd.symm.trans a46)))]; exact hb)
        | (rw [r_com_n (Or.inr (Or.inl (by rw [← hu, ← hd]; omega)))]; exact hb)
    · try simp (disch := omega) only [x_ti, x_tm1] at a46
      have hd1 : 1 ≤ d.toInt ∧ d.toInt ≤ 100 := by omega
      refine v_iload d_X6_consider_49 rfl ?_
      refine v_aload_n d_X6_consider_51 rfl ?_
      refine v_gi d_X6_consider_52 lf_X6_29_6 rfl (hS _ _ rfl) ?_
      refine v_imul d_X6_consider_55 ?_
      refine v_aload_n d_X6_consider_56 rfl ?_
      refine v_gi d_X6_consider_57 lf_X6_26_6 rfl (hS _ _ rfl) ?_
      refine v_iload_n d_X6_consider_60 rfl ?_
      refine v_imul d_X6_consider_61 ?_
      refine w_icmp_gt d_X6_consider_62 (fun a62 => ?_) (fun a62 => ?_)
      · try simp (disch := omega) only [x_ti, x_tm1] at a62
        refine v_aload_n d_X6_consider_66 rfl ?_
        refine v_gn d_X6_consider_67 lf_X6_32_6 rfl (hS _ _ rfl) (hb) ?_
        refine v_ifnullN d_X6_consider_70 ?_
        refine v_aload_n d_X6_consider_90 rfl ?_
        refine v_aload_n d_X6_consider_91 rfl ?_
        refine v_gie d_X6_consider_92 lf_X6_83_1 rfl (hw.sf) (hw.fl.o1) ?_
        refine v_aload_n d_X6_consider_95 rfl ?_
        refine v_gie d_X6_consider_96 lf_X6_86_1 rfl (hw.sf) (hw.fl.u) ?_
        refine v_iload d_X6_consider_99 rfl ?_
        refine v_iload_n d_X6_consider_101 rfl ?_
        refine v_cv (as := [_, _, _, _]) (rest := []) d_X6_consider_102 lv_X6_89_6 (hS _ _ rfl) rfl ⟨by decide, by decide⟩ rfl (Nat.le_of_ble_eq_true rfl) (by decide) (by decide) ?_
        refine t_X6_cellAlong (r_o1 (r_a Z s)) rfl (r_o1_lt _) (hp _ (r_o1_lt _)) (hq _ (r_o1_lt _)) (by omega) hub hd1 hS hP (fun r1 s1a s1b => ?_)
        refine v_istore (ls' := [_, _, _, _, _, _, _]) d_X6_consider_105 (by decide) rfl ?_
        have e_i : r_w 2 (fun a => (I 6 a).toInt) (fun a => (I 7 a).toInt) u.toInt d.toInt (r_o1 (r_a Z s)) - (Z 41 (6 * s + 2)).toInt = r_i Z 2 (fun a => (I 6 a).toInt) (fun a => (I 7 a).toInt) s := by unfold r_i; rw [hu, hd]
        refine v_iload d_X6_consider_107 rfl ?_
        refine w_if_lt d_X6_consider_109 (fun a109 => ?_) (fun a109 => ?_)
        · try simp (disch := omega) only [x_ti, x_tm1] at a109
          refine v_ret (v := none) d_X6_consider_121 rfl ⟨rfl, rfl⟩ (by decide) (by decide) ?_
          refine hK P I p_ex.rf x_ex.rf ?_
          rw [r_com_n (Or.inr (Or.inr (fun z => by rw [← e_i] at z; omega)))]
          exact hb
        · try simp (disch := omega) only [x_ti, x_tm1] at a109
          refine v_iload d_X6_consider_112 rfl ?_
          refine v_aload_n d_X6_consider_114 rfl ?_
          refine v_gie d_X6_consider_115 lf_X6_93_1 rfl (hw.sf) (hw.fl.w) ?_
          refine w_icmp_lt d_X6_consider_118 (fun a118 => ?_) (fun a118 => ?_)
          · try simp (disch := omega) only [x_ti, x_tm1] at a118
            refine v_aload_n d_X6_consider_122 rfl ?_
            refine v_aload_n d_X6_consider_123 rfl ?_
            refine v_gie d_X6_consider_124 lf_X6_96_1 rfl (hw.sf) (hw.fl.o2) ?_
            refine v_aload_n d_X6_consider_127 rfl ?_
            refine v_gie d_X6_consider_128 lf_X6_99_1 rfl (hw.sf) (hw.fl.v) ?_
            refine v_iload d_X6_consider_131 rfl ?_
            refine v_iload_n d_X6_consider_133 rfl ?_
            refine v_cv (as := [_, _, _, _]) (rest := []) d_X6_consider_134 lv_X6_89_6 (hS _ _ rfl) rfl ⟨by decide, by decide⟩ rfl (Nat.le_of_ble_eq_true rfl) (by decide) (by decide) ?_
            refine t_X6_cellAlong (r_o2 (r_a Z s)) rfl (r_o2_lt _) (hp _ (r_o2_lt _)) (hq _ (r_o2_lt _)) (by omega) hub hd1 hS hP (fun r2 s2a s2b => ?_)
            refine v_istore (ls' := [_, _, _, _, _, _, _]) d_X6_consider_137 (by decide) rfl ?_
            have e_j : r_w 2 (fun a => (I 6 a).toInt) (fun a => (I 7 a).toInt) u.toInt d.toInt (r_o2 (r_a Z s)) - (Z 41 (6 * s + 3)).toInt = r_jj Z 2 (fun a => (I 6 a).toInt) (fun a => (I 7 a).toInt) s := by unfold r_jj; rw [hu, hd]
            refine v_iload d_X6_consider_139 rfl ?_
            refine w_if_lt d_X6_consider_141 (fun a141 => ?_) (fun a141 => ?_)
            · try simp (disch := omega) only [x_ti, x_tm1] at a141
              refine v_ret (v := none) d_X6_consider_153 rfl ⟨rfl, rfl⟩ (by decide) (by decide) ?_
              refine hK P I p_ex.rf x_ex.rf ?_
              rw [r_com_n (Or.inr (Or.inr (fun z => by rw [← e_i, ← e_j] at z; omega)))]
              exact hb
            · try simp (disch := omega) only [x_ti, x_tm1] at a141
              refine v_iload d_X6_consider_144 rfl ?_
              refine v_aload_n d_X6_consider_146 rfl ?_
              refine v_gie d_X6_consider_147 lf_X6_102_1 rfl (hw.sf) (hw.fl.h) ?_
              refine w_icmp_lt d_X6_consider_150 (fun a150 => ?_) (fun a150 => ?_)
              · try simp (disch := omega) only [x_ti, x_tm1] at a150
                refine v_aload_n d_X6_consider_154 rfl ?_
                refine v_aload_n d_X6_consider_155 rfl ?_
                refine v_pr d_X6_consider_156 (lp_X6_32_6 _) rfl (hS _ _ rfl) (fun _ => rfl) (fun _ => rfl) ?_
                refine v_aload_n d_X6_consider_159 rfl ?_
                refine v_aload_n d_X6_consider_160 rfl ?_
                refine v_gie d_X6_consider_161 lf_X6_93_1 rfl (hw.sf) (hw.fl.w) ?_
                refine v_iload d_X6_consider_164 rfl ?_
                refine v_imul d_X6_consider_166 ?_
                refine v_iload d_X6_consider_167 rfl ?_
                refine v_iadd d_X6_consider_169 ?_
                refine v_pi d_X6_consider_170 (lp_X6_49_6 _) rfl (hS _ _ rfl) (rfl) rfl ?_
                refine v_aload_n d_X6_consider_173 rfl ?_
                refine v_iload d_X6_consider_174 rfl ?_
                refine v_pi d_X6_consider_176 (lp_X6_77_6 _) rfl (hS _ _ rfl) (rfl) rfl ?_
                refine v_aload_n d_X6_consider_179 rfl ?_
                refine v_iload_n d_X6_consider_180 rfl ?_
                refine v_pi d_X6_consider_181 (lp_X6_80_6 _) rfl (hS _ _ rfl) (rfl) rfl ?_
                refine v_ret (v := none) d_X6_consider_184 rfl ⟨rfl, rfl⟩ (by decide) (by decide) ?_
                have g1 := s1b (by omega)
                have g2 := s2b (by omega)
                have hm := m_ce_in hfo
                rw [m_ce_eq hfo] at hm
                have pr : (Z 41 (6 * s + 4)).toInt * r2.toInt ≤ (Z 41 (6 * s + 4)).toInt * ((Z 41 (6 * s + 5)).toInt - 1) := Int.mul_le_mul_of_nonneg_left (by omega) (by omega)
                have pr0 : 0 ≤ (Z 41 (6 * s + 4)).toInt * r2.toInt := Int.mul_nonneg (by omega) (by omega)
                rw [Int.mul_sub, Int.mul_one] at pr
                have hmm : (Z 41 (6 * s + 4) * r2).toInt = (Z 41 (6 * s + 4)).toInt * r2.toInt := x_mul (by omega) (by omega)
                have hcv : (Z 41 (6 * s + 4) * r2 + r1).toInt = (Z 41 (6 * s + 4)).toInt * r2.toInt + r1.toInt := by rw [x_add (by omega) (by omega), hmm]
                refine hK _ _ p_ex.rf.u (((x_ex.rf.ui (a := 5) (k := 6) rfl).ui (a := 5) (k := 7) rfl).ui (a := 5) (k := 8) rfl) ?_
                rw [r_com_s (fun z => a46 (hd.trans (r_dn_z.mpr z))) (by rw [← hu, ← hd]; omega) (by rw [← e_i, ← e_j]; omega)]
                show c_nx fa (some (s, _, _, _)) _ _
                refine ⟨x_u2_s _ _ _ _, ?_, ?_, ?_⟩
                · show Z 41 (6 * s + 4) * r2 + r1 = _
                  apply x_of'
                  rw [hcv, ← e_i, ← e_j, ← g1, ← g2]
                  omega
                · show u.toInt = _; exact hu
                · show d.toInt = _; exact hd
              · try simp (disch := omega) only [x_ti, x_tm1] at a150
                refine v_ret (v := none) d_X6_consider_153 rfl ⟨rfl, rfl⟩ (by decide) (by decide) ?_
                refine hK P I p_ex.rf x_ex.rf ?_
                rw [r_com_n (Or.inr (Or.inr (fun z => by rw [← e_i, ← e_j] at z; omega)))]
                exact hb
          · try simp (disch := omega) only [x_ti, x_tm1] at a118
            refine v_ret (v := none) d_X6_consider_121 rfl ⟨rfl, rfl⟩ (by decide) (by decide) ?_
            refine hK P I p_ex.rf x_ex.rf ?_
            rw [r_com_n (Or.inr (Or.inr (fun z => by rw [← e_i] at z; omega)))]
            exact hb
      · try simp (disch := omega) only [x_ti, x_tm1] at a62
        refine v_ret (v := none) d_X6_consider_65 rfl ⟨rfl, rfl⟩ (by decide) (by decide) ?_
        refine hK P I p_ex.rf x_ex.rf ?_
        first
          | (rw [r_com_n (Or.inl (r_dn_z.mp (hd.symm.trans a46)))]; exact hb)
          | (rw [r_com_n (Or.inr (Or.inl (by rw [← hu, ← hd]; omega)))]; exact hb)
  | some v =>
    obtain ⟨s', c', u', d'⟩ := v
    obtain ⟨bu, bd'⟩ := hbb s' c' u' d' rfl
    have m3 : (u * I 5 8).toInt = u.toInt * d'  := by have := x_pb (a := u.toInt) (b := d') (A := 2000) (B := 100) (by omega) (by omega) (by omega) (by omega); rw [x_mul (by rw [hb.2.2.2]; omega) (by rw [hb.2.2.2]; omega), hb.2.2.2]
    have m4 : (I 5 7 * d).toInt = u' * d.toInt := by have := x_pb (a := u') (b := d.toInt) (A := 2000) (B := 100) (by omega) (by omega) (by omega) (by omega); rw [x_mul (by rw [hb.2.2.1]; omega) (by rw [hb.2.2.1]; omega), hb.2.2.1]
    refine v_iload_n d_X6_consider_45 rfl ?_
    refine w_if_eq d_X6_consider_46 (fun a46 => ?_) (fun a46 => ?_)
    · try simp (disch := omega) only [x_ti, x_tm1] at a46
      refine v_ret (v := none) d_X6_consider_65 rfl ⟨rfl, rfl⟩ (by decide) (by decide) ?_
      refine hK P I p_ex.rf x_ex.rf ?_
      first
        | (rw [r_com_n (Or.inl (r_dn_z.mp (hd.symm.trans a46)))]; exact hb)
        | (rw [r_com_n (Or.inr (Or.inl (by rw [← hu, ← hd]; omega)))]; exact hb)
    · try simp (disch := omega) only [x_ti, x_tm1] at a46
      have hd1 : 1 ≤ d.toInt ∧ d.toInt ≤ 100 := by omega
      refine v_iload d_X6_consider_49 rfl ?_
      refine v_aload_n d_X6_consider_51 rfl ?_
      refine v_gi d_X6_consider_52 lf_X6_29_6 rfl (hS _ _ rfl) ?_
      refine v_imul d_X6_consider_55 ?_
      refine v_aload_n d_X6_consider_56 rfl ?_
      refine v_gi d_X6_consider_57 lf_X6_26_6 rfl (hS _ _ rfl) ?_
      refine v_iload_n d_X6_consider_60 rfl ?_
      refine v_imul d_X6_consider_61 ?_
      refine w_icmp_gt d_X6_consider_62 (fun a62 => ?_) (fun a62 => ?_)
      · try simp (disch := omega) only [x_ti, x_tm1] at a62
        refine v_aload_n d_X6_consider_66 rfl ?_
        refine v_gr d_X6_consider_67 lf_X6_32_6 rfl (hS _ _ rfl) (hb.1) ?_
        refine v_ifnull d_X6_consider_70 ?_
        refine v_iload d_X6_consider_73 rfl ?_
        refine v_aload_n d_X6_consider_75 rfl ?_
        refine v_gi d_X6_consider_76 lf_X6_80_6 rfl (hS _ _ rfl) ?_
        refine v_imul d_X6_consider_79 ?_
        refine v_aload_n d_X6_consider_80 rfl ?_
        refine v_gi d_X6_consider_81 lf_X6_77_6 rfl (hS _ _ rfl) ?_
        refine v_iload_n d_X6_consider_84 rfl ?_
        refine v_imul d_X6_consider_85 ?_
        refine w_icmp_lt d_X6_consider_86 (fun a86 => ?_) (fun a86 => ?_)
        · try simp (disch := omega) only [x_ti, x_tm1] at a86
          refine v_aload_n d_X6_consider_90 rfl ?_
          refine v_aload_n d_X6_consider_91 rfl ?_
          refine v_gie d_X6_consider_92 lf_X6_83_1 rfl (hw.sf) (hw.fl.o1) ?_
          refine v_aload_n d_X6_consider_95 rfl ?_
          refine v_gie d_X6_consider_96 lf_X6_86_1 rfl (hw.sf) (hw.fl.u) ?_
          refine v_iload d_X6_consider_99 rfl ?_
          refine v_iload_n d_X6_consider_101 rfl ?_
          refine v_cv (as := [_, _, _, _]) (rest := []) d_X6_consider_102 lv_X6_89_6 (hS _ _ rfl) rfl ⟨by decide, by decide⟩ rfl (Nat.le_of_ble_eq_true rfl) (by decide) (by decide) ?_
          refine t_X6_cellAlong (r_o1 (r_a Z s)) rfl (r_o1_lt _) (hp _ (r_o1_lt _)) (hq _ (r_o1_lt _)) (by omega) hub hd1 hS hP (fun r1 s1a s1b => ?_)
          refine v_istore (ls' := [_, _, _, _, _, _, _]) d_X6_consider_105 (by decide) rfl ?_
          have e_i : r_w 2 (fun a => (I 6 a).toInt) (fun a => (I 7 a).toInt) u.toInt d.toInt (r_o1 (r_a Z s)) - (Z 41 (6 * s + 2)).toInt = r_i Z 2 (fun a => (I 6 a).toInt) (fun a => (I 7 a).toInt) s := by unfold r_i; rw [hu, hd]
          refine v_iload d_X6_consider_107 rfl ?_
          refine w_if_lt d_X6_consider_109 (fun a109 => ?_) (fun a109 => ?_)
          · try simp (disch := omega) only [x_ti, x_tm1] at a109
            refine v_ret (v := none) d_X6_consider_121 rfl ⟨rfl, rfl⟩ (by decide) (by decide) ?_
            refine hK P I p_ex.rf x_ex.rf ?_
            rw [r_com_n (Or.inr (Or.inr (fun z => by rw [← e_i] at z; omega)))]
            exact hb
          · try simp (disch := omega) only [x_ti, x_tm1] at a109
            refine v_iload d_X6_consider_112 rfl ?_
            refine v_aload_n d_X6_consider_114 rfl ?_
            refine v_gie d_X6_consider_115 lf_X6_93_1 rfl (hw.sf) (hw.fl.w) ?_
            refine w_icmp_lt d_X6_consider_118 (fun a118 => ?_) (fun a118 => ?_)
            · try simp (disch := omega) only [x_ti, x_tm1] at a118
              refine v_aload_n d_X6_consider_122 rfl ?_
              refine v_aload_n d_X6_consider_123 rfl ?_
              refine v_gie d_X6_consider_124 lf_X6_96_1 rfl (hw.sf) (hw.fl.o2) ?_
              refine v_aload_n d_X6_consider_127 rfl ?_
              refine v_gie d_X6_consider_128 lf_X6_99_1 rfl (hw.sf) (hw.fl.v) ?_
              refine v_iload d_X6_consider_131 rfl ?_
              refine v_iload_n d_X6_consider_133 rfl ?_
              refine v_cv (as := [_, _, _, _]) (rest := []) d_X6_consider_134 lv_X6_89_6 (hS _ _ rfl) rfl ⟨by decide, by decide⟩ rfl (Nat.le_of_ble_eq_true rfl) (by decide) (by decide) ?_
              refine t_X6_cellAlong (r_o2 (r_a Z s)) rfl (r_o2_lt _) (hp _ (r_o2_lt _)) (hq _ (r_o2_lt _)) (by omega) hub hd1 hS hP (fun r2 s2a s2b => ?_)
              refine v_istore (ls' := [_, _, _, _, _, _, _]) d_X6_consider_137 (by decide) rfl ?_
              have e_j : r_w 2 (fun a => (I 6 a).toInt) (fun a => (I 7 a).toInt) u.toInt d.toInt (r_o2 (r_a Z s)) - (Z 41 (6 * s + 3)).toInt = r_jj Z 2 (fun a => (I 6 a).toInt) (fun a => (I 7 a).toInt) s := by unfold r_jj; rw [hu, hd]
              refine v_iload d_X6_consider_139 rfl ?_
              refine w_if_lt d_X6_consider_141 (fun a141 => ?_) (fun a141 => ?_)
              · try simp (disch := omega) only [x_ti, x_tm1] at a141
                refine v_ret (v := none) d_X6_consider_153 rfl ⟨rfl, rfl⟩ (by decide) (by decide) ?_
                refine hK P I p_ex.rf x_ex.rf ?_
                rw [r_com_n (Or.inr (Or.inr (fun z => by rw [← e_i, ← e_j] at z; omega)))]
                exact hb
              · try simp (disch := omega) only [x_ti, x_tm1] at a141
                refine v_iload d_X6_consider_144 rfl ?_
                refine v_aload_n d_X6_consider_146 rfl ?_
                refine v_gie d_X6_consider_147 lf_X6_102_1 rfl (hw.sf) (hw.fl.h) ?_
                refine w_icmp_lt d_X6_consider_150 (fun a150 => ?_) (fun a150 => ?_)
                · try simp (disch := omega) only [x_ti, x_tm1] at a150
                  refine v_aload_n d_X6_consider_154 rfl ?_
                  refine v_aload_n d_X6_consider_155 rfl ?_
                  refine v_pr d_X6_consider_156 (lp_X6_32_6 _) rfl (hS _ _ rfl) (fun _ => rfl) (fun _ => rfl) ?_
                  refine v_aload_n d_X6_consider_159 rfl ?_
                  refine v_aload_n d_X6_consider_160 rfl ?_
                  refine v_gie d_X6_consider_161 lf_X6_93_1 rfl (hw.sf) (hw.fl.w) ?_
                  refine v_iload d_X6_consider_164 rfl ?_
                  refine v_imul d_X6_consider_166 ?_
                  refine v_iload d_X6_consider_167 rfl ?_
                  refine v_iadd d_X6_consider_169 ?_
                  refine v_pi d_X6_consider_170 (lp_X6_49_6 _) rfl (hS _ _ rfl) (rfl) rfl ?_
                  refine v_aload_n d_X6_consider_173 rfl ?_
                  refine v_iload d_X6_consider_174 rfl ?_
                  refine v_pi d_X6_consider_176 (lp_X6_77_6 _) rfl (hS _ _ rfl) (rfl) rfl ?_
                  refine v_aload_n d_X6_consider_179 rfl ?_
                  refine v_iload_n d_X6_consider_180 rfl ?_
                  refine v_pi d_X6_consider_181 (lp_X6_80_6 _) rfl (hS _ _ rfl) (rfl) rfl ?_
                  refine v_ret (v := none) d_X6_consider_184 rfl ⟨rfl, rfl⟩ (by decide) (by decide) ?_
                  have g1 := s1b (by omega)
                  have g2 := s2b (by omega)
                  have hm := m_ce_in hfo
                  rw [m_ce_eq hfo] at hm
                  have pr : (Z 41 (6 * s + 4)).toInt * r2.toInt ≤ (Z 41 (6 * s + 4)).toInt * ((Z 41 (6 * s + 5)).toInt - 1) := Int.mul_le_mul_of_nonneg_left (by omega) (by omega)
                  have pr0 : 0 ≤ (Z 41 (6 * s + 4)).toInt * r2.toInt := Int.mul_nonneg (by omega) (by omega)
                  rw [Int.mul_sub, Int.mul_one] at pr
                  have hmm : (Z 41 (6 * s + 4) * r2).toInt = (Z 41 (6 * s + 4)).toInt * r2.toInt := x_mul (by omega) (by omega)
                  have hcv : (Z 41 (6 * s + 4) * r2 + r1).toInt = (Z 41 (6 * s + 4)).toInt * r2.toInt + r1.toInt := by rw [x_add (by omega) (by omega), hmm]
                  refine hK _ _ p_ex.rf.u (((x_ex.rf.ui (a := 5) (k := 6) rfl).ui (a := 5) (k := 7) rfl).ui (a := 5) (k := 8) rfl) ?_
                  rw [r_com_s (fun z => a46 (hd.trans (r_dn_z.mpr z))) (by rw [← hu, ← hd]; omega) (by rw [← e_i, ← e_j]; omega), r_pick_t (by rw [← hu, ← hd]; omega)]
                  show c_nx fa (some (s, _, _, _)) _ _
                  refine ⟨x_u2_s _ _ _ _, ?_, ?_, ?_⟩
                  · show Z 41 (6 * s + 4) * r2 + r1 = _
                    apply x_of'
                    rw [hcv, ← e_i, ← e_j, ← g1, ← g2]
                    omega
                  · show u.toInt = _; exact hu
                  · show d.toInt = _; exact hd
                · try simp (disch := omega) only [x_ti, x_tm1] at a150
                  refine v_ret (v := none) d_X6_consider_153 rfl ⟨rfl, rfl⟩ (by decide) (by decide) ?_
                  refine hK P I p_ex.rf x_ex.rf ?_
                  rw [r_com_n (Or.inr (Or.inr (fun z => by rw [← e_i, ← e_j] at z; omega)))]
                  exact hb
            · try simp (disch := omega) only [x_ti, x_tm1] at a118
              refine v_ret (v := none) d_X6_consider_121 rfl ⟨rfl, rfl⟩ (by decide) (by decide) ?_
              refine hK P I p_ex.rf x_ex.rf ?_
              rw [r_com_n (Or.inr (Or.inr (fun z => by rw [← e_i] at z; omega)))]
              exact hb
        · try simp (disch := omega) only [x_ti, x_tm1] at a86
          refine v_ret (v := none) d_X6_consider_89 rfl ⟨rfl, rfl⟩ (by decide) (by decide) ?_
          refine hK P I p_ex.rf x_ex.rf ?_
          rw [r_pick_k (by rw [← hu, ← hd]; omega)]
          exact hb
      · try simp (disch := omega) only [x_ti, x_tm1] at a62
        refine v_ret (v := none) d_X6_consider_65 rfl ⟨rfl, rfl⟩ (by decide) (by decide) ?_
        refine hK P I p_ex.rf x_ex.rf ?_
        first
          | (rw [r_com_n (Or.inl (r_dn_z.mp (hd.symm.trans a46)))]; exact hb)
          | (rw [r_com_n (Or.inr (Or.inl (by rw [← hu, ← hd]; omega)))]; exact hb)

set_option maxRecDepth 100000 in
set_option maxHeartbeats 4000000 in
theorem t_X6_consider {K : x_K} {S : x_S} {P : x_P} {I : x_I} {J : x_J} {n : Nat} {fa : Nat → Nat} {Z : x_I} {s : Nat} (b : Option (Nat × Nat × Int × Int)) (hw : c_w fa Z S P I n s) (hfo : m_fo Z s) (hb : c_nx fa b P I) (hbb : ∀ s' c' u' d', b = some (s', c', u', d') → (-2000 ≤ u' ∧ u' ≤ 2000) ∧ (1 ≤ d' ∧ d' ≤ 100)) (hlu : -2000 ≤ (I 5 3).toInt ∧ (I 5 3).toInt ≤ 2000) (hld : 1 ≤ (I 5 4).toInt ∧ (I 5 4).toInt ≤ 100) (hp : ∀ a, a < 3 → -1000 ≤ (I 6 a).toInt ∧ (I 6 a).toInt ≤ 1000) (hq : ∀ a, a < 3 → -100 ≤ (I 7 a).toInt ∧ (I 7 a).toInt ≤ 100) (hS : x_hS S) (hP : x_hP P) (hK : ∀ (P' : x_P) (I' : x_I), p_ex P P' → x_ex c5 I I' J J → c_nx fa (r_pick b s (r_com Z 2 (fun a => (I 6 a).toInt) (fun a => (I 7 a).toInt) (I 5 3).toInt (I 5 4).toInt s)) P' I' → K none S P' I' J n) : x_Call f_X6_consider [.ref 5, .ref (fa s + 1)] K S P I J n := by
  have ha := r_a_lt hfo
  obtain ⟨f0, f1, f2, f3, f4, f5, f6, f7⟩ := id hfo
  have e0 : Z 41 (6 * s) = nI (r_a Z s) := x_of f0.1
  have b1 := hp _ ha
  have b2 := hq _ ha
  have e2 : (nI 2).toInt = 2 := by decide
  have eO1 : (nI 2 * Z 41 (6 * s + 1)).toInt = (Z 41 (6 * s + 1)).toInt * 2 := by rw [x_mul (by rw [e2]; omega) (by rw [e2]; omega), e2]; omega
  have eO : (nI 2 * Z 41 (6 * s + 1) - I 6 (r_a Z s)).toInt = (Z 41 (6 * s + 1)).toInt * 2 - (I 6 (r_a Z s)).toInt := by rw [x_sub (by rw [eO1]; omega) (by rw [eO1]; omega), eO1]
  refine x_intro (by decide) 5 (ls := [_, _, _, _, _, _, _]) rfl (Nat.le_of_ble_eq_true rfl) ?_
  refine v_aload_n d_X6_consider_0 rfl ?_
  refine v_gr d_X6_consider_1 (lfw_X6_61 (c_kc_ok _)) (x_ftw1 (c_kc_ok _)) (hw.sw) (hw.pf) ?_
  refine v_astore_n (ls' := [_, _, _, _, _, _, _]) d_X6_consider_4 (by decide) rfl ?_
  refine v_aload_n d_X6_consider_5 rfl ?_
  refine v_gr d_X6_consider_6 lf_X6_15_6 rfl (hS _ _ rfl) (hP _ _ _ rfl) ?_
  refine v_aload_n d_X6_consider_9 rfl ?_
  refine v_gie d_X6_consider_10 lf_X6_69_1 rfl (hw.sf) (hw.fl.ax.trans e0) ?_
  refine v_iald _ d_X6_consider_13 (rfl) (hS _ _ rfl) (⟨by omega, by omega⟩) (rfl) ?_
  refine v_istore_n (ls' := [_, _, _, _, _, _, _]) d_X6_consider_14 (by decide) rfl ?_
  refine v_iconst (v := nI 2) d_X6_consider_15 x_ic_2 ?_
  refine v_aload_n d_X6_consider_16 rfl ?_
  refine v_gie d_X6_consider_17 lf_X6_74_1 rfl (hw.sf) (hw.fl.c) ?_
  refine v_imul d_X6_consider_20 ?_
  refine v_aload_n d_X6_consider_21 rfl ?_
  refine v_gr d_X6_consider_22 lf_X6_9_6 rfl (hS _ _ rfl) (hP _ _ _ rfl) ?_
  refine v_aload_n d_X6_consider_25 rfl ?_
  refine v_gie d_X6_consider_26 lf_X6_69_1 rfl (hw.sf) (hw.fl.ax.trans e0) ?_
  refine v_iald _ d_X6_consider_29 (rfl) (hS _ _ rfl) (⟨by omega, by omega⟩) (rfl) ?_
  refine v_isub d_X6_consider_30 ?_
  refine v_istore (ls' := [_, _, _, _, _, _, _]) d_X6_consider_31 (by decide) rfl ?_
  refine v_iload_n d_X6_consider_33 rfl ?_
  refine w_if_ge d_X6_consider_34 (fun a34 => ?_) (fun a34 => ?_)
  · try simp (disch := omega) only [x_ti, x_tm1] at a34
    have eN : (-(nI 2 * Z 41 (6 * s + 1) - I 6 (r_a Z s))).toInt = -((Z 41 (6 * s + 1)).toInt * 2 - (I 6 (r_a Z s)).toInt) := by rw [x_neg (by rw [eO]; omega), eO]
    have eD : (-(I 7 (r_a Z s))).toInt = -(I 7 (r_a Z s)).toInt := x_neg (by omega)
    refine l_X6_consider b hw hfo hb hbb hlu hld hp hq hS hP ?_ ?_ ?_ ?_ hK
    · first | (show _ = if (I 7 (r_a Z s)).toInt < 0 then _ else _; rw [if_neg (by omega)]; exact eO) | (show _ = if (I 7 (r_a Z s)).toInt < 0 then _ else _; rw [if_pos (by omega)]; exact eN)
    · first | (show _ = if (I 7 (r_a Z s)).toInt < 0 then _ else _; rw [if_neg (by omega)]) | (show _ = if (I 7 (r_a Z s)).toInt < 0 then _ else _; rw [if_pos (by omega)]; exact eD)
    · first | (rw [eO]; omega) | (rw [eN]; omega)
    · first | (rw [eD]; omega) | omega
  · try simp (disch := omega) only [x_ti, x_tm1] at a34
    refine v_iload_n d_X6_consider_37 rfl ?_
    refine v_ineg d_X6_consider_38 ?_
    refine v_istore_n (ls' := [_, _, _, _, _, _, _]) d_X6_consider_39 (by decide) rfl ?_
    refine v_iload d_X6_consider_40 rfl ?_
    refine v_ineg d_X6_consider_42 ?_
    refine v_istore (ls' := [_, _, _, _, _, _, _]) d_X6_consider_43 (by decide) rfl ?_
    have eN : (-(nI 2 * Z 41 (6 * s + 1) - I 6 (r_a Z s))).toInt = -((Z 41 (6 * s + 1)).toInt * 2 - (I 6 (r_a Z s)).toInt) := by rw [x_neg (by rw [eO]; omega), eO]
    have eD : (-(I 7 (r_a Z s))).toInt = -(I 7 (r_a Z s)).toInt := x_neg (by omega)
    refine l_X6_consider b hw hfo hb hbb hlu hld hp hq hS hP ?_ ?_ ?_ ?_ hK
    · first | (show _ = if (I 7 (r_a Z s)).toInt < 0 then _ else _; rw [if_neg (by omega)]; exact eO) | (show _ = if (I 7 (r_a Z s)).toInt < 0 then _ else _; rw [if_pos (by omega)]; exact eN)
    · first | (show _ = if (I 7 (r_a Z s)).toInt < 0 then _ else _; rw [if_neg (by omega)]) | (show _ = if (I 7 (r_a Z s)).toInt < 0 then _ else _; rw [if_pos (by omega)]; exact eD)
    · first | (rw [eO]; omega) | (rw [eN]; omega)
    · first | (rw [eD]; omega) | omega

