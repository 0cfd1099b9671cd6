theorem x_ex.fg42 {I I' : x_I} {J J' : x_J} {k : Nat} {g : Nat → Int32} (h : x_ex mF I I' J J') : x_ex mF (x_fg I 42 0 k g) (x_fg I' 42 0 k g) J J' := fun b j hj => by
  refine ⟨?_, (h b j hj).2⟩
  unfold x_fg
  split
  · rfl
  · exact (h b j hj).1
theorem x_paF {I I' : x_I} {J J' : x_J} (h : x_ex mF I I' J J') : x_sm (m_pa I') (m_ns I') = x_sm (m_pa I) (m_ns I) := by
  rw [x_ns_cgF h]
  refine x_sm_cg _ (fun s _ => ?_)
  unfold m_pa
  rw [x_ce_cgF h]
  exact x_ct_cg _ (fun k _ => by rw [h.i 42 _ rfl])

set_option maxRecDepth 100000 in
set_option maxHeartbeats 4000000 in
theorem l_X12_paint_i {K : x_K} {S : x_S} {P : x_P} {n : Nat} {set wv : Int32} (Z : x_I) (J0 : x_J) (V0 : Nat → Nat) (N e : Nat) (he : e < 4) (hN : (N : Int) = m_ce Z 10) (hN6 : N ≤ 64) (hbit : x_bt set e = 1) (hes : g_es Z) (hpc : g_pc Z) (hbo : m_fo Z 10) (hn : 0 ≤ (Z 39 2).toInt ∧ (Z 39 2).toInt ≤ 10) (hfo : ∀ s, s < m_ns Z → m_fo Z s) (hS : x_hS S) (hP : x_hP P)
    (hc : ∀ (I : x_I) (J : x_J), x_ex mF Z I J0 J → (∀ a, a < 6400 → I 51 a = nI (V0 a + x_ct (v_at Z a e) N)) → x_V f_X12_painting K 157 [some (.ref 39), some (.int set), some (.int wv), some (.int (nI N)), some (.int (nI e)), some (.int (nI N)), none] [] S P I J n 0 0) :
    ∀ d j : Nat, j + d = N → ∀ (I : x_I) (J : x_J), x_ex mF Z I J0 J → (∀ a, a < 6400 → I 51 a = nI (V0 a + x_ct (v_at Z a e) j)) → x_V f_X12_painting K 57 [some (.ref 39), some (.int set), some (.int wv), some (.int (nI N)), some (.int (nI e)), some (.int (nI j)), none] [] S P I J n 0 0 := by
  intro d
  have t9 : (-9 : Int32).toInt = -9 := by decide
  induction d with
  | zero =>
    intro j hd I J hex hv
    refine v_iload d_X12_painting_57 rfl ?_
    refine v_iload_n d_X12_painting_59 rfl ?_
    refine w_icmp_ge d_X12_painting_60 (fun h60 => ?_) (fun h60 => False.elim (by (try simp (disch := omega) only [x_ti, x_tm1] at h60); omega))
    have e9 : j = N := by omega
    subst e9
    exact hc I J hex hv
  | succ d ih =>
    intro j hd I J hex hv
    have hbI := x_fo_cgF hex hbo
    have hnI := x_hn_cgF hex hn
    have hfI := x_fos_cgF hex hfo
    have hcI := x_ce_cgF hex 10
    have hpI := hex.i 44 (64 * e + j) rfl
    have h9 : m_ns I = (I 39 2).toInt.toNat := rfl
    have hpz := hpc (64 * e + j) (by omega)
    obtain ⟨p, hp, hp1, hp2, hp3⟩ := x_ex1 (s := Z 44 (64 * e + j)) (by omega)
    refine v_iload d_X12_painting_57 rfl ?_
    refine v_iload_n d_X12_painting_59 rfl ?_
    refine w_icmp_ge d_X12_painting_60 (fun h60 => False.elim (by (try simp (disch := omega) only [x_ti, x_tm1] at h60); omega)) (fun h60 => ?_)
    refine v_iload_n d_X12_painting_63 rfl ?_
    refine v_iload d_X12_painting_64 rfl ?_
    refine v_ishr d_X12_painting_66 ?_
    refine v_iconst (v := nI 1) d_X12_painting_67 x_ic_1 ?_
    refine v_iand d_X12_painting_68 ?_
    refine v_iconst (v := nI 1) d_X12_painting_69 x_ic_1 ?_
    refine w_icmp_ne d_X12_painting_70 (fun a70 => False.elim (by exact a70 (by rw [show (nI 1).toInt = 1 by decide]; exact hbit))) (fun a70 => ?_)
    refine v_aload_n d_X12_painting_73 rfl ?_
    refine v_gr d_X12_painting_74 lf_X12_22_12 rfl (hS _ _ rfl) (hP _ _ _ rfl) ?_
    refine v_bipush (v := nI 64) d_X12_painting_77 x_bp_64 ?_
    refine v_iload d_X12_painting_79 rfl ?_
    first | refine v_imulN d_X12_painting_81 ?_ | refine v_imul d_X12_painting_81 ?_
    refine v_iload d_X12_painting_82 rfl ?_
    first | refine v_iaddN d_X12_painting_84 ?_ | refine v_iadd d_X12_painting_84 ?_
    refine v_iald _ d_X12_painting_85 (rfl) (hS _ _ rfl) (⟨by omega, by omega⟩) (rfl) ?_
    refine w_if_ne d_X12_painting_86 (fun a86 => ?_) (fun a86 => ?_)
    · try simp (disch := omega) only [x_ti, x_tm1] at a86
      refine v_aload_n d_X12_painting_94 rfl ?_
      refine v_iload d_X12_painting_95 rfl ?_
      refine v_iload d_X12_painting_97 rfl ?_
      refine v_cv (as := [_, _]) (rest := []) d_X12_painting_99 lv_X12_210_12 (hS _ _ rfl) rfl ⟨by decide, by decide⟩ rfl (Nat.le_of_ble_eq_true rfl) (by decide) (by decide) ?_
      refine t_X12_seenBy2 e j rfl he rfl (g_es_cgF hex hes) hbI (by omega) hnI hfI hS hP (fun ho I2 J2 h2 => ?_) (fun s c ho hs hcc hc64 htb I2 J2 h2 => ?_)
      · refine v_istore (ls' := [_, _, _, _, _, _, _]) d_X12_painting_102 (by decide) rfl ?_
        refine v_iload d_X12_painting_104 rfl ?_
        refine v_bipush (v := (-9)) d_X12_painting_106 x_bp_m9 ?_
        refine w_icmp_eq d_X12_painting_108 (fun _ => ?_) (fun a108 => absurd a108 (by decide))
        first | refine v_iinc (ls' := [_, _, _, _, _, _, _]) d_X12_painting_151 rfl (x_inc_1 _) (by decide) rfl ?_ | refine v_iinc (ls' := [_, _, _, _, _, _, _]) d_X12_painting_151 rfl rfl (by decide) rfl ?_
        refine v_goto d_X12_painting_154 ?_
        refine x_V.fg1 6 (ls' := [_, _, _, _, _, _, _]) rfl ?_
        rw [r_sby_cgF hex he hes hbo (by omega) hfo] at ho
        refine ih (j + 1) (by omega) I2 J2 (hex.tr h2.up) (fun a ha => ?_)
        have q1 : v_at Z a e j = false := by unfold v_at; rw [ho]; exact Bool.and_false _
        have r1 := x_ct_n q1
        rw [← r1, Nat.add_zero]
        exact (h2.i 51 _ rfl).trans (hv a ha)
      · refine v_istore (ls' := [_, _, _, _, _, _, _]) d_X12_painting_102 (by decide) rfl ?_
        refine v_iload d_X12_painting_104 rfl ?_
        refine v_bipush (v := (-9)) d_X12_painting_106 x_bp_m9 ?_
        refine w_icmp_eq d_X12_painting_108 (fun a108 => False.elim (by rw [x_ti (by omega), t9] at a108; omega)) (fun a108 => ?_)
        rw [r_sby_cgF hex he hes hbo (by omega) hfo] at ho
        have hsZ : s < m_ns Z := by rw [← x_ns_cgF hex]; exact hs
        have hs10 : s < 10 := by unfold m_ns at hsZ; omega
        have hx2 := hex.tr h2.up
        have d1 : (100 * s + c) / 100 = s := by omega
        have d2 : (100 * s + c) % 100 = c := by omega
        have hv2 : I2 51 (10 * (64 * s + c) + p) = nI (V0 (10 * (64 * s + c) + p) + x_ct (v_at Z (10 * (64 * s + c) + p) e) j) := (h2.i 51 _ rfl).trans (hv _ (by omega))
        refine v_aload_n d_X12_painting_111 rfl ?_
        refine v_gr d_X12_painting_112 lf_X12_43_12 rfl (hS _ _ rfl) (hP _ _ _ rfl) ?_
        refine v_bipush (v := nI 10) d_X12_painting_115 x_bp_10 ?_
        refine v_bipush (v := nI 64) d_X12_painting_117 x_bp_64 ?_
        refine v_iload d_X12_painting_119 rfl ?_
        refine v_bipush (v := nI 100) d_X12_painting_121 x_bp_100 ?_
        refine v_idiv d_X12_painting_123 (by decide) ?_
        rw [x_divN (by omega) (by decide) (by decide), d1]
        first | refine v_imulN d_X12_painting_124 ?_ | refine v_imul d_X12_painting_124 ?_
        refine v_iload d_X12_painting_125 rfl ?_
        refine v_bipush (v := nI 100) d_X12_painting_127 x_bp_100 ?_
        refine v_irem d_X12_painting_129 (by decide) ?_
        rw [x_remN (by omega) (by decide) (by decide), d2]
        first | refine v_iaddN d_X12_painting_130 ?_ | refine v_iadd d_X12_painting_130 ?_
        first | refine v_imulN d_X12_painting_131 ?_ | refine v_imul d_X12_painting_131 ?_
        refine v_aload_n d_X12_painting_132 rfl ?_
        refine v_gr d_X12_painting_133 lf_X12_22_12 rfl (hS _ _ rfl) (hP _ _ _ rfl) ?_
        refine v_bipush (v := nI 64) d_X12_painting_136 x_bp_64 ?_
        refine v_iload d_X12_painting_138 rfl ?_
        first | refine v_imulN d_X12_painting_140 ?_ | refine v_imul d_X12_painting_140 ?_
        refine v_iload d_X12_painting_141 rfl ?_
        first | refine v_iaddN d_X12_painting_143 ?_ | refine v_iadd d_X12_painting_143 ?_
        refine v_iald _ d_X12_painting_144 (rfl) (hS _ _ rfl) (⟨by omega, by omega⟩) ((hx2.i 44 (64 * e + j) rfl).trans hp) ?_
        first | refine v_iaddN d_X12_painting_145 ?_ | refine v_iadd d_X12_painting_145 ?_
        refine v_dup2 d_X12_painting_146 rfl rfl ?_
        refine v_iald _ d_X12_painting_147 (rfl) (hS _ _ rfl) (⟨by omega, by omega⟩) (hv2) ?_
        refine v_iconst (v := nI 1) d_X12_painting_148 x_ic_1 ?_
        first | refine v_iaddN d_X12_painting_149 ?_ | refine v_iadd d_X12_painting_149 ?_
        refine v_iast _ d_X12_painting_150 (rfl) (hS _ _ rfl) (⟨by omega, by omega⟩) ?_
        first | refine v_iinc (ls' := [_, _, _, _, _, _, _]) d_X12_painting_151 rfl (x_inc_1 _) (by decide) rfl ?_ | refine v_iinc (ls' := [_, _, _, _, _, _, _]) d_X12_painting_151 rfl rfl (by decide) rfl ?_
        refine v_goto d_X12_painting_154 ?_
        refine x_V.fg1 6 (ls' := [_, _, _, _, _, _, _]) rfl ?_
        refine ih (j + 1) (by omega) _ J2 hx2.uiF (fun a ha => ?_)
        rw [x_u2_at]
        by_cases haa : a = 10 * (64 * s + c) + p
        · have q1 : v_at Z a e j = true := by
            unfold v_at
            rw [ho, show w_is Z e j = true by unfold w_is; rw [← hpI]; exact decide_eq_true a86]
            exact decide_eq_true (by rw [hp3]; exact haa.symm)
          have r1 := x_ct_y q1
          rw [if_pos ⟨rfl, haa⟩, ← r1, haa]
          rfl
        · have q1 : v_at Z a e j = false := by
            unfold v_at
            rw [ho, show w_is Z e j = true by unfold w_is; rw [← hpI]; exact decide_eq_true a86]
            exact decide_eq_false (by rw [hp3]; exact fun z => haa z.symm)
          have r1 := x_ct_n q1
          rw [if_neg (fun z => haa z.2), ← r1, Nat.add_zero, h2.i 51 _ rfl]
          exact hv a ha
    · try simp (disch := omega) only [x_ti, x_tm1] at a86
      refine v_bipush (v := (-9)) d_X12_painting_89 x_bp_m9 ?_
      refine v_goto d_X12_painting_91 ?_
      refine v_istore (ls' := [_, _, _, _, _, _, _]) d_X12_painting_102 (by decide) rfl ?_
      refine v_iload d_X12_painting_104 rfl ?_
      refine v_bipush (v := (-9)) d_X12_painting_106 x_bp_m9 ?_
      refine w_icmp_eq d_X12_painting_108 (fun _ => ?_) (fun a108 => absurd a108 (by decide))
      first | refine v_iinc (ls' := [_, _, _, _, _, _, _]) d_X12_painting_151 rfl (x_inc_1 _) (by decide) rfl ?_ | refine v_iinc (ls' := [_, _, _, _, _, _, _]) d_X12_painting_151 rfl rfl (by decide) rfl ?_
      refine v_goto d_X12_painting_154 ?_
      refine x_V.fg1 6 (ls' := [_, _, _, _, _, _, _]) rfl ?_
      refine ih (j + 1) (by omega) I J (hex) (fun a ha => ?_)
      have q1 : v_at Z a e j = false := by unfold v_at; rw [show w_is Z e j = false by unfold w_is; rw [← hpI]; exact decide_eq_false (fun z => z a86)]; rfl
      have r1 := x_ct_n q1
      rw [← r1, Nat.add_zero]
      exact hv a ha

theorem x_fg_t0 {α : Type} {I : Nat → Nat → α} {a k : Nat} {g : Nat → α} {v : α} (hv : v = g k) : x_u2 (x_fg I a 0 k g) a k v = x_fg I a 0 (k + 1) g := by have h := x_fg_t (I := I) (a := a) (lo := 0) (k := k) hv; rw [Nat.zero_add] at h; exact h
theorem b_be1 (f : Nat → Nat) : b_be f (0 + 1) = 0 := by have := b_be_lt f 0; omega

set_option maxRecDepth 100000 in
set_option maxHeartbeats 4000000 in
theorem l_X12_paint_c {K : x_K} {S : x_S} {P : x_P} {I : x_I} {J : x_J} {n : Nat} {set wv : Int32} (Z : x_I) (N q : Nat) (hq : q < 640) (hN6 : N ≤ 64) (hNN : (m_ce Z 10).toNat = N) (hv : ∀ a, a < 6400 → I 51 a = nI (v_al Z set a 4)) (hS : x_hS S) (hP : x_hP P)
    (hc : x_V f_X12_painting K 231 [some (.ref 39), some (.int set), some (.int wv), some (.int (nI N)), some (.int (nI q)), some (.int (nI (b_be (fun c => v_al Z set (10 * q + c) 4) 10))), some (.int (nI 10))] [] S P I J n 0 0) :
    ∀ d k : Nat, k + d = 9 → x_V f_X12_painting K 180 [some (.ref 39), some (.int set), some (.int wv), some (.int (nI N)), some (.int (nI q)), some (.int (nI (b_be (fun c => v_al Z set (10 * q + c) 4) (k + 1)))), some (.int (nI (k + 1)))] [] S P I J n 0 0 := by
  intro d
  induction d with
  | zero =>
    intro k hd
    refine v_iload d_X12_painting_180 rfl ?_
    refine v_bipush (v := nI 10) d_X12_painting_182 x_bp_10 ?_
    refine w_icmp_ge d_X12_painting_184 (fun h184 => ?_) (fun h184 => False.elim (by (try simp (disch := omega) only [x_ti, x_tm1] at h184); omega))
    have e9 : k = 9 := by omega
    subst e9
    exact hc
  | succ d ih =>
    intro k hd
    have hb9 : b_be (fun c => v_al Z set (10 * q + c) 4) (k + 1) < k + 1 := b_be_lt _ k
    have hl1 := v_al_le Z set (10 * q + (k + 1)) 4 N hNN
    have hl2 := v_al_le Z set (10 * q + b_be (fun c => v_al Z set (10 * q + c) 4) (k + 1)) 4 N hNN
    refine v_iload d_X12_painting_180 rfl ?_
    refine v_bipush (v := nI 10) d_X12_painting_182 x_bp_10 ?_
    refine w_icmp_ge d_X12_painting_184 (fun h184 => False.elim (by (try simp (disch := omega) only [x_ti, x_tm1] at h184); omega)) (fun h184 => ?_)
    refine v_aload_n d_X12_painting_187 rfl ?_
    refine v_gr d_X12_painting_188 lf_X12_43_12 rfl (hS _ _ rfl) (hP _ _ _ rfl) ?_
    refine v_bipush (v := nI 10) d_X12_painting_191 x_bp_10 ?_
    refine v_iload d_X12_painting_193 rfl ?_
    first | refine v_imulN d_X12_painting_195 ?_ | refine v_imul d_X12_painting_195 ?_
    refine v_iload d_X12_painting_196 rfl ?_
    first | refine v_iaddN d_X12_painting_198 ?_ | refine v_iadd d_X12_painting_198 ?_
    refine v_iald _ d_X12_painting_199 (rfl) (hS _ _ rfl) (⟨by omega, by omega⟩) (hv (10 * q + (k + 1)) (by omega)) ?_
    refine v_aload_n d_X12_painting_200 rfl ?_
    refine v_gr d_X12_painting_201 lf_X12_43_12 rfl (hS _ _ rfl) (hP _ _ _ rfl) ?_
    refine v_bipush (v := nI 10) d_X12_painting_204 x_bp_10 ?_
    refine v_iload d_X12_painting_206 rfl ?_
    first | refine v_imulN d_X12_painting_208 ?_ | refine v_imul d_X12_painting_208 ?_
    refine v_iload d_X12_painting_209 rfl ?_
    first | refine v_iaddN d_X12_painting_211 ?_ | refine v_iadd d_X12_painting_211 ?_
    refine v_iald _ d_X12_painting_212 (rfl) (hS _ _ rfl) (⟨by omega, by omega⟩) (hv (10 * q + b_be (fun c => v_al Z set (10 * q + c) 4) (k + 1)) (by omega)) ?_
    refine w_icmp_le d_X12_painting_213 (fun a213 => ?_) (fun a213 => ?_)
    · refine v_iload d_X12_painting_221 rfl ?_
      refine v_istore (ls' := [_, _, _, _, _, _, _]) d_X12_painting_223 (by decide) rfl ?_
      first | refine v_iinc (ls' := [_, _, _, _, _, _, _]) d_X12_painting_225 rfl (x_inc_1 _) (by decide) rfl ?_ | refine v_iinc (ls' := [_, _, _, _, _, _, _]) d_X12_painting_225 rfl rfl (by decide) rfl ?_
      refine v_goto d_X12_painting_228 ?_
      have hb : (b_be (fun c => v_al Z set (10 * q + c) 4) (k + 1 + 1)) = (b_be (fun c => v_al Z set (10 * q + c) 4) (k + 1)) := by rw [b_be, if_neg (by rw [x_ti (by omega), x_ti (by omega)] at a213; show ¬ (v_al Z set (10 * q + (b_be (fun c => v_al Z set (10 * q + c) 4) (k + 1))) 4 < v_al Z set (10 * q + (k + 1)) 4); omega)]
      rw [← hb]
      exact ih (k + 1) (by omega)
    · refine v_iload d_X12_painting_216 rfl ?_
      refine v_goto d_X12_painting_218 ?_
      refine v_istore (ls' := [_, _, _, _, _, _, _]) d_X12_painting_223 (by decide) rfl ?_
      first | refine v_iinc (ls' := [_, _, _, _, _, _, _]) d_X12_painting_225 rfl (x_inc_1 _) (by decide) rfl ?_ | refine v_iinc (ls' := [_, _, _, _, _, _, _]) d_X12_painting_225 rfl rfl (by decide) rfl ?_
      refine v_goto d_X12_painting_228 ?_
      have hb : (b_be (fun c => v_al Z set (10 * q + c) 4) (k + 1 + 1)) = k + 1 := by rw [b_be, if_pos (by rw [x_ti (by omega), x_ti (by omega)] at a213; show v_al Z set (10 * q + (b_be (fun c => v_al Z set (10 * q + c) 4) (k + 1))) 4 < v_al Z set (10 * q + (k + 1)) 4; omega)]
      have hl := ih (k + 1) (by omega)
      rw [hb] at hl
      exact hl

set_option maxRecDepth 100000 in
set_option maxHeartbeats 4000000 in
theorem l_X12_paint_q {K : x_K} {S : x_S} {P : x_P} {I : x_I} {J : x_J} {n : Nat} {set wv : Int32} (Z : x_I) (J0 : x_J) (N : Nat) (hex : x_ex mF Z I J0 J) (hN6 : N ≤ 64) (hNN : (m_ce Z 10).toNat = N) (hes : g_es Z) (hpc : g_pc Z) (hbo : m_fo Z 10) (hn : 0 ≤ (Z 39 2).toInt ∧ (Z 39 2).toInt ≤ 10) (hfo : ∀ s, s < m_ns Z → m_fo Z s) (hv : ∀ a, a < 6400 → I 51 a = nI (v_al Z set a 4)) (hS : x_hS S) (hP : x_hP P)
    (hK : K (some (.int (nI (x_sm (m_pa (x_fg I 42 0 640 (v_pa Z set))) (m_ns (x_fg I 42 0 640 (v_pa Z set))))))) S P (x_fg I 42 0 640 (v_pa Z set)) J n) :
    ∀ d q : Nat, q + d = 640 → x_V f_X12_painting K 166 [some (.ref 39), some (.int set), some (.int wv), some (.int (nI N)), some (.int (nI q)), none, none] [] S P (x_fg I 42 0 q (v_pa Z set)) J n 0 0 := by
  intro d
  have hfo2 : ∀ s, s < m_ns (x_fg I 42 0 640 (v_pa Z set)) → m_fo (x_fg I 42 0 640 (v_pa Z set)) s := fun s hs => m_fo_cg (fun j => by rw [x_fg_na _ _ _ _ _ (by decide)]) (x_fos_cgF hex hfo s hs)
  induction d with
  | zero =>
    intro q hd
    refine v_iload d_X12_painting_166 rfl ?_
    refine v_sipush (v := nI 640) d_X12_painting_168 x_sp_640 ?_
    refine w_icmp_ge d_X12_painting_171 (fun h171 => ?_) (fun h171 => False.elim (by (try simp (disch := omega) only [x_ti, x_tm1] at h171); omega))
    have e9 : q = 640 := by omega
    subst e9
    refine v_aload_n d_X12_painting_246 rfl ?_
    refine v_cv (as := []) (rest := []) d_X12_painting_247 lv_X12_220_12 (hS _ _ rfl) rfl ⟨by decide, by decide⟩ rfl (Nat.le_of_ble_eq_true rfl) (by decide) (by decide) ?_
    refine t_X12_allPainted (by rw [x_fg_na _ _ _ _ _ (by decide), hex.i 39 2 rfl]; exact hn) hfo2 hS hP ?_
    refine v_ret (v := some (.int _)) d_X12_painting_250 rfl ⟨rfl, _, rfl, rfl⟩ (by decide) (by decide) ?_
    exact hK
  | succ d ih =>
    intro q hd
    refine v_iload d_X12_painting_166 rfl ?_
    refine v_sipush (v := nI 640) d_X12_painting_168 x_sp_640 ?_
    refine w_icmp_ge d_X12_painting_171 (fun h171 => False.elim (by (try simp (disch := omega) only [x_ti, x_tm1] at h171); omega)) (fun h171 => ?_)
    refine v_iconst (v := nI 0) d_X12_painting_174 x_ic_0 ?_
    refine v_istore (ls' := [_, _, _, _, _, _, _]) d_X12_painting_175 (by decide) rfl ?_
    refine v_iconst (v := nI 1) d_X12_painting_177 x_ic_1 ?_
    refine v_istore (ls' := [_, _, _, _, _, _, _]) d_X12_painting_178 (by decide) rfl ?_
    rw [show nI 0 = nI (b_be (fun c => v_al Z set (10 * q + c) 4) (0 + 1)) by rw [b_be1]]
    refine l_X12_paint_c (I := x_fg I 42 0 q (v_pa Z set)) (set := set) Z N q (by omega) hN6 hNN (fun a ha => by rw [x_fg_na _ _ _ _ _ (by decide)]; exact hv a ha) hS hP ?_ 9 0 (by omega)
    refine v_aload_n d_X12_painting_231 rfl ?_
    refine v_gr d_X12_painting_232 lf_X12_16_12 rfl (hS _ _ rfl) (hP _ _ _ rfl) ?_
    refine v_iload d_X12_painting_235 rfl ?_
    refine v_iload d_X12_painting_237 rfl ?_
    refine v_iast _ d_X12_painting_239 (rfl) (hS _ _ rfl) (⟨by omega, by omega⟩) ?_
    first | refine v_iinc (ls' := [_, _, _, _, _, _, _]) d_X12_painting_240 rfl (x_inc_1 _) (by decide) rfl ?_ | refine v_iinc (ls' := [_, _, _, _, _, _, _]) d_X12_painting_240 rfl rfl (by decide) rfl ?_
    refine v_goto d_X12_painting_243 ?_
    refine x_V.fg1 5 (ls' := [_, _, _, _, _, _, _]) rfl ?_
    refine x_V.fg1 6 (ls' := [_, _, _, _, _, _, _]) rfl ?_
    rw [x_fg_t0 (g := v_pa Z set) (by unfold v_pa; rfl)]
    exact ih (q + 1) (by omega)

set_option maxRecDepth 100000 in
set_option maxHeartbeats 4000000 in
theorem l_X12_paint_e {K : x_K} {S : x_S} {P : x_P} {n : Nat} {set wv : Int32} (Z : x_I) (J0 : x_J) (N : Nat) (hN : (N : Int) = m_ce Z 10) (hN6 : N ≤ 64) (hN1 : 1 ≤ N) (hes : g_es Z) (hpc : g_pc Z) (hbo : m_fo Z 10) (hn : 0 ≤ (Z 39 2).toInt ∧ (Z 39 2).toInt ≤ 10) (hfo : ∀ s, s < m_ns Z → m_fo Z s) (hS : x_hS S) (hP : x_hP P) (hc : ∀ (I : x_I) (J : x_J), x_ex mF Z I J0 J → (∀ a, a < 6400 → I 51 a = nI (v_al Z set a 4)) → x_V f_X12_painting K 166 [some (.ref 39), some (.int set), some (.int wv), some (.int (nI N)), some (.int (nI 0)), none, none] [] S P I J n 0 0) :
    ∀ d e : Nat, e + d = 4 → ∀ (I : x_I) (J : x_J), x_ex mF Z I J0 J → (∀ a, a < 6400 → I 51 a = nI (v_al Z set a e)) → x_V f_X12_painting K 48 [some (.ref 39), some (.int set), some (.int wv), some (.int (nI N)), some (.int (nI e)), none, none] [] S P I J n 0 0 := by
  intro d
  have t1 : (nI 1).toInt = 1 := by decide
  have hNN : (m_ce Z 10).toNat = N := by omega
  induction d with
  | zero =>
    intro e hd I J hex hv
    refine v_iload d_X12_painting_48 rfl ?_
    refine v_iconst (v := nI 4) d_X12_painting_50 x_ic_4 ?_
    refine w_icmp_ge d_X12_painting_51 (fun h51 => ?_) (fun h51 => False.elim (by (try simp (disch := omega) only [x_ti, x_tm1] at h51); omega))
    refine v_iconst (v := nI 0) d_X12_painting_163 x_ic_0 ?_
    refine v_istore (ls' := [_, _, _, _, _, _, _]) d_X12_painting_164 (by decide) rfl ?_
    have e9 : e = 4 := by omega
    subst e9
    exact hc I J hex hv
  | succ d ih =>
    intro e hd I J hex hv
    by_cases hbit : x_bt set e = 1
    · refine v_iload d_X12_painting_48 rfl ?_
      refine v_iconst (v := nI 4) d_X12_painting_50 x_ic_4 ?_
      refine w_icmp_ge d_X12_painting_51 (fun h51 => False.elim (by (try simp (disch := omega) only [x_ti, x_tm1] at h51); omega)) (fun h51 => ?_)
      refine v_iconst (v := nI 0) d_X12_painting_54 x_ic_0 ?_
      refine v_istore (ls' := [_, _, _, _, _, _, _]) d_X12_painting_55 (by decide) rfl ?_
      refine l_X12_paint_i Z J0 (fun a => v_al Z set a e) N e (by omega) hN hN6 hbit hes hpc hbo hn hfo hS hP ?_ N 0 (by omega) I J hex hv
      intro I2 J2 hx2 hv2
      first | refine v_iinc (ls' := [_, _, _, _, _, _, _]) d_X12_painting_157 rfl (x_inc_1 _) (by decide) rfl ?_ | refine v_iinc (ls' := [_, _, _, _, _, _, _]) d_X12_painting_157 rfl rfl (by decide) rfl ?_
      refine v_goto d_X12_painting_160 ?_
      refine x_V.fg1 5 (ls' := [_, _, _, _, _, _, _]) rfl ?_
      have hw : ∀ a, v_al Z set a (e + 1) = v_al Z set a e + x_ct (v_at Z a e) N := fun a => by unfold v_al; rw [x_sm_s]; unfold w_sum; rw [if_pos hbit, hNN]
      exact ih (e + 1) (by omega) I2 J2 hx2 (fun a ha => by rw [hw a]; exact hv2 a ha)
    · refine v_iload d_X12_painting_48 rfl ?_
      refine v_iconst (v := nI 4) d_X12_painting_50 x_ic_4 ?_
      refine w_icmp_ge d_X12_painting_51 (fun h51 => False.elim (by (try simp (disch := omega) only [x_ti, x_tm1] at h51); omega)) (fun h51 => ?_)
      refine v_iconst (v := nI 0) d_X12_painting_54 x_ic_0 ?_
      refine v_istore (ls' := [_, _, _, _, _, _, _]) d_X12_painting_55 (by decide) rfl ?_
      refine v_iload d_X12_painting_57 rfl ?_
      refine v_iload_n d_X12_painting_59 rfl ?_
      refine w_icmp_ge d_X12_painting_60 (fun h60 => False.elim (by (try simp (disch := omega) only [x_ti, x_tm1] at h60); omega)) (fun h60 => ?_)
      refine v_iload_n d_X12_painting_63 rfl ?_
      refine v_iload d_X12_painting_64 rfl ?_
      refine v_ishr d_X12_painting_66 ?_
      refine v_iconst (v := nI 1) d_X12_painting_67 x_ic_1 ?_
      refine v_iand d_X12_painting_68 ?_
      refine v_iconst (v := nI 1) d_X12_painting_69 x_ic_1 ?_
      refine w_icmp_ne d_X12_painting_70 (fun a70 => ?_) (fun a70 => False.elim (by rw [t1] at a70; exact hbit a70))
      first | refine v_iinc (ls' := [_, _, _, _, _, _, _]) d_X12_painting_157 rfl (x_inc_1 _) (by decide) rfl ?_ | refine v_iinc (ls' := [_, _, _, _, _, _, _]) d_X12_painting_157 rfl rfl (by decide) rfl ?_
      refine v_goto d_X12_painting_160 ?_
      refine x_V.fg1 5 (ls' := [_, _, _, _, _, _, _]) rfl ?_
      have hw : ∀ a, v_al Z set a (e + 1) = v_al Z set a e + 0 := fun a => by unfold v_al; rw [x_sm_s]; unfold w_sum; rw [if_neg hbit]
      exact ih (e + 1) (by omega) I J hex (fun a ha => by rw [hw a]; exact hv a ha)

set_option maxRecDepth 100000 in
set_option maxHeartbeats 4000000 in
theorem l_X12_paint_z {K : x_K} {S : x_S} {P : x_P} {I : x_I} {J : x_J} {n : Nat} {set wv : Int32} (N : Nat) (hS : x_hS S) (hP : x_hP P) (hc : x_V f_X12_painting K 48 [some (.ref 39), some (.int set), some (.int wv), some (.int (nI N)), some (.int (nI 0)), none, none] [] S P (x_fi I 51 0 6400 0) J n 0 0) : ∀ d k : Nat, k + d = 6400 → x_V f_X12_painting K 23 [some (.ref 39), some (.int set), some (.int wv), some (.int (nI N)), some (.int (nI k)), none, none] [] S P (x_fi I 51 0 k 0) J n 0 0 := by
  intro d
  induction d with
  | zero =>
    intro k hd
    have e9 : k = 6400 := by omega
    subst e9
    refine v_iload d_X12_painting_23 rfl ?_
    refine v_sipush (v := nI 6400) d_X12_painting_25 x_sp_6400 ?_
    refine w_icmp_ge d_X12_painting_28 (fun h28 => ?_) (fun h28 => False.elim (by (try simp (disch := omega) only [x_ti, x_tm1] at h28); omega))
    refine v_iconst (v := nI 0) d_X12_painting_45 x_ic_0 ?_
    refine v_istore (ls' := [_, _, _, _, _, _, _]) d_X12_painting_46 (by decide) rfl ?_
    exact hc
  | succ d ih =>
    intro k hd
    refine v_iload d_X12_painting_23 rfl ?_
    refine v_sipush (v := nI 6400) d_X12_painting_25 x_sp_6400 ?_
    refine w_icmp_ge d_X12_painting_28 (fun h28 => False.elim (by (try simp (disch := omega) only [x_ti, x_tm1] at h28); omega)) (fun h28 => ?_)
    refine v_aload_n d_X12_painting_31 rfl ?_
    refine v_gr d_X12_painting_32 lf_X12_43_12 rfl (hS _ _ rfl) (hP _ _ _ rfl) ?_
    refine v_iload d_X12_painting_35 rfl ?_
    refine v_iconst (v := nI 0) d_X12_painting_37 x_ic_0 ?_
    refine v_iast _ d_X12_painting_38 (rfl) (hS _ _ rfl) (⟨by omega, by omega⟩) ?_
    first | refine v_iinc (ls' := [_, _, _, _, _, _, _]) d_X12_painting_39 rfl (x_inc_1 _) (by decide) rfl ?_ | refine v_iinc (ls' := [_, _, _, _, _, _, _]) d_X12_painting_39 rfl rfl (by decide) rfl ?_
    refine v_goto d_X12_painting_42 ?_
    rw [show nI 0 = 0 from rfl, x_fi_s0]
    exact ih (k + 1) (by omega)

set_option maxRecDepth 100000 in
set_option maxHeartbeats 4000000 in
theorem t_X12_painting {K : x_K} {S : x_S} {P : x_P} {I : x_I} {J : x_J} {n : Nat} {set : Int32} (hes : g_es (z_pa1 I)) (hpc : g_pc (z_pa1 I)) (hbo : m_fo (z_pa1 I) 10) (hn : 0 ≤ ((z_pa1 I) 39 2).toInt ∧ ((z_pa1 I) 39 2).toInt ≤ 10) (hfo : ∀ s, s < m_ns (z_pa1 I) → m_fo (z_pa1 I) s) (hn0 : 0 ≤ (I 39 2).toInt ∧ (I 39 2).toInt ≤ 10) (hfo0 : ∀ s, s < m_ns I → m_fo I s) (hS : x_hS S) (hP : x_hP P) (hK : ∀ (I' : x_I) (J' : x_J), x_ex mF (z_painting I set) I' J J' → K (some (.int (q_painting I set))) S P I' J' n) : x_Call f_X12_painting [.ref 39, .int set] K S P I J n := by
  refine x_intro (by decide) 5 (ls := [_, _, _, _, _, _, _]) rfl (Nat.le_of_ble_eq_true rfl) ?_
  refine v_iload_n d_X12_painting_0 rfl ?_
  refine v_cs (as := [_]) (rest := []) d_X12_painting_1 ls_X12_214 rfl ⟨by decide, by decide⟩ rfl (Nat.le_of_ble_eq_true rfl) (by decide) (by decide) ?_
  refine t_X12_areEyes (fun q => ?_) (fun q => ?_)
  · refine w_if_ne d_X12_painting_4 (fun _ => ?_) (fun h4 => absurd h4 (by decide))
    refine v_aload_n d_X12_painting_10 rfl ?_
    refine v_cv (as := []) (rest := []) d_X12_painting_11 lv_X12_223_12 (hS _ _ rfl) rfl ⟨by decide, by decide⟩ rfl (Nat.le_of_ble_eq_true rfl) (by decide) (by decide) ?_
    refine t_X12_wash hn0 hfo0 hS hP ?_
    refine v_istore_n (ls' := [_, _, _, _, _, _, _]) d_X12_painting_14 (by decide) rfl ?_
    refine v_aload_n d_X12_painting_15 rfl ?_
    refine v_cv (as := []) (rest := []) d_X12_painting_16 lv_X12_138_12 (hS _ _ rfl) rfl ⟨by decide, by decide⟩ rfl (Nat.le_of_ble_eq_true rfl) (by decide) (by decide) ?_
    refine t_X12_boardCells hS hP ?_
    refine v_istore_n (ls' := [_, _, _, _, _, _, _]) d_X12_painting_19 (by decide) rfl ?_
    refine v_iconst (v := nI 0) d_X12_painting_20 x_ic_0 ?_
    refine v_istore (ls' := [_, _, _, _, _, _, _]) d_X12_painting_21 (by decide) rfl ?_
    have e0 : 0 ≤ set.toInt ∧ set.toInt ≤ 15 := by omega
    simp only [q_painting, z_painting, x_if_t e0] at hK
    have hc := m_ce_in hbo
    have hcN : z_pa1 I 41 64 * z_pa1 I 41 65 = nI (m_ce (z_pa1 I) 10).toNat := x_of' (by have : (z_pa1 I 41 64 * z_pa1 I 41 65).toInt = m_ce (z_pa1 I) 10 := rfl; omega)
    have hl := l_X12_paint_z (I := z_pa1 I) (J := J) (K := K) (n := n) (set := set) (wv := nI (x_sm (m_pa I) (m_ns I))) (m_ce (z_pa1 I) 10).toNat hS hP ?_ 6400 0 (by omega)
    · rw [x_fi_0, ← hcN] at hl
      exact hl
    refine l_X12_paint_e (z_pa1 I) J (m_ce (z_pa1 I) 10).toNat (by omega) (by omega) (by omega) hes hpc hbo hn hfo hS hP ?_ 4 0 (by omega) _ J (x_ex.rf.fi (fun j => rfl)) (fun a ha => by rw [x_fi_in _ _ (by omega) (by omega)]; rfl)
    intro I2 J2 hx hv
    have hl := l_X12_paint_q (I := I2) (J := J2) (K := K) (n := n) (set := set) (wv := nI (x_sm (m_pa I) (m_ns I))) (z_pa1 I) J (m_ce (z_pa1 I) 10).toNat hx (by omega) rfl hes hpc hbo hn hfo hv hS hP ?_ 640 0 (by omega)
    · rw [x_fg_0] at hl
      exact hl
    have hx3 := hx.fg42 (k := 640) (g := v_pa (z_pa1 I) set)
    rw [x_paF hx3]
    exact hK _ _ hx3
  · refine w_if_ne d_X12_painting_4 (fun h4 => absurd h4 (by decide)) (fun _ => ?_)
    refine v_bipush (v := (-2)) d_X12_painting_7 x_bp_m2 ?_
    refine v_ret (v := some (.int _)) d_X12_painting_9 rfl ⟨rfl, _, rfl, rfl⟩ (by decide) (by decide) ?_
    have e0 : ¬ (0 ≤ set.toInt ∧ set.toInt ≤ 15) := by omega
    simp only [q_painting, z_painting, x_if_f e0] at hK
    exact hK I J x_ex.rf

