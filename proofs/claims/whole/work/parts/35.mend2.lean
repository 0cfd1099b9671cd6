theorem x_ex.tr2 {E : Nat → Nat → Bool} {I I' : x_I} {J J' J'' : x_J} (h : x_ex E I I' J J') {I2 : x_I} (h2 : x_ex E I2 I2 J' J'') : x_ex E I I' J J'' := fun a k hk => ⟨(h a k hk).1, ((h2 a k hk).2).trans (h a k hk).2⟩
set_option maxRecDepth 100000 in
set_option maxHeartbeats 4000000 in
theorem l_X12_endOf_o {K : x_K} {S : x_S} {P : x_P} {n : Nat} (Z : x_I) (J0 : x_J) (fine w : Int) (hnZ : 0 ≤ (Z 39 2).toInt ∧ (Z 39 2).toInt ≤ 10) (hfoZ : ∀ s, s < m_ns Z → m_fo Z s) (hfz : fine = 1 ∨ fine = 2) (hS : x_hS S) (hP : x_hP P) :
    ∀ (k b : Nat), b + k = 3 → ∀ (I : x_I) (J : x_J), x_ex mE Z I J0 J → (I 39 14).toInt = fine → (I 39 15).toInt = w → I 39 16 = nI b → (∀ a, a < 3 → -(90 + 160 * (b : Int)) ≤ (I 48 a).toInt ∧ (I 48 a).toInt ≤ 90 + 160 * (b : Int)) → (∀ a, a < 3 → -100 ≤ (I 49 a).toInt ∧ (I 49 a).toInt ≤ 100) → (-2000 ≤ (J 39 17).toInt ∧ (J 39 17).toInt ≤ 2000) → (1 ≤ (J 39 18).toInt ∧ (J 39 18).toInt ≤ 100) →
      (∀ (I' : x_I) (J' : x_J), x_ex mE Z I' J0 J' → I' 39 16 = nI (b + (r_end Z fine w k (fun a => (I 48 a).toInt) (fun a => (I 49 a).toInt) (J 39 17).toInt (J 39 18).toInt).2) → K (some (.int (r_ans (r_end Z fine w k (fun a => (I 48 a).toInt) (fun a => (I 49 a).toInt) (J 39 17).toInt (J 39 18).toInt).1))) S P I' J' n) → x_V f_X12_endOf K 15 [some (.ref 39), none, none, none, none, none, none, none, none] [] S P I J n 0 0 := by
  intro k
  have t9 : (-9 : Int32).toInt = -9 := by decide
  induction k with
  | zero =>
    intro b hbk3 I J hex hf hw hbk hp hq blu bld hK
    have hns : m_ns I = m_ns Z := by unfold m_ns; rw [hex.i 39 2 rfl]
    have hn : 0 ≤ (I 39 2).toInt ∧ (I 39 2).toInt ≤ 10 := by rw [hex.i 39 2 rfl]; exact hnZ
    have hnn : m_ns I = (I 39 2).toInt.toNat := rfl
    have hfo : ∀ s, s < m_ns I → m_fo I s := fun s hs => by have := hfoZ s (by omega); unfold m_fo at this ⊢; simp only [hex.i 41 _ rfl]; exact this
    have hf12 : (I 39 14).toInt = 1 ∨ (I 39 14).toInt = 2 := by rw [hf]; exact hfz
    have hp0 : ∀ a, a < 3 → -1000 ≤ (I 48 a).toInt ∧ (I 48 a).toInt ≤ 1000 := fun a ha => by have := hp a ha; omega
    refine v_bipush (v := (-9)) d_X12_endOf_15 x_bp_m9 ?_
    refine v_istore_n (ls' := [_, _, _, _, _, _, _, _, _]) d_X12_endOf_17 (by decide) rfl ?_
    refine v_iconst (v := nI 0) d_X12_endOf_18 x_ic_0 ?_
    refine v_istore_n (ls' := [_, _, _, _, _, _, _, _, _]) d_X12_endOf_19 (by decide) rfl ?_
    refine v_lconst (v := 0) d_X12_endOf_20 rfl ?_
    refine v_lstore_n (ls' := [_, _, _, _, _, _, _, _, _]) d_X12_endOf_21 (by decide) rfl ?_
    refine v_lconst (v := 1) d_X12_endOf_22 rfl ?_
    refine v_lstore (ls' := [_, _, _, _, _, _, _, _, _]) d_X12_endOf_23 (by decide) rfl ?_
    refine v_iconst (v := nI 0) d_X12_endOf_25 x_ic_0 ?_
    refine v_istore (ls' := [_, _, _, _, _, _, _, _, _]) d_X12_endOf_26 (by decide) rfl ?_
    refine l_X12_endOf_i (J := J) (m_ns I) (J 39 17).toInt (J 39 18).toInt J (by unfold m_ns; omega) (by unfold m_ns; omega) hfo hp0 hq hf12 blu bld hS hP ?_ (m_ns I) 0 (by omega) J _ _ _ _ rfl rfl x_ex.rf rfl
    intro J' x1 x2 x3 x5 hexJ hr
    cases hb : r_best I (I 39 14).toInt (fun a => (I 48 a).toInt) (fun a => (I 49 a).toInt) (J 39 17).toInt (J 39 18).toInt (I 39 15).toInt (m_ns I) with
    | none =>
      rw [hb] at hr
      have hr : x1 = -9 := hr
      refine v_iload_n d_X12_endOf_112 rfl ?_
      refine v_bipush (v := (-9)) d_X12_endOf_113 x_bp_m9 ?_
      refine w_icmp_ne d_X12_endOf_115 (fun h115 => False.elim (by (try simp (disch := omega) only [x_ti, x_tm1] at h115); rw [hr] at h115; exact h115 rfl)) (fun h115 => ?_)
      refine v_bipush (v := (-9)) d_X12_endOf_118 x_bp_m9 ?_
      refine v_ret (v := some (.int _)) d_X12_endOf_120 rfl ⟨rfl, _, rfl, rfl⟩ (by decide) (by decide) ?_
      have hbZ : r_best Z fine (fun a => (I 48 a).toInt) (fun a => (I 49 a).toInt) (J 39 17).toInt (J 39 18).toInt w (m_ns Z) = none := by rw [← hb, ← hns, ← hf, ← hw]; exact (r_best_cg (fun j => hex.i 41 j rfl) _ _ _ _ _ _ _).symm
      rw [r_end_n hbZ] at hK
      exact hK I J' (hex.tr2 hexJ) (by rw [hbk]; rfl)
    | some v =>
      obtain ⟨s, c, u, d⟩ := v
      rw [hb] at hr
      obtain ⟨rfl, rfl, hx3, hx5⟩ := hr
      have hbi := r_best_in hp0 hq hf12 (m_ns I) hfo hb
      have hbZ : r_best Z fine (fun a => (I 48 a).toInt) (fun a => (I 49 a).toInt) (J 39 17).toInt (J 39 18).toInt w (m_ns Z) = some (s, c, u, d) := by rw [← hb, ← hns, ← hf, ← hw]; exact (r_best_cg (fun j => hex.i 41 j rfl) _ _ _ _ _ _ _).symm
      have hfs := hfo s (by omega)
      obtain ⟨f0, f1, f2, f3, f4, f5, f6, f7⟩ := hfs
      obtain ⟨a, hax, ha1, ha2, ha3⟩ := x_ex1 (s := I 41 (6 * s)) (by omega)
      have ha : a < 3 := by omega
      have hraZ : r_a Z s = a := by unfold r_a; rw [← hex.i 41 (6 * s) rfl]; exact ha3
      have b1 := hp a ha
      have b2 := hq a ha
      have ht9 : (I 40 s).toInt = (Z 40 s).toInt ∧ (I 42 (64 * s + c)).toInt = (Z 42 (64 * s + c)).toInt := ⟨by rw [hex.i 40 s rfl], by rw [hex.i 42 (64 * s + c) rfl]⟩
      refine v_iload_n d_X12_endOf_112 rfl ?_
      refine v_bipush (v := (-9)) d_X12_endOf_113 x_bp_m9 ?_
      refine w_icmp_ne d_X12_endOf_115 (fun h115 => ?_) (fun h115 => False.elim (by (try simp (disch := omega) only [x_ti, x_tm1] at h115); rw [t9] at h115; omega))
      refine v_aload_n d_X12_endOf_121 rfl ?_
      refine v_iload_n d_X12_endOf_122 rfl ?_
      refine v_iload_n d_X12_endOf_123 rfl ?_
      refine v_cv (as := [_, _]) (rest := []) d_X12_endOf_124 lv_X12_189_12 (hS _ _ rfl) rfl ⟨by decide, by decide⟩ rfl (Nat.le_of_ble_eq_true rfl) (by decide) (by decide) ?_
      refine t_X12_throwsBack s c rfl (by omega) rfl (by omega) hS hP (fun qt => ?_) (fun qt => ?_)
      · refine w_if_ne d_X12_endOf_127 (fun _ => ?_) (fun h127 => absurd h127 (by decide))
        refine v_aload_n d_X12_endOf_137 rfl ?_
        refine v_gie d_X12_endOf_138 lf_X12_180_12 rfl (hS _ _ rfl) (hbk) ?_
        refine v_iconst (v := nI 3) d_X12_endOf_141 x_ic_3 ?_
        refine w_icmp_ne d_X12_endOf_142 (fun a142 => False.elim (by (try simp (disch := omega) only [x_ti, x_tm1] at a142); omega)) (fun a142 => ?_)
        refine v_bipush (v := (-9)) d_X12_endOf_145 x_bp_m9 ?_
        refine v_ret (v := some (.int _)) d_X12_endOf_147 rfl ⟨rfl, _, rfl, rfl⟩ (by decide) (by decide) ?_
        have htb : r_tb Z s c = true := by unfold r_tb; rw [← ht9.1, ← ht9.2]; exact decide_eq_true qt
        rw [r_end_0 hbZ htb] at hK
        exact hK I J' (hex.tr2 hexJ) (by rw [hbk]; rfl)
      · refine w_if_ne d_X12_endOf_127 (fun h127 => absurd h127 (by decide)) (fun _ => ?_)
        refine v_bipush (v := nI 100) d_X12_endOf_130 x_bp_100 ?_
        refine v_iload_n d_X12_endOf_132 rfl ?_
        first | refine v_imulN d_X12_endOf_133 ?_ | refine v_imul d_X12_endOf_133 ?_
        refine v_iload_n d_X12_endOf_134 rfl ?_
        first | refine v_iaddN d_X12_endOf_135 ?_ | refine v_iadd d_X12_endOf_135 ?_
        refine v_ret (v := some (.int _)) d_X12_endOf_136 rfl ⟨rfl, _, rfl, rfl⟩ (by decide) (by decide) ?_
        have htb : r_tb Z s c = false := by unfold r_tb; rw [← ht9.1, ← ht9.2]; exact decide_eq_false qt
        rw [r_end_e hbZ htb] at hK
        exact hK I J' (hex.tr2 hexJ) (by rw [hbk]; rfl)
  | succ k ih =>
    intro b hbk3 I J hex hf hw hbk hp hq blu bld hK
    have hns : m_ns I = m_ns Z := by unfold m_ns; rw [hex.i 39 2 rfl]
    have hn : 0 ≤ (I 39 2).toInt ∧ (I 39 2).toInt ≤ 10 := by rw [hex.i 39 2 rfl]; exact hnZ
    have hnn : m_ns I = (I 39 2).toInt.toNat := rfl
    have hfo : ∀ s, s < m_ns I → m_fo I s := fun s hs => by have := hfoZ s (by omega); unfold m_fo at this ⊢; simp only [hex.i 41 _ rfl]; exact this
    have hf12 : (I 39 14).toInt = 1 ∨ (I 39 14).toInt = 2 := by rw [hf]; exact hfz
    have hp0 : ∀ a, a < 3 → -1000 ≤ (I 48 a).toInt ∧ (I 48 a).toInt ≤ 1000 := fun a ha => by have := hp a ha; omega
    refine v_bipush (v := (-9)) d_X12_endOf_15 x_bp_m9 ?_
    refine v_istore_n (ls' := [_, _, _, _, _, _, _, _, _]) d_X12_endOf_17 (by decide) rfl ?_
    refine v_iconst (v := nI 0) d_X12_endOf_18 x_ic_0 ?_
    refine v_istore_n (ls' := [_, _, _, _, _, _, _, _, _]) d_X12_endOf_19 (by decide) rfl ?_
    refine v_lconst (v := 0) d_X12_endOf_20 rfl ?_
    refine v_lstore_n (ls' := [_, _, _, _, _, _, _, _, _]) d_X12_endOf_21 (by decide) rfl ?_
    refine v_lconst (v := 1) d_X12_endOf_22 rfl ?_
    refine v_lstore (ls' := [_, _, _, _, _, _, _, _, _]) d_X12_endOf_23 (by decide) rfl ?_
    refine v_iconst (v := nI 0) d_X12_endOf_25 x_ic_0 ?_
    refine v_istore (ls' := [_, _, _, _, _, _, _, _, _]) d_X12_endOf_26 (by decide) rfl ?_
    refine l_X12_endOf_i (J := J) (m_ns I) (J 39 17).toInt (J 39 18).toInt J (by unfold m_ns; omega) (by unfold m_ns; omega) hfo hp0 hq hf12 blu bld hS hP ?_ (m_ns I) 0 (by omega) J _ _ _ _ rfl rfl x_ex.rf rfl
    intro J' x1 x2 x3 x5 hexJ hr
    cases hb : r_best I (I 39 14).toInt (fun a => (I 48 a).toInt) (fun a => (I 49 a).toInt) (J 39 17).toInt (J 39 18).toInt (I 39 15).toInt (m_ns I) with
    | none =>
      rw [hb] at hr
      have hr : x1 = -9 := hr
      refine v_iload_n d_X12_endOf_112 rfl ?_
      refine v_bipush (v := (-9)) d_X12_endOf_113 x_bp_m9 ?_
      refine w_icmp_ne d_X12_endOf_115 (fun h115 => False.elim (by (try simp (disch := omega) only [x_ti, x_tm1] at h115); rw [hr] at h115; exact h115 rfl)) (fun h115 => ?_)
      refine v_bipush (v := (-9)) d_X12_endOf_118 x_bp_m9 ?_
      refine v_ret (v := some (.int _)) d_X12_endOf_120 rfl ⟨rfl, _, rfl, rfl⟩ (by decide) (by decide) ?_
      have hbZ : r_best Z fine (fun a => (I 48 a).toInt) (fun a => (I 49 a).toInt) (J 39 17).toInt (J 39 18).toInt w (m_ns Z) = none := by rw [← hb, ← hns, ← hf, ← hw]; exact (r_best_cg (fun j => hex.i 41 j rfl) _ _ _ _ _ _ _).symm
      rw [r_end_n hbZ] at hK
      exact hK I J' (hex.tr2 hexJ) (by rw [hbk]; rfl)
    | some v =>
      obtain ⟨s, c, u, d⟩ := v
      rw [hb] at hr
      obtain ⟨rfl, rfl, hx3, hx5⟩ := hr
      have hbi := r_best_in hp0 hq hf12 (m_ns I) hfo hb
      have hbZ : r_best Z fine (fun a => (I 48 a).toInt) (fun a => (I 49 a).toInt) (J 39 17).toInt (J 39 18).toInt w (m_ns Z) = some (s, c, u, d) := by rw [← hb, ← hns, ← hf, ← hw]; exact (r_best_cg (fun j => hex.i 41 j rfl) _ _ _ _ _ _ _).symm
      have hfs := hfo s (by omega)
      obtain ⟨f0, f1, f2, f3, f4, f5, f6, f7⟩ := hfs
      obtain ⟨a, hax, ha1, ha2, ha3⟩ := x_ex1 (s := I 41 (6 * s)) (by omega)
      have ha : a < 3 := by omega
      have hraZ : r_a Z s = a := by unfold r_a; rw [← hex.i 41 (6 * s) rfl]; exact ha3
      have b1 := hp a ha
      have b2 := hq a ha
      have ht9 : (I 40 s).toInt = (Z 40 s).toInt ∧ (I 42 (64 * s + c)).toInt = (Z 42 (64 * s + c)).toInt := ⟨by rw [hex.i 40 s rfl], by rw [hex.i 42 (64 * s + c) rfl]⟩
      refine v_iload_n d_X12_endOf_112 rfl ?_
      refine v_bipush (v := (-9)) d_X12_endOf_113 x_bp_m9 ?_
      refine w_icmp_ne d_X12_endOf_115 (fun h115 => ?_) (fun h115 => False.elim (by (try simp (disch := omega) only [x_ti, x_tm1] at h115); rw [t9] at h115; omega))
      refine v_aload_n d_X12_endOf_121 rfl ?_
      refine v_iload_n d_X12_endOf_122 rfl ?_
      refine v_iload_n d_X12_endOf_123 rfl ?_
      refine v_cv (as := [_, _]) (rest := []) d_X12_endOf_124 lv_X12_189_12 (hS _ _ rfl) rfl ⟨by decide, by decide⟩ rfl (Nat.le_of_ble_eq_true rfl) (by decide) (by decide) ?_
      refine t_X12_throwsBack s c rfl (by omega) rfl (by omega) hS hP (fun qt => ?_) (fun qt => ?_)
      · refine w_if_ne d_X12_endOf_127 (fun _ => ?_) (fun h127 => absurd h127 (by decide))
        refine v_aload_n d_X12_endOf_137 rfl ?_
        refine v_gie d_X12_endOf_138 lf_X12_180_12 rfl (hS _ _ rfl) (hbk) ?_
        refine v_iconst (v := nI 3) d_X12_endOf_141 x_ic_3 ?_
        refine w_icmp_ne d_X12_endOf_142 (fun a142 => ?_) (fun a142 => False.elim (by (try simp (disch := omega) only [x_ti, x_tm1] at a142); omega))
        refine v_aload_n d_X12_endOf_148 rfl ?_
        refine v_dup d_X12_endOf_149 rfl ?_
        refine v_gie d_X12_endOf_150 lf_X12_180_12 rfl (hS _ _ rfl) (hbk) ?_
        refine v_iconst (v := nI 1) d_X12_endOf_153 x_ic_1 ?_
        first | refine v_iaddN d_X12_endOf_154 ?_ | refine v_iadd d_X12_endOf_154 ?_
        refine v_pi d_X12_endOf_155 (lp_X12_180_12 _) rfl (hS _ _ rfl) (rfl) rfl ?_
        refine v_aload_n d_X12_endOf_158 rfl ?_
        refine v_lload_n d_X12_endOf_159 rfl ?_
        refine v_pl d_X12_endOf_160 (lp_X12_167_12 _) rfl (hS _ _ rfl) rfl rfl ?_
        refine v_aload_n d_X12_endOf_163 rfl ?_
        refine v_lload d_X12_endOf_164 rfl ?_
        refine v_pl d_X12_endOf_166 (lp_X12_164_12 _) rfl (hS _ _ rfl) rfl rfl ?_
        refine v_aload_n d_X12_endOf_169 rfl ?_
        refine v_gr d_X12_endOf_170 lf_X12_13_12 rfl (hS _ _ rfl) (hP _ _ _ rfl) ?_
        refine v_bipush (v := nI 6) d_X12_endOf_173 x_bp_6 ?_
        refine v_iload_n d_X12_endOf_175 rfl ?_
        first | refine v_imulN d_X12_endOf_176 ?_ | refine v_imul d_X12_endOf_176 ?_
        refine v_iald _ d_X12_endOf_177 (rfl) (hS _ _ rfl) (⟨by omega, by omega⟩) (hax) ?_
        refine v_istore (ls' := [_, _, _, _, _, _, _, _, _]) d_X12_endOf_178 (by decide) rfl ?_
        refine v_aload_n d_X12_endOf_180 rfl ?_
        refine v_gr d_X12_endOf_181 lf_X12_34_12 rfl (hS _ _ rfl) (hP _ _ _ rfl) ?_
        refine v_iload d_X12_endOf_184 rfl ?_
        refine v_iconst (v := nI 2) d_X12_endOf_186 x_ic_2 ?_
        refine v_aload_n d_X12_endOf_187 rfl ?_
        refine v_gr d_X12_endOf_188 lf_X12_13_12 rfl (hS _ _ rfl) (hP _ _ _ rfl) ?_
        refine v_bipush (v := nI 6) d_X12_endOf_191 x_bp_6 ?_
        refine v_iload_n d_X12_endOf_193 rfl ?_
        first | refine v_imulN d_X12_endOf_194 ?_ | refine v_imul d_X12_endOf_194 ?_
        refine v_iconst (v := nI 1) d_X12_endOf_195 x_ic_1 ?_
        first | refine v_iaddN d_X12_endOf_196 ?_ | refine v_iadd d_X12_endOf_196 ?_
        refine v_iald (v := I 41 (6 * s + 1)) _ d_X12_endOf_197 (rfl) (hS _ _ rfl) (⟨by omega, by omega⟩) (rfl) ?_
        refine v_imul d_X12_endOf_198 ?_
        refine v_aload_n d_X12_endOf_199 rfl ?_
        refine v_gie (v := I 39 14) d_X12_endOf_200 lf_X12_157_12 rfl (hS _ _ rfl) (rfl) ?_
        refine v_imul d_X12_endOf_203 ?_
        refine v_aload_n d_X12_endOf_204 rfl ?_
        refine v_gr d_X12_endOf_205 lf_X12_34_12 rfl (hS _ _ rfl) (hP _ _ _ rfl) ?_
        refine v_iload d_X12_endOf_208 rfl ?_
        refine v_iald (v := I 48 a) _ d_X12_endOf_210 (rfl) (hS _ _ rfl) (⟨by omega, by omega⟩) (rfl) ?_
        refine v_isub d_X12_endOf_211 ?_
        refine v_iast _ d_X12_endOf_212 (rfl) (hS _ _ rfl) (⟨by omega, by omega⟩) ?_
        refine v_aload_n d_X12_endOf_213 rfl ?_
        refine v_gr d_X12_endOf_214 lf_X12_37_12 rfl (hS _ _ rfl) (hP _ _ _ rfl) ?_
        refine v_iload d_X12_endOf_217 rfl ?_
        refine v_aload_n d_X12_endOf_219 rfl ?_
        refine v_gr d_X12_endOf_220 lf_X12_37_12 rfl (hS _ _ rfl) (hP _ _ _ rfl) ?_
        refine v_iload d_X12_endOf_223 rfl ?_
        refine v_iald (v := I 49 a) _ d_X12_endOf_225 (rfl) (hS _ _ rfl) (⟨by omega, by omega⟩) (rfl) ?_
        refine v_ineg d_X12_endOf_226 ?_
        refine v_iast _ d_X12_endOf_227 (rfl) (hS _ _ rfl) (⟨by omega, by omega⟩) ?_
        refine v_goto d_X12_endOf_228 ?_
        have htb : r_tb Z s c = true := by unfold r_tb; rw [← ht9.1, ← ht9.2]; exact decide_eq_true qt
        refine x_V.fg1 1 (ls' := [_, _, _, _, _, _, _, _, _]) rfl ?_
        refine x_V.fg1 2 (ls' := [_, _, _, _, _, _, _, _, _]) rfl ?_
        refine x_V.fg1 3 (ls' := [_, _, _, _, _, _, _, _, _]) rfl ?_
        refine x_V.fg1 5 (ls' := [_, _, _, _, _, _, _, _, _]) rfl ?_
        refine x_V.fg1 7 (ls' := [_, _, _, _, _, _, _, _, _]) rfl ?_
        refine x_V.fg1 8 (ls' := [_, _, _, _, _, _, _, _, _]) rfl ?_
        have hv : (nI 2 * I 41 (6 * s + 1) * I 39 14 - I 48 a).toInt = 2 * (I 41 (6 * s + 1)).toInt * (I 39 14).toInt - (I 48 a).toInt := by
          have g2 : (nI 2).toInt = 2 := by decide
          have g3 : (nI 2 * I 41 (6 * s + 1)).toInt = 2 * (I 41 (6 * s + 1)).toInt := by rw [x_mul (by rw [g2]; omega) (by rw [g2]; omega), g2]
          have g4 := x_pb (a := 2 * (I 41 (6 * s + 1)).toInt) (b := (I 39 14).toInt) (A := 80) (B := 2) (by omega) (by omega) (by omega) (by omega)
          have g5 : (nI 2 * I 41 (6 * s + 1) * I 39 14).toInt = 2 * (I 41 (6 * s + 1)).toInt * (I 39 14).toInt := by rw [x_mul (by rw [g3]; omega) (by rw [g3]; omega), g3]
          rw [x_sub (by omega) (by omega), g5]
        have g4 := x_pb (a := 2 * (I 41 (6 * s + 1)).toInt) (b := (I 39 14).toInt) (A := 80) (B := 2) (by omega) (by omega) (by omega) (by omega)
        have hv2 : (-I 49 a).toInt = -(I 49 a).toInt := x_neg (by omega)
        have P1 := r_up48 I a (nI 2 * I 41 (6 * s + 1) * I 39 14 - I 48 a) (x_u2 (x_u2 (x_u2 I 39 16 (nI (b + 1))) 48 a (nI 2 * I 41 (6 * s + 1) * I 39 14 - I 48 a)) 49 a (-I 49 a)) (fun c hc => by rw [x_u2_na _ _ _ _ (by decide), x_u2_nk _ _ _ _ hc]; rfl) (by rw [x_u2_na _ _ _ _ (by decide), x_u2_s])
        have P2 := r_up49 I a (-I 49 a) (x_u2 (x_u2 (x_u2 I 39 16 (nI (b + 1))) 48 a (nI 2 * I 41 (6 * s + 1) * I 39 14 - I 48 a)) 49 a (-I 49 a)) (fun c hc => by rw [x_u2_nk _ _ _ _ hc]; rfl) (x_u2_s _ _ _ _)
        have hend := r_end_s (k := k) hbZ htb (p' := fun c => ((x_u2 (x_u2 (x_u2 I 39 16 (nI (b + 1))) 48 a (nI 2 * I 41 (6 * s + 1) * I 39 14 - I 48 a)) 49 a (-I 49 a)) 48 c).toInt) (q' := fun c => ((x_u2 (x_u2 (x_u2 I 39 16 (nI (b + 1))) 48 a (nI 2 * I 41 (6 * s + 1) * I 39 14 - I 48 a)) 49 a (-I 49 a)) 49 c).toInt) (by rw [P1, hv, hraZ, ← hf, hex.i 41 (6 * s + 1) rfl]) (by rw [P2, hv2, hraZ])
        rw [hend] at hK
        refine ih (b + 1) (by omega) (x_u2 (x_u2 (x_u2 I 39 16 (nI (b + 1))) 48 a (nI 2 * I 41 (6 * s + 1) * I 39 14 - I 48 a)) 49 a (-I 49 a)) (x_u2 (x_u2 J' 39 17 x3) 39 18 x5) ((((((hex.ui (a := 39) (k := 16) rfl).ui (a := 48) (k := a) rfl).ui (a := 49) (k := a) rfl).tr2 hexJ).uj (a := 39) (k := 17) rfl).uj (a := 39) (k := 18) rfl) hf hw rfl ?_ ?_ (show -2000 ≤ x3.toInt ∧ x3.toInt ≤ 2000 by rw [hx3]; omega) (show 1 ≤ x5.toInt ∧ x5.toInt ≤ 100 by rw [hx5]; omega) ?_
        · intro c hc
          have hPc := congrFun P1 c
          try simp only at hPc
          rw [hPc]
          unfold r_upd
          have := hp c hc
          have := hp a ha
          split
          · rw [hv]; omega
          · (try dsimp only); omega
        · intro c hc
          have hPc := congrFun P2 c
          try simp only at hPc
          rw [hPc]
          unfold r_upd
          have := hq c hc
          have := hq a ha
          split
          · rw [hv2]; omega
          · (try dsimp only); omega
        · intro I' J'' h1 h2
          have h3 : ((x_u2 (x_u2 J' 39 17 x3) 39 18 x5) 39 17).toInt = u := hx3
          have h4 : ((x_u2 (x_u2 J' 39 17 x3) 39 18 x5) 39 18).toInt = d := hx5
          rw [h3, h4] at h2 ⊢
          exact hK I' J'' h1 (by rw [h2]; congr 1; omega)
      · refine w_if_ne d_X12_endOf_127 (fun h127 => absurd h127 (by decide)) (fun _ => ?_)
        refine v_bipush (v := nI 100) d_X12_endOf_130 x_bp_100 ?_
        refine v_iload_n d_X12_endOf_132 rfl ?_
        first | refine v_imulN d_X12_endOf_133 ?_ | refine v_imul d_X12_endOf_133 ?_
        refine v_iload_n d_X12_endOf_134 rfl ?_
        first | refine v_iaddN d_X12_endOf_135 ?_ | refine v_iadd d_X12_endOf_135 ?_
        refine v_ret (v := some (.int _)) d_X12_endOf_136 rfl ⟨rfl, _, rfl, rfl⟩ (by decide) (by decide) ?_
        have htb : r_tb Z s c = false := by unfold r_tb; rw [← ht9.1, ← ht9.2]; exact decide_eq_false qt
        rw [r_end_e hbZ htb] at hK
        exact hK I J' (hex.tr2 hexJ) (by rw [hbk]; rfl)

