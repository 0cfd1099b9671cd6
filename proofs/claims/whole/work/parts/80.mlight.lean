def mL (a _k : Nat) : Bool := Nat.beq a 57
def mB (a _k : Nat) : Bool := Nat.ble 59 a && Nat.ble a 61
/-- lit by what comes ahead of hole k at hour t -/
def h_sn (L : Nat → Nat → Option Nat) (T k t a : Nat) : Prop := ∃ j u, (j < k ∨ (j = k ∧ u < t)) ∧ u < T ∧ L j u = some a
theorem h_sn_s {L : Nat → Nat → Option Nat} {T k t a : Nat} (ht : t < T) : h_sn L T k (t + 1) a ↔ (h_sn L T k t a ∨ L k t = some a) := by
  constructor
  · intro ⟨j, u, h1, h2, h3⟩
    by_cases e : j = k ∧ u = t
    · obtain ⟨rfl, rfl⟩ := e; exact Or.inr h3
    · exact Or.inl ⟨j, u, by omega, h2, h3⟩
  · intro h
    rcases h with ⟨j, u, h1, h2, h3⟩ | h
    · exact ⟨j, u, by omega, h2, h3⟩
    · exact ⟨k, t, by omega, ht, h⟩
theorem h_sn_k {L : Nat → Nat → Option Nat} {T k a : Nat} : h_sn L T k T a ↔ h_sn L T (k + 1) 0 a := by
  constructor
  · intro ⟨j, u, h1, h2, h3⟩; exact ⟨j, u, by omega, h2, h3⟩
  · intro ⟨j, u, h1, h2, h3⟩; exact ⟨j, u, by omega, h2, h3⟩
theorem h_sn_f {L : Nat → Nat → Option Nat} {m T k t a : Nat} (hok : h_lok L m T) (hk : k < m) (ht : t < T) (h : L k t = some a) : f_fi L k t = true ↔ ¬ h_sn L T k t a := by
  have ha := hok k t a hk ht h
  unfold f_fi
  rw [decide_eq_true_eq]
  constructor
  · intro ⟨_, h2⟩ ⟨j, u, q1, q2, q3⟩
    have hj := hok j u a (by omega) q2 q3
    have e : u = t := by omega
    subst e
    exact h2 j (by omega) (by rw [q3, h])
  · intro h2
    refine ⟨(fun z => by rw [h] at z; cases z), fun j hj hl => h2 ⟨j, t, Or.inl hj, ht, by rw [hl, h]⟩⟩
noncomputable def h_sb (L : Nat → Nat → Option Nat) (T k t a : Nat) : Bool := @decide (h_sn L T k t a) (Classical.propDecidable _)
theorem h_sb_iff {L : Nat → Nat → Option Nat} {T k t a : Nat} : h_sb L T k t a = true ↔ h_sn L T k t a := by unfold h_sb; exact @decide_eq_true_iff _ (Classical.propDecidable _)

set_option maxRecDepth 100000 in
set_option maxHeartbeats 4000000 in
theorem l_X12_dl_i {K : x_K} {S : x_S} {P : x_P} {n : Nat} {Z : x_I} (J0 : x_J) (L : Nat → Nat → Option Nat) (m T : Nat) (hm : m ≤ 16) (hT : T = m_nh Z) (hT6 : (Z 39 24).toInt = (T : Int)) (hT7 : T ≤ 6) (hok : h_lok L m T) (hwl : ∀ k t a, k < m → t < T → L k t = some a → ¬ (Z 54 a).toInt = 0) (hS : x_hS S) (hP : x_hP P) (k : Nat) (hk : k < m) (hc : ∀ (I : x_I) (J : x_J), x_ex mL Z I J0 J → (∀ k t, k < m → t < T → I 56 (6 * k + t) = h_w (L k t)) → (∀ k, k < m → I 58 k = nI k) → (∀ a, a < 3840 → I 57 a = (if h_sb L T k T a = true then nI 1 else nI 0)) → (x_sm (fun k => x_ct (f_fi L k) T) k + x_ct (f_fi L k) T) + (x_ct (fun q => decide (¬ (Z 54 q).toInt = 0) && !(h_sb L T k T q)) 3840) = m_wm Z → x_V f_X12_doLight K 111 [some (.ref 39), some (.int (nI m)), some (.int (nI (x_ct (fun q => decide (¬ (Z 54 q).toInt = 0) && !(h_sb L T k T q)) 3840))), some (.int (nI k)), some (.int (nI T)), none] [] S P I J n 0 0) :
    ∀ d t : Nat, t + d = T → ∀ (I : x_I) (J : x_J), x_ex mL Z I J0 J → (∀ k t, k < m → t < T → I 56 (6 * k + t) = h_w (L k t)) → (∀ k, k < m → I 58 k = nI k) → (∀ a, a < 3840 → I 57 a = (if h_sb L T k t a = true then nI 1 else nI 0)) → (x_sm (fun k => x_ct (f_fi L k) T) k + x_ct (f_fi L k) t) + (x_ct (fun q => decide (¬ (Z 54 q).toInt = 0) && !(h_sb L T k t q)) 3840) = m_wm Z → x_V f_X12_doLight K 51 [some (.ref 39), some (.int (nI m)), some (.int (nI (x_ct (fun q => decide (¬ (Z 54 q).toInt = 0) && !(h_sb L T k t q)) 3840))), some (.int (nI k)), some (.int (nI t)), none] [] S P I J n 0 0 := by
  intro d
  induction d with
  | zero =>
    intro t hd I J hex r56 r58 r57 hD
    refine v_iload d_X12_doLight_51 rfl ?_
    refine v_aload_n d_X12_doLight_53 rfl ?_
    refine v_gie d_X12_doLight_54 lf_X12_229_12 rfl (hS _ _ rfl) ((hex.i 39 24 rfl)) ?_
    refine w_icmp_ge d_X12_doLight_57 (fun h57 => ?_) (fun h57 => False.elim (by (try simp (disch := omega) only [x_ti, x_tm1] at h57); omega))
    have e1 : t = T := by omega
    subst e1
    exact hc I J hex r56 r58 r57 hD
  | succ d ih =>
    intro t hd I J hex r56 r58 r57 hD
    cases zo : L k t with
    | none =>
      refine v_iload d_X12_doLight_51 rfl ?_
      refine v_aload_n d_X12_doLight_53 rfl ?_
      refine v_gie d_X12_doLight_54 lf_X12_229_12 rfl (hS _ _ rfl) ((hex.i 39 24 rfl)) ?_
      refine w_icmp_ge d_X12_doLight_57 (fun h57 => False.elim (by (try simp (disch := omega) only [x_ti, x_tm1] at h57); omega)) (fun h57 => ?_)
      refine v_aload_n d_X12_doLight_60 rfl ?_
      refine v_gr d_X12_doLight_61 lf_X12_63_12 rfl (hS _ _ rfl) (hP _ _ _ rfl) ?_
      refine v_bipush (v := nI 6) d_X12_doLight_64 x_bp_6 ?_
      refine v_aload_n d_X12_doLight_66 rfl ?_
      refine v_gr d_X12_doLight_67 lf_X12_69_12 rfl (hS _ _ rfl) (hP _ _ _ rfl) ?_
      refine v_iload_n d_X12_doLight_70 rfl ?_
      refine v_iald _ d_X12_doLight_71 (rfl) (hS _ _ rfl) (⟨by omega, by omega⟩) (r58 k hk) ?_
      first | refine v_imulN d_X12_doLight_72 ?_ | refine v_imul d_X12_doLight_72 ?_
      refine v_iload d_X12_doLight_73 rfl ?_
      first | refine v_iaddN d_X12_doLight_75 ?_ | refine v_iadd d_X12_doLight_75 ?_
      refine v_iald _ d_X12_doLight_76 (rfl) (hS _ _ rfl) (⟨by omega, by omega⟩) ((r56 k t hk (by omega)).trans (show h_w (L k t) = -1 by rw [zo]; rfl)) ?_
      refine v_istore (ls' := [_, _, _, _, _, _]) d_X12_doLight_77 (by decide) rfl ?_
      refine v_iload d_X12_doLight_79 rfl ?_
      refine w_if_lt d_X12_doLight_81 (fun a81 => ?_) (fun a81 => False.elim (by exact absurd a81 (by decide)))
      first | refine v_iinc (ls' := [_, _, _, _, _, _]) d_X12_doLight_105 rfl (x_inc_1 _) (by decide) rfl ?_ | refine v_iinc (ls' := [_, _, _, _, _, _]) d_X12_doLight_105 rfl rfl (by decide) rfl ?_
      refine v_goto d_X12_doLight_108 ?_
      refine x_V.fg1 5 (ls' := [_, _, _, _, _, _]) rfl ?_
      have zf : f_fi L k t = false := by unfold f_fi; exact decide_eq_false (fun q => q.1 zo)
      have zs : ∀ a, h_sb L T k (t + 1) a = h_sb L T k t a := fun a => by
        rw [Bool.eq_iff_iff, h_sb_iff, h_sb_iff, h_sn_s (by omega)]
        exact ⟨fun w => w.resolve_right (fun z => by rw [zo] at z; cases z), Or.inl⟩
      have hi := ih (t + 1) (by omega) I J hex r56 r58 (fun a ha => by rw [zs]; exact r57 a ha) (by rw [← x_ct_n zf, Nat.add_zero]; simp only [zs]; exact hD)
      simp only [zs] at hi
      exact hi
    | some a =>
      have zin := hok k t a hk (by omega) zo
      cases zl : h_sb L T k t a with
      | true =>
        refine v_iload d_X12_doLight_51 rfl ?_
        refine v_aload_n d_X12_doLight_53 rfl ?_
        refine v_gie d_X12_doLight_54 lf_X12_229_12 rfl (hS _ _ rfl) ((hex.i 39 24 rfl)) ?_
        refine w_icmp_ge d_X12_doLight_57 (fun h57 => False.elim (by (try simp (disch := omega) only [x_ti, x_tm1] at h57); omega)) (fun h57 => ?_)
        refine v_aload_n d_X12_doLight_60 rfl ?_
        refine v_gr d_X12_doLight_61 lf_X12_63_12 rfl (hS _ _ rfl) (hP _ _ _ rfl) ?_
        refine v_bipush (v := nI 6) d_X12_doLight_64 x_bp_6 ?_
        refine v_aload_n d_X12_doLight_66 rfl ?_
        refine v_gr d_X12_doLight_67 lf_X12_69_12 rfl (hS _ _ rfl) (hP _ _ _ rfl) ?_
        refine v_iload_n d_X12_doLight_70 rfl ?_
        refine v_iald _ d_X12_doLight_71 (rfl) (hS _ _ rfl) (⟨by omega, by omega⟩) (r58 k hk) ?_
        first | refine v_imulN d_X12_doLight_72 ?_ | refine v_imul d_X12_doLight_72 ?_
        refine v_iload d_X12_doLight_73 rfl ?_
        first | refine v_iaddN d_X12_doLight_75 ?_ | refine v_iadd d_X12_doLight_75 ?_
        refine v_iald _ d_X12_doLight_76 (rfl) (hS _ _ rfl) (⟨by omega, by omega⟩) ((r56 k t hk (by omega)).trans (show h_w (L k t) = nI a by rw [zo]; rfl)) ?_
        refine v_istore (ls' := [_, _, _, _, _, _]) d_X12_doLight_77 (by decide) rfl ?_
        refine v_iload d_X12_doLight_79 rfl ?_
        refine w_if_lt d_X12_doLight_81 (fun a81 => False.elim (by rw [x_ti (by omega)] at a81; omega)) (fun a81 => ?_)
        refine v_aload_n d_X12_doLight_84 rfl ?_
        refine v_gr d_X12_doLight_85 lf_X12_66_12 rfl (hS _ _ rfl) (hP _ _ _ rfl) ?_
        refine v_iload d_X12_doLight_88 rfl ?_
        refine v_zald _ d_X12_doLight_90 (rfl) (hS _ _ rfl) (⟨by omega, by omega⟩) ((r57 a zin.2).trans (if_pos zl)) ?_
        refine w_if_ne d_X12_doLight_91 (fun a91 => ?_) (fun a91 => False.elim (by exact absurd a91 (by decide)))
        first | refine v_iinc (ls' := [_, _, _, _, _, _]) d_X12_doLight_105 rfl (x_inc_1 _) (by decide) rfl ?_ | refine v_iinc (ls' := [_, _, _, _, _, _]) d_X12_doLight_105 rfl rfl (by decide) rfl ?_
        refine v_goto d_X12_doLight_108 ?_
        refine x_V.fg1 5 (ls' := [_, _, _, _, _, _]) rfl ?_
        have zf : f_fi L k t = false := Bool.eq_false_iff.mpr (fun w => (h_sn_f hok hk (by omega) zo).mp w (h_sb_iff.mp zl))
        have zs : ∀ q, h_sb L T k (t + 1) q = h_sb L T k t q := fun q => by
          rw [Bool.eq_iff_iff, h_sb_iff, h_sb_iff, h_sn_s (by omega)]
          refine ⟨fun w => w.elim id (fun z => ?_), Or.inl⟩
          rw [zo] at z
          cases z
          exact h_sb_iff.mp zl
        have hi := ih (t + 1) (by omega) I J hex r56 r58 (fun q hq => by rw [zs]; exact r57 q hq) (by rw [← x_ct_n zf, Nat.add_zero]; simp only [zs]; exact hD)
        simp only [zs] at hi
        exact hi
      | false =>
        refine v_iload d_X12_doLight_51 rfl ?_
        refine v_aload_n d_X12_doLight_53 rfl ?_
        refine v_gie d_X12_doLight_54 lf_X12_229_12 rfl (hS _ _ rfl) ((hex.i 39 24 rfl)) ?_
        refine w_icmp_ge d_X12_doLight_57 (fun h57 => False.elim (by (try simp (disch := omega) only [x_ti, x_tm1] at h57); omega)) (fun h57 => ?_)
        refine v_aload_n d_X12_doLight_60 rfl ?_
        refine v_gr d_X12_doLight_61 lf_X12_63_12 rfl (hS _ _ rfl) (hP _ _ _ rfl) ?_
        refine v_bipush (v := nI 6) d_X12_doLight_64 x_bp_6 ?_
        refine v_aload_n d_X12_doLight_66 rfl ?_
        refine v_gr d_X12_doLight_67 lf_X12_69_12 rfl (hS _ _ rfl) (hP _ _ _ rfl) ?_
        refine v_iload_n d_X12_doLight_70 rfl ?_
        refine v_iald _ d_X12_doLight_71 (rfl) (hS _ _ rfl) (⟨by omega, by omega⟩) (r58 k hk) ?_
        first | refine v_imulN d_X12_doLight_72 ?_ | refine v_imul d_X12_doLight_72 ?_
        refine v_iload d_X12_doLight_73 rfl ?_
        first | refine v_iaddN d_X12_doLight_75 ?_ | refine v_iadd d_X12_doLight_75 ?_
        refine v_iald _ d_X12_doLight_76 (rfl) (hS _ _ rfl) (⟨by omega, by omega⟩) ((r56 k t hk (by omega)).trans (show h_w (L k t) = nI a by rw [zo]; rfl)) ?_
        refine v_istore (ls' := [_, _, _, _, _, _]) d_X12_doLight_77 (by decide) rfl ?_
        refine v_iload d_X12_doLight_79 rfl ?_
        refine w_if_lt d_X12_doLight_81 (fun a81 => False.elim (by rw [x_ti (by omega)] at a81; omega)) (fun a81 => ?_)
        refine v_aload_n d_X12_doLight_84 rfl ?_
        refine v_gr d_X12_doLight_85 lf_X12_66_12 rfl (hS _ _ rfl) (hP _ _ _ rfl) ?_
        refine v_iload d_X12_doLight_88 rfl ?_
        refine v_zald _ d_X12_doLight_90 (rfl) (hS _ _ rfl) (⟨by omega, by omega⟩) ((r57 a zin.2).trans (if_neg (by rw [zl]; decide))) ?_
        refine w_if_ne d_X12_doLight_91 (fun a91 => False.elim (by exact absurd (by decide) a91)) (fun a91 => ?_)
        refine v_aload_n d_X12_doLight_94 rfl ?_
        refine v_gr d_X12_doLight_95 lf_X12_66_12 rfl (hS _ _ rfl) (hP _ _ _ rfl) ?_
        refine v_iload d_X12_doLight_98 rfl ?_
        refine v_iconst (v := nI 1) d_X12_doLight_100 x_ic_1 ?_
        refine v_zast _ d_X12_doLight_101 (rfl) (hS _ _ rfl) (⟨by omega, by omega⟩) (rfl) ?_
        refine v_iinc (ls' := [_, _, _, _, _, _]) d_X12_doLight_102 rfl (rfl) (by decide) rfl ?_
        first | refine v_iinc (ls' := [_, _, _, _, _, _]) d_X12_doLight_105 rfl (x_inc_1 _) (by decide) rfl ?_ | refine v_iinc (ls' := [_, _, _, _, _, _]) d_X12_doLight_105 rfl rfl (by decide) rfl ?_
        refine v_goto d_X12_doLight_108 ?_
        refine x_V.fg1 5 (ls' := [_, _, _, _, _, _]) rfl ?_
        have zf : f_fi L k t = true := (h_sn_f hok hk (by omega) zo).mpr (fun w => by rw [h_sb_iff.mpr w] at zl; cases zl)
        have zs : ∀ q, h_sb L T k (t + 1) q = (h_sb L T k t q || decide (q = a)) := fun q => by
          rw [Bool.eq_iff_iff, h_sb_iff, h_sn_s (by omega), Bool.or_eq_true, h_sb_iff, decide_eq_true_eq, zo]
          exact ⟨fun w => w.imp id (fun z => by cases z; rfl), fun w => w.imp id (fun z => by rw [z])⟩
        have zu : (x_ct (fun q => decide (¬ (Z 54 q).toInt = 0) && !(h_sb L T k (t + 1) q)) 3840) + 1 = (x_ct (fun q => decide (¬ (Z 54 q).toInt = 0) && !(h_sb L T k t q)) 3840) := by
          have z9 := x_ct_rm (p := fun q => decide (¬ (Z 54 q).toInt = 0) && !(h_sb L T k t q)) (c := a) (by rw [decide_eq_true (hwl k t a hk (by omega) zo), zl]; rfl) 3840 zin.2
          rw [← z9]
          congr 1
          refine x_ct_cg 3840 (fun q _ => ?_)
          rw [zs]
          cases decide (¬ (Z 54 q).toInt = 0) <;> cases h_sb L T k t q <;> cases decide (q = a) <;> rfl
        rw [show nI (x_ct (fun q => decide (¬ (Z 54 q).toInt = 0) && !(h_sb L T k t q)) 3840) + Int32.ofInt (-1) = nI (x_ct (fun q => decide (¬ (Z 54 q).toInt = 0) && !(h_sb L T k (t + 1) q)) 3840) by rw [← zu]; exact x_dec _]
        refine ih (t + 1) (by omega) _ J (hex.ui (a := 57) (k := a) rfl) r56 r58 (fun q hq => ?_) (by rw [← x_ct_y zf]; omega)
        rw [x_u2_at, zs]
        by_cases w : q = a
        · rw [if_pos ⟨rfl, w⟩, decide_eq_true w, Bool.or_true, if_pos rfl]
        · rw [if_neg (fun z => w z.2), decide_eq_false w, Bool.or_false]; exact r57 q hq

set_option maxRecDepth 100000 in
set_option maxHeartbeats 4000000 in
theorem l_X12_dl_o {K : x_K} {S : x_S} {P : x_P} {n : Nat} {Z : x_I} (J0 : x_J) (L : Nat → Nat → Option Nat) (m T : Nat) (hm : m ≤ 16) (hT : T = m_nh Z) (hT6 : (Z 39 24).toInt = (T : Int)) (hT7 : T ≤ 6) (hok : h_lok L m T) (hwl : ∀ k t a, k < m → t < T → L k t = some a → ¬ (Z 54 a).toInt = 0) (hS : x_hS S) (hP : x_hP P) (hyes : f_nl L m T = m_wm Z → ∀ (I : x_I) (J : x_J), x_ex mL Z I J0 J → (∀ k t, k < m → t < T → I 56 (6 * k + t) = h_w (L k t)) → K (some (.int (nI 1))) S P I J n) (hnot : ¬ f_nl L m T = m_wm Z → ∀ (I : x_I) (J : x_J), x_ex mL Z I J0 J → K (some (.int (nI 0))) S P I J n) :
    ∀ d k : Nat, k + d = m → ∀ (I : x_I) (J : x_J), x_ex mL Z I J0 J → (∀ k t, k < m → t < T → I 56 (6 * k + t) = h_w (L k t)) → (∀ k, k < m → I 58 k = nI k) → (∀ a, a < 3840 → I 57 a = (if h_sb L T k 0 a = true then nI 1 else nI 0)) → (x_sm (fun k => x_ct (f_fi L k) T) k + x_ct (f_fi L k) 0) + (x_ct (fun q => decide (¬ (Z 54 q).toInt = 0) && !(h_sb L T k 0 q)) 3840) = m_wm Z → x_V f_X12_doLight K 43 [some (.ref 39), some (.int (nI m)), some (.int (nI (x_ct (fun q => decide (¬ (Z 54 q).toInt = 0) && !(h_sb L T k 0 q)) 3840))), some (.int (nI k)), none, none] [] S P I J n 0 0 := by
  intro d
  induction d with
  | zero =>
    intro k hd I J hex r56 r58 r57 hD
    have e1 : k = m := by omega
    subst e1
    have hD : f_nl L k T + (x_ct (fun q => decide (¬ (Z 54 q).toInt = 0) && !(h_sb L T k 0 q)) 3840) = m_wm Z := hD
    have hU : (x_ct (fun q => decide (¬ (Z 54 q).toInt = 0) && !(h_sb L T k 0 q)) 3840) ≤ 3840 := x_ct_le _ _
    refine v_iload_n d_X12_doLight_43 rfl ?_
    refine v_iload_n d_X12_doLight_44 rfl ?_
    refine w_icmp_ge d_X12_doLight_45 (fun h45 => ?_) (fun h45 => False.elim (by (try simp (disch := omega) only [x_ti, x_tm1] at h45); omega))
    refine v_iload_n d_X12_doLight_117 rfl ?_
    refine w_if_ne d_X12_doLight_118 (fun a118 => ?_) (fun a118 => ?_)
    · try simp (disch := omega) only [x_ti, x_tm1] at a118
      refine v_iconst (v := nI 0) d_X12_doLight_125 x_ic_0 ?_
      refine v_ret (v := some (.int _)) d_X12_doLight_126 rfl ⟨rfl, _, rfl, rfl⟩ (by decide) (by decide) ?_
      exact hnot (by omega) I J hex
    · try simp (disch := omega) only [x_ti, x_tm1] at a118
      refine v_iconst (v := nI 1) d_X12_doLight_121 x_ic_1 ?_
      refine v_goto d_X12_doLight_122 ?_
      refine v_ret (v := some (.int _)) d_X12_doLight_126 rfl ⟨rfl, _, rfl, rfl⟩ (by decide) (by decide) ?_
      exact hyes (by omega) I J hex r56
  | succ d ih =>
    intro k hd I J hex r56 r58 r57 hD
    refine v_iload_n d_X12_doLight_43 rfl ?_
    refine v_iload_n d_X12_doLight_44 rfl ?_
    refine w_icmp_ge d_X12_doLight_45 (fun h45 => False.elim (by (try simp (disch := omega) only [x_ti, x_tm1] at h45); omega)) (fun h45 => ?_)
    refine v_iconst (v := nI 0) d_X12_doLight_48 x_ic_0 ?_
    refine v_istore (ls' := [_, _, _, _, _, _]) d_X12_doLight_49 (by decide) rfl ?_
    refine l_X12_dl_i J0 L m T hm hT hT6 hT7 hok hwl hS hP k (by omega) (fun I J hex r56 r58 r57 hD => ?_) T 0 (by omega) I J hex r56 r58 r57 hD
    first | refine v_iinc (ls' := [_, _, _, _, _, _]) d_X12_doLight_111 rfl (x_inc_1 _) (by decide) rfl ?_ | refine v_iinc (ls' := [_, _, _, _, _, _]) d_X12_doLight_111 rfl rfl (by decide) rfl ?_
    refine v_goto d_X12_doLight_114 ?_
    refine x_V.fg1 4 (ls' := [_, _, _, _, _, _]) rfl ?_
    have zs : ∀ a, h_sb L T (k + 1) 0 a = h_sb L T k T a := fun a => by rw [Bool.eq_iff_iff, h_sb_iff, h_sb_iff, h_sn_k]
    have hi := ih (k + 1) (by omega) I J hex r56 r58 (fun a ha => by rw [zs]; exact r57 a ha) (by simp only [zs]; exact hD)
    simp only [zs] at hi
    exact hi

set_option maxRecDepth 100000 in
set_option maxHeartbeats 4000000 in
theorem l_X12_dl_w {K : x_K} {S : x_S} {P : x_P} {n : Nat} {Z : x_I} {I : x_I} {J : x_J} (J0 : x_J) (m : Nat) (hex : x_ex mL Z I J0 J) (hS : x_hS S) (hP : x_hP P) (hc : x_V f_X12_doLight K 43 [some (.ref 39), some (.int (nI m)), some (.int (nI (m_wm Z))), some (.int (nI 0)), none, none] [] S P (x_fi I 57 0 3840 0) J n 0 0) :
    ∀ d k : Nat, k + d = 3840 → x_V f_X12_doLight K 4 [some (.ref 39), some (.int (nI m)), some (.int (nI (x_ct (fun k => decide (¬ (Z 54 k).toInt = 0)) k))), some (.int (nI k)), none, none] [] S P (x_fi I 57 0 k 0) J n 0 0 := by
  intro d
  induction d with
  | zero =>
    intro k hd
    refine v_iload_n d_X12_doLight_4 rfl ?_
    refine v_sipush (v := nI 3840) d_X12_doLight_5 x_sp_3840 ?_
    refine w_icmp_ge d_X12_doLight_8 (fun h8 => ?_) (fun h8 => False.elim (by (try simp (disch := omega) only [x_ti, x_tm1] at h8); omega))
    refine v_iconst (v := nI 0) d_X12_doLight_41 x_ic_0 ?_
    refine v_istore_n (ls' := [_, _, _, _, _, _]) d_X12_doLight_42 (by decide) rfl ?_
    have e1 : k = 3840 := by omega
    subst e1
    exact hc
  | succ d ih =>
    intro k hd
    refine v_iload_n d_X12_doLight_4 rfl ?_
    refine v_sipush (v := nI 3840) d_X12_doLight_5 x_sp_3840 ?_
    refine w_icmp_ge d_X12_doLight_8 (fun h8 => False.elim (by (try simp (disch := omega) only [x_ti, x_tm1] at h8); omega)) (fun h8 => ?_)
    refine v_aload_n d_X12_doLight_11 rfl ?_
    refine v_gr d_X12_doLight_12 lf_X12_66_12 rfl (hS _ _ rfl) (hP _ _ _ rfl) ?_
    refine v_iload_n d_X12_doLight_15 rfl ?_
    refine v_iconst (v := nI 0) d_X12_doLight_16 x_ic_0 ?_
    refine v_zast _ d_X12_doLight_17 (rfl) (hS _ _ rfl) (⟨by omega, by omega⟩) (rfl) ?_
    rw [show nI 0 = 0 from rfl, x_fi_s0]
    refine v_iload_n d_X12_doLight_18 rfl ?_
    refine v_aload_n d_X12_doLight_19 rfl ?_
    refine v_gr d_X12_doLight_20 lf_X12_57_12 rfl (hS _ _ rfl) (hP _ _ _ rfl) ?_
    refine v_iload_n d_X12_doLight_23 rfl ?_
    refine v_zald _ d_X12_doLight_24 (rfl) (hS _ _ rfl) (⟨by omega, by omega⟩) ((x_fi_na I 0 (k + 1) 0 k (show 54 ≠ 57 by decide)).trans (hex.i 54 k rfl)) ?_
    refine w_if_eq d_X12_doLight_25 (fun a25 => ?_) (fun a25 => ?_)
    · refine v_iconst (v := nI 0) d_X12_doLight_32 x_ic_0 ?_
      refine v_iaddN d_X12_doLight_33 ?_
      refine v_istore_n (ls' := [_, _, _, _, _, _]) d_X12_doLight_34 (by decide) rfl ?_
      first | refine v_iinc (ls' := [_, _, _, _, _, _]) d_X12_doLight_35 rfl (x_inc_1 _) (by decide) rfl ?_ | refine v_iinc (ls' := [_, _, _, _, _, _]) d_X12_doLight_35 rfl rfl (by decide) rfl ?_
      refine v_goto d_X12_doLight_38 ?_
      first
        | (rw [x_ct_y (p := (fun k => decide (¬ (Z 54 k).toInt = 0))) (k := k) (decide_eq_true a25)]
           exact ih (k + 1) (by omega))
        | (rw [x_ct_n (p := (fun k => decide (¬ (Z 54 k).toInt = 0))) (k := k) (decide_eq_false (fun w => w a25))]
           exact ih (k + 1) (by omega))
    · refine v_iconst (v := nI 1) d_X12_doLight_28 x_ic_1 ?_
      refine v_goto d_X12_doLight_29 ?_
      refine v_iaddN d_X12_doLight_33 ?_
      refine v_istore_n (ls' := [_, _, _, _, _, _]) d_X12_doLight_34 (by decide) rfl ?_
      first | refine v_iinc (ls' := [_, _, _, _, _, _]) d_X12_doLight_35 rfl (x_inc_1 _) (by decide) rfl ?_ | refine v_iinc (ls' := [_, _, _, _, _, _]) d_X12_doLight_35 rfl rfl (by decide) rfl ?_
      refine v_goto d_X12_doLight_38 ?_
      first
        | (rw [x_ct_y (p := (fun k => decide (¬ (Z 54 k).toInt = 0))) (k := k) (decide_eq_true a25)]
           exact ih (k + 1) (by omega))
        | (rw [x_ct_n (p := (fun k => decide (¬ (Z 54 k).toInt = 0))) (k := k) (decide_eq_false (fun w => w a25))]
           exact ih (k + 1) (by omega))

set_option maxRecDepth 100000 in
set_option maxHeartbeats 4000000 in
theorem t_X12_doLight {m : Nat} {K : x_K} {S : x_S} {P : x_P} {I : x_I} {J : x_J} {n : Nat} {x : Int32} (hx : x = nI m) (L : Nat → Nat → Option Nat) (T : Nat) (hm : m ≤ 16) (hT : T = m_nh I) (hT6 : (I 39 24).toInt = (T : Int)) (hT7 : T ≤ 6) (hok : h_lok L m T) (hwl : ∀ k t a, k < m → t < T → L k t = some a → ¬ (I 54 a).toInt = 0) (r56 : (∀ k t, k < m → t < T → I 56 (6 * k + t) = h_w (L k t))) (r58 : (∀ k, k < m → I 58 k = nI k)) (hS : x_hS S) (hP : x_hP P) (hyes : f_nl L m T = m_wm I → ∀ (I' : x_I) (J' : x_J), x_ex mL I I' J J' → (∀ k t, k < m → t < T → I' 56 (6 * k + t) = h_w (L k t)) → K (some (.int (nI 1))) S P I' J' n) (hnot : ¬ f_nl L m T = m_wm I → ∀ (I' : x_I) (J' : x_J), x_ex mL I I' J J' → K (some (.int (nI 0))) S P I' J' n) : x_Call f_X12_doLight [.ref 39, .int x] K S P I J n := by
  subst hx
  refine x_intro (by decide) 4 (ls := [_, _, _, _, _, _]) rfl (Nat.le_of_ble_eq_true rfl) ?_
  refine v_iconst (v := nI 0) d_X12_doLight_0 x_ic_0 ?_
  refine v_istore_n (ls' := [_, _, _, _, _, _]) d_X12_doLight_1 (by decide) rfl ?_
  refine v_iconst (v := nI 0) d_X12_doLight_2 x_ic_0 ?_
  refine v_istore_n (ls' := [_, _, _, _, _, _]) d_X12_doLight_3 (by decide) rfl ?_
  have hl := l_X12_dl_w (K := K) (n := n) (Z := I) (I := I) (J := J) J m x_ex.rf hS hP ?_ 3840 0 (by omega)
  · rw [x_fi_0] at hl
    exact hl
  · have z0 : ∀ a, h_sb L T 0 0 a = false := fun a => Bool.eq_false_iff.mpr (fun w => by obtain ⟨j, u, q1, q2, q3⟩ := h_sb_iff.mp w; omega)
    have hl := l_X12_dl_o (K := K) (Z := I) J L m T hm hT hT6 hT7 hok hwl hS hP hyes hnot m 0 (by omega) (x_fi I 57 0 3840 0) J (x_ex.fi x_ex.rf (fun _ => rfl)) r56 r58 (fun a ha => by rw [z0, x_fi_in _ _ (Nat.zero_le _) (by omega)]; rfl) (by simp only [z0, Bool.not_false, Bool.and_true]; show 0 + 0 + m_wm I = m_wm I; omega)
    simp only [z0, Bool.not_false, Bool.and_true] at hl
    exact hl

