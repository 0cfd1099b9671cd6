set_option maxRecDepth 100000 in
set_option maxHeartbeats 4000000 in
theorem l_X3_rest {K : x_K} {S : x_S} {P : x_P} {I : x_I} {n : Nat} {wv : Int32} (J0 : x_J) (m : Nat) (hm : m ≤ 16) (hc : I 24 6 = nI m) (hS : x_hS S) (hP : x_hP P) (hcont : ∀ J : x_J, (∀ j b, 0 ≤ j → j ≤ m → b < 128 → (x_on (J 29 j) (J 30 j) b = true ↔ ∃ i, j ≤ i ∧ i < m ∧ p_on J0 i b = true)) → (∀ a j, ¬ a = 29 → ¬ a = 30 → J a j = J0 a j) → x_V f_X3_choose K 79 [some (.ref 24), some (.int wv), none] [] S P I J n 0 0) :
    ∀ d k : Nat, k = d → k < m → ∀ J : x_J, (∀ j b, (k + 1) ≤ j → j ≤ m → b < 128 → (x_on (J 29 j) (J 30 j) b = true ↔ ∃ i, j ≤ i ∧ i < m ∧ p_on J0 i b = true)) → (∀ a j, ¬ a = 29 → ¬ a = 30 → J a j = J0 a j) → x_V f_X3_choose K 27 [some (.ref 24), some (.int wv), some (.int (nI k))] [] S P I J n 0 0 := by
  intro d
  induction d with
  | zero =>
    intro k hkd hk J hrs hfr
    refine v_iload_n d_X3_choose_27 rfl ?_
    refine w_if_lt d_X3_choose_28 (fun a28 => False.elim (by rw [x_ti (by omega)] at a28; omega)) (fun a28 => ?_)
    refine v_aload_n d_X3_choose_31 rfl ?_
    refine v_gr d_X3_choose_32 lf_X3_25_3 rfl (hS _ _ rfl) (hP _ _ _ rfl) ?_
    refine v_iload_n d_X3_choose_35 rfl ?_
    refine v_aload_n d_X3_choose_36 rfl ?_
    refine v_gr d_X3_choose_37 lf_X3_25_3 rfl (hS _ _ rfl) (hP _ _ _ rfl) ?_
    refine v_iload_n d_X3_choose_40 rfl ?_
    refine v_iconst (v := nI 1) d_X3_choose_41 x_ic_1 ?_
    refine v_iaddN d_X3_choose_42 ?_
    refine v_lald _ d_X3_choose_43 (rfl) (hS _ _ rfl) (⟨by omega, by omega⟩) (rfl) ?_
    refine v_aload_n d_X3_choose_44 rfl ?_
    refine v_gr d_X3_choose_45 lf_X3_18_3 rfl (hS _ _ rfl) (hP _ _ _ rfl) ?_
    refine v_iload_n d_X3_choose_48 rfl ?_
    refine v_lald _ d_X3_choose_49 (rfl) (hS _ _ rfl) (⟨by omega, by omega⟩) (rfl) ?_
    refine v_lor d_X3_choose_50 ?_
    refine v_last _ d_X3_choose_51 (rfl) (hS _ _ rfl) (⟨by omega, by omega⟩) ?_
    refine v_aload_n d_X3_choose_52 rfl ?_
    refine v_gr d_X3_choose_53 lf_X3_28_3 rfl (hS _ _ rfl) (hP _ _ _ rfl) ?_
    refine v_iload_n d_X3_choose_56 rfl ?_
    refine v_aload_n d_X3_choose_57 rfl ?_
    refine v_gr d_X3_choose_58 lf_X3_28_3 rfl (hS _ _ rfl) (hP _ _ _ rfl) ?_
    refine v_iload_n d_X3_choose_61 rfl ?_
    refine v_iconst (v := nI 1) d_X3_choose_62 x_ic_1 ?_
    refine v_iaddN d_X3_choose_63 ?_
    refine v_lald _ d_X3_choose_64 (rfl) (hS _ _ rfl) (⟨by omega, by omega⟩) (rfl) ?_
    refine v_aload_n d_X3_choose_65 rfl ?_
    refine v_gr d_X3_choose_66 lf_X3_22_3 rfl (hS _ _ rfl) (hP _ _ _ rfl) ?_
    refine v_iload_n d_X3_choose_69 rfl ?_
    refine v_lald _ d_X3_choose_70 (rfl) (hS _ _ rfl) (⟨by omega, by omega⟩) (rfl) ?_
    refine v_lor d_X3_choose_71 ?_
    refine v_last _ d_X3_choose_72 (rfl) (hS _ _ rfl) (⟨by omega, by omega⟩) ?_
    refine v_iinc (ls' := [_, _, _]) d_X3_choose_73 rfl (show nI k + Int32.ofInt (-1) = -1 by rw [hkd]; decide) (by decide) rfl ?_
    refine v_goto d_X3_choose_76 ?_
    have zr : ∀ j b, k ≤ j → j ≤ m → b < 128 → (x_on (x_u2 (x_u2 J 29 k (J 29 (k + 1) ||| J 27 k)) 30 k (x_u2 J 29 k (J 29 (k + 1) ||| J 27 k) 30 (k + 1) ||| x_u2 J 29 k (J 29 (k + 1) ||| J 27 k) 28 k) 29 j) (x_u2 (x_u2 J 29 k (J 29 (k + 1) ||| J 27 k)) 30 k (x_u2 J 29 k (J 29 (k + 1) ||| J 27 k) 30 (k + 1) ||| x_u2 J 29 k (J 29 (k + 1) ||| J 27 k) 28 k) 30 j) b = true ↔ ∃ i, j ≤ i ∧ i < m ∧ p_on J0 i b = true) := fun j b h1 h2 hb => by
      have e1 : x_u2 J 29 k (J 29 (k + 1) ||| J 27 k) 30 (k + 1) = J 30 (k + 1) := x_u2_na _ _ _ _ (by decide)
      have e2 : x_u2 J 29 k (J 29 (k + 1) ||| J 27 k) 28 k = J 28 k := x_u2_na _ _ _ _ (by decide)
      rw [e1, e2]
      by_cases w : j = k
      · subst w
        have e3 : x_u2 (x_u2 J 29 j (J 29 (j + 1) ||| J 27 j)) 30 j (J 30 (j + 1) ||| J 28 j) 29 j = J 29 (j + 1) ||| J 27 j := by rw [x_u2_na _ _ _ _ (by decide), x_u2_s]
        rw [e3, x_u2_s, x_on_or, Bool.or_eq_true, hrs _ b (by omega) (by omega) hb, hfr 27 _ (by decide) (by decide), hfr 28 _ (by decide) (by decide)]
        constructor
        · intro q
          rcases q with ⟨i, i1, i2, i3⟩ | q
          · exact ⟨i, by omega, i2, i3⟩
          · exact ⟨_, Nat.le_refl _, by omega, q⟩
        · intro ⟨i, i1, i2, i3⟩
          by_cases v : i = j
          · rw [v] at i3; exact Or.inr i3
          · exact Or.inl ⟨i, by omega, i2, i3⟩
      · have e3 : x_u2 (x_u2 J 29 k (J 29 (k + 1) ||| J 27 k)) 30 k (J 30 (k + 1) ||| J 28 k) 29 j = J 29 j := by rw [x_u2_na _ _ _ _ (by decide), x_u2_nk _ _ _ _ w]
        have e4 : x_u2 (x_u2 J 29 k (J 29 (k + 1) ||| J 27 k)) 30 k (J 30 (k + 1) ||| J 28 k) 30 j = J 30 j := by rw [x_u2_nk _ _ _ _ w, x_u2_na _ _ _ _ (by decide)]
        rw [e3, e4]
        exact hrs j b (by omega) h2 hb
    have zf : ∀ a j, ¬ a = 29 → ¬ a = 30 → x_u2 (x_u2 J 29 k (J 29 (k + 1) ||| J 27 k)) 30 k (x_u2 J 29 k (J 29 (k + 1) ||| J 27 k) 30 (k + 1) ||| x_u2 J 29 k (J 29 (k + 1) ||| J 27 k) 28 k) a j = J0 a j := fun a j h1 h2 => by rw [x_u2_na _ _ _ _ h2, x_u2_na _ _ _ _ h1]; exact hfr a j h1 h2
    have hrs : ∀ j b, 0 ≤ j → j ≤ m → b < 128 → _ := fun j b _ h2 hb => zr j b (by omega) h2 hb
    have hfr := zf
    refine v_iload_n d_X3_choose_27 rfl ?_
    refine w_if_lt d_X3_choose_28 (fun a28 => ?_) (fun a28 => False.elim (by exact absurd a28 (by decide)))
    refine x_V.fg1 2 (ls' := [_, _, _]) rfl ?_
    exact hcont _ hrs hfr
  | succ d ih =>
    intro k hkd hk J hrs hfr
    refine v_iload_n d_X3_choose_27 rfl ?_
    refine w_if_lt d_X3_choose_28 (fun a28 => False.elim (by rw [x_ti (by omega)] at a28; omega)) (fun a28 => ?_)
    refine v_aload_n d_X3_choose_31 rfl ?_
    refine v_gr d_X3_choose_32 lf_X3_25_3 rfl (hS _ _ rfl) (hP _ _ _ rfl) ?_
    refine v_iload_n d_X3_choose_35 rfl ?_
    refine v_aload_n d_X3_choose_36 rfl ?_
    refine v_gr d_X3_choose_37 lf_X3_25_3 rfl (hS _ _ rfl) (hP _ _ _ rfl) ?_
    refine v_iload_n d_X3_choose_40 rfl ?_
    refine v_iconst (v := nI 1) d_X3_choose_41 x_ic_1 ?_
    refine v_iaddN d_X3_choose_42 ?_
    refine v_lald _ d_X3_choose_43 (rfl) (hS _ _ rfl) (⟨by omega, by omega⟩) (rfl) ?_
    refine v_aload_n d_X3_choose_44 rfl ?_
    refine v_gr d_X3_choose_45 lf_X3_18_3 rfl (hS _ _ rfl) (hP _ _ _ rfl) ?_
    refine v_iload_n d_X3_choose_48 rfl ?_
    refine v_lald _ d_X3_choose_49 (rfl) (hS _ _ rfl) (⟨by omega, by omega⟩) (rfl) ?_
    refine v_lor d_X3_choose_50 ?_
    refine v_last _ d_X3_choose_51 (rfl) (hS _ _ rfl) (⟨by omega, by omega⟩) ?_
    refine v_aload_n d_X3_choose_52 rfl ?_
    refine v_gr d_X3_choose_53 lf_X3_28_3 rfl (hS _ _ rfl) (hP _ _ _ rfl) ?_
    refine v_iload_n d_X3_choose_56 rfl ?_
    refine v_aload_n d_X3_choose_57 rfl ?_
    refine v_gr d_X3_choose_58 lf_X3_28_3 rfl (hS _ _ rfl) (hP _ _ _ rfl) ?_
    refine v_iload_n d_X3_choose_61 rfl ?_
    refine v_iconst (v := nI 1) d_X3_choose_62 x_ic_1 ?_
    refine v_iaddN d_X3_choose_63 ?_
    refine v_lald _ d_X3_choose_64 (rfl) (hS _ _ rfl) (⟨by omega, by omega⟩) (rfl) ?_
    refine v_aload_n d_X3_choose_65 rfl ?_
    refine v_gr d_X3_choose_66 lf_X3_22_3 rfl (hS _ _ rfl) (hP _ _ _ rfl) ?_
    refine v_iload_n d_X3_choose_69 rfl ?_
    refine v_lald _ d_X3_choose_70 (rfl) (hS _ _ rfl) (⟨by omega, by omega⟩) (rfl) ?_
    refine v_lor d_X3_choose_71 ?_
    refine v_last _ d_X3_choose_72 (rfl) (hS _ _ rfl) (⟨by omega, by omega⟩) ?_
    refine v_iinc (ls' := [_, _, _]) d_X3_choose_73 rfl ((show nI k + Int32.ofInt (-1) = nI d by rw [hkd]; exact x_dec d)) (by decide) rfl ?_
    refine v_goto d_X3_choose_76 ?_
    have zr : ∀ j b, k ≤ j → j ≤ m → b < 128 → (x_on (x_u2 (x_u2 J 29 k (J 29 (k + 1) ||| J 27 k)) 30 k (x_u2 J 29 k (J 29 (k + 1) ||| J 27 k) 30 (k + 1) ||| x_u2 J 29 k (J 29 (k + 1) ||| J 27 k) 28 k) 29 j) (x_u2 (x_u2 J 29 k (J 29 (k + 1) ||| J 27 k)) 30 k (x_u2 J 29 k (J 29 (k + 1) ||| J 27 k) 30 (k + 1) ||| x_u2 J 29 k (J 29 (k + 1) ||| J 27 k) 28 k) 30 j) b = true ↔ ∃ i, j ≤ i ∧ i < m ∧ p_on J0 i b = true) := fun j b h1 h2 hb => by
      have e1 : x_u2 J 29 k (J 29 (k + 1) ||| J 27 k) 30 (k + 1) = J 30 (k + 1) := x_u2_na _ _ _ _ (by decide)
      have e2 : x_u2 J 29 k (J 29 (k + 1) ||| J 27 k) 28 k = J 28 k := x_u2_na _ _ _ _ (by decide)
      rw [e1, e2]
      by_cases w : j = k
      · subst w
        have e3 : x_u2 (x_u2 J 29 j (J 29 (j + 1) ||| J 27 j)) 30 j (J 30 (j + 1) ||| J 28 j) 29 j = J 29 (j + 1) ||| J 27 j := by rw [x_u2_na _ _ _ _ (by decide), x_u2_s]
        rw [e3, x_u2_s, x_on_or, Bool.or_eq_true, hrs _ b (by omega) (by omega) hb, hfr 27 _ (by decide) (by decide), hfr 28 _ (by decide) (by decide)]
        constructor
        · intro q
          rcases q with ⟨i, i1, i2, i3⟩ | q
          · exact ⟨i, by omega, i2, i3⟩
          · exact ⟨_, Nat.le_refl _, by omega, q⟩
        · intro ⟨i, i1, i2, i3⟩
          by_cases v : i = j
          · rw [v] at i3; exact Or.inr i3
          · exact Or.inl ⟨i, by omega, i2, i3⟩
      · have e3 : x_u2 (x_u2 J 29 k (J 29 (k + 1) ||| J 27 k)) 30 k (J 30 (k + 1) ||| J 28 k) 29 j = J 29 j := by rw [x_u2_na _ _ _ _ (by decide), x_u2_nk _ _ _ _ w]
        have e4 : x_u2 (x_u2 J 29 k (J 29 (k + 1) ||| J 27 k)) 30 k (J 30 (k + 1) ||| J 28 k) 30 j = J 30 j := by rw [x_u2_nk _ _ _ _ w, x_u2_na _ _ _ _ (by decide)]
        rw [e3, e4]
        exact hrs j b (by omega) h2 hb
    have zf : ∀ a j, ¬ a = 29 → ¬ a = 30 → x_u2 (x_u2 J 29 k (J 29 (k + 1) ||| J 27 k)) 30 k (x_u2 J 29 k (J 29 (k + 1) ||| J 27 k) 30 (k + 1) ||| x_u2 J 29 k (J 29 (k + 1) ||| J 27 k) 28 k) a j = J0 a j := fun a j h1 h2 => by rw [x_u2_na _ _ _ _ h2, x_u2_na _ _ _ _ h1]; exact hfr a j h1 h2
    exact ih d rfl (by omega) _ (fun j b h1 h2 hb => zr j b (by omega) h2 hb) zf

