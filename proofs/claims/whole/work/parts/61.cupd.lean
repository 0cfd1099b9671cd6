def c_K (K : x_K) (Z : x_I) (I : x_I) (J : x_J) (n : Nat) (v : Value) : Prop := ∀ (S' : x_S) (P' : x_P) (I' : x_I) (J' : x_J) (n' : Nat), c_S Z S' P' I' J' n' → x_ex cC I I' J J' → n' ≤ n + 3 → K (some v) S' P' I' J' n'
theorem cC_hi {a : Nat} (h : 63 ≤ a) (k : Nat) : cC a k = true := by
  unfold cC
  rw [Nat.ble_eq_true_of_le h, Bool.or_true]
theorem cC_lo {a : Nat} (h : 1 ≤ a) (h2 : a ≤ 38) (k : Nat) : cC a k = true := by
  unfold cC
  rw [Nat.ble_eq_true_of_le h, Nat.ble_eq_true_of_le h2]
  rfl
theorem m_nb_41 {Z Z' : x_I} (h8 : Z' 39 8 = Z 39 8) (h : ∀ k, Z' 41 k = Z 41 k) (k : Nat) : m_nb Z' 41 k = m_nb Z 41 k := by
  unfold m_nb
  rw [h8]
  split
  · unfold m_lay
    simp only [x_u2_at, h]
  · exact h k
theorem c_Pi.cg {Z Z' I I' : x_I} (h : c_Pi Z I) (h1 : ∀ e k, e < 4 → I' (11 + e) k = I (11 + e) k) (h2 : ∀ k, Z' 44 k = Z 44 k) : c_Pi Z' I' := fun e k he hk => by rw [h1 e k he, h2]; exact h e k he hk
theorem c_Sh.cg {Z Z' I I' : x_I} (h : c_Sh Z I) (h1 : ∀ e k, e < 4 → I' (33 + e) k = I (33 + e) k) (h37 : ∀ k, I' 37 k = I 37 k) (h38 : ∀ k, I' 38 k = I 38 k) (h45 : ∀ k, Z' 45 k = Z 45 k) (h46 : ∀ k, Z' 46 k = Z 46 k) (h47 : ∀ k, Z' 47 k = Z 47 k) : c_Sh Z' I' := fun k hk => by
  obtain ⟨a, b, c⟩ := h k hk
  rw [h37, h38, h45, h46]
  exact ⟨a, b, fun i hi => by rw [h1 k i hk, h47]; exact c i hi⟩
/-- what isn't surfaces nor the board changes -/
theorem c_R.sm {fa : Nat → Nat} {bd : Nat} {Z Z' : x_I} {S : x_S} {P : x_P} {I I' : x_I} {J J' : x_J} {n : Nat} (h : c_R fa bd Z S P I J n) (hn : (Z 39 2).toInt ≤ 10) (hI : ∀ a k, (63 ≤ a ∨ a = 19 ∨ a = 3) → I' a k = I a k) (h40 : ∀ k, Z' 40 k = Z 40 k) (h41 : ∀ k, Z' 41 k = Z 41 k) (h42 : ∀ k, Z' 42 k = Z 42 k) (h2 : Z' 39 2 = Z 39 2) (h8 : Z' 39 8 = Z 39 8) (he : c_Ey Z' I') (hp : c_Pi Z' I') (hl : c_Li Z' I') (hw : c_Wa Z' J') (hs : c_Sh Z' I') (hf : I' 31 3 = Z' 39 0) (ht : I' 2 0 = Z' 39 1) : c_R fa bd Z' S P I' J' n := by
  have ens : m_ns Z' = m_ns Z := by unfold m_ns; rw [h2]
  refine ⟨h.1, ⟨fun s q => ?_, fun s t a b => h.2.1.2.1 s t a (by rw [← ens]; exact b), ?_⟩, ⟨h.Bd.1, h.Bd.2.1, h.pb, h.sb, ?_⟩, he, hp, hl, hw, hs, hf, ht⟩
  · rw [ens] at q
    have h10 : s < 10 := by unfold m_ns at q; omega
    have hc : m_ce Z' s = m_ce Z s := m_ce_sm (fun k _ => h41 _)
    obtain ⟨b1, b2, b3, b4, b5, b6, b7, b8, b9, b10⟩ := (h.w q).cg (I' := I') (fun a k ha => hI a k (Or.inl ha)) p_ex.rf
    exact ⟨b1, b2, by rw [h40]; exact b3, by rw [hc]; exact b4, b5, b6, b7, b8, b9.cz (fun k _ => h41 _), fun k hk => by rw [hc] at hk; rw [h42]; exact b10 k hk⟩
  · rw [hI 3 1 (by omega), h2]; exact h.ns
  · refine (h.fb.cg (I' := I') (fun k => hI bd k ?_)).cz (fun k _ => m_nb_41 h8 h41 _)
    have := h.Bd.1; omega
theorem c_R.fa_ {fa : Nat → Nat} {bd : Nat} {Z : x_I} {S : x_S} {P : x_P} {I : x_I} {J : x_J} {n : Nat} {f : Int32} (h : c_R fa bd Z S P I J n) (hn : (Z 39 2).toInt ≤ 10) : c_R fa bd (x_u2 Z 39 0 f) S P (x_u2 I 31 3 f) J n :=
  h.sm hn (fun a k ha => x_u2_na _ _ _ _ (by omega)) (fun _ => rfl) (fun _ => rfl) (fun _ => rfl) rfl rfl h.Ey (h.Pi.cg (fun e k he => x_u2_na _ _ _ _ (by omega)) (fun _ => rfl)) h.Li h.Wa (h.Sh.cg (fun e k he => x_u2_na _ _ _ _ (by omega)) (fun _ => rfl) (fun _ => rfl) (fun _ => rfl) (fun _ => rfl) (fun _ => rfl)) rfl h.tra
theorem c_R.tr_ {fa : Nat → Nat} {bd : Nat} {Z : x_I} {S : x_S} {P : x_P} {I : x_I} {J : x_J} {n : Nat} {f : Int32} (h : c_R fa bd Z S P I J n) (hn : (Z 39 2).toInt ≤ 10) : c_R fa bd (x_u2 Z 39 1 f) S P (x_u2 I 2 0 f) J n :=
  h.sm hn (fun a k ha => x_u2_na _ _ _ _ (by omega)) (fun _ => rfl) (fun _ => rfl) (fun _ => rfl) rfl rfl h.Ey (h.Pi.cg (fun e k he => x_u2_na _ _ _ _ (by omega)) (fun _ => rfl)) h.Li h.Wa (h.Sh.cg (fun e k he => x_u2_na _ _ _ _ (by omega)) (fun _ => rfl) (fun _ => rfl) (fun _ => rfl) (fun _ => rfl) (fun _ => rfl)) h.fau rfl
theorem x_u2_cg {α : Type} {f g : Nat → Nat → α} {a b i j : Nat} {v : α} (h : f a j = g b j) : x_u2 f a i v a j = x_u2 g b i v b j := by
  simp only [x_u2_at, true_and, h]
theorem c_R.ey_ {fa : Nat → Nat} {bd : Nat} {Z : x_I} {S : x_S} {P : x_P} {I : x_I} {J : x_J} {n : Nat} {i j k : Nat} {x y z : Int32} (h : c_R fa bd Z S P I J n) (hn : (Z 39 2).toInt ≤ 10) : c_R fa bd (x_u2 (x_u2 (x_u2 Z 43 i x) 43 j y) 43 k z) S P (x_u2 (x_u2 (x_u2 I 9 i x) 9 j y) 9 k z) J n :=
  h.sm hn (fun a k ha => by rw [x_u2_na _ _ _ _ (by omega), x_u2_na _ _ _ _ (by omega), x_u2_na _ _ _ _ (by omega)]) (fun _ => rfl) (fun _ => rfl) (fun _ => rfl) rfl rfl (fun q hq => x_u2_cg (x_u2_cg (x_u2_cg (h.Ey q hq)))) (h.Pi.cg (fun e k he => by rw [x_u2_na _ _ _ _ (by omega), x_u2_na _ _ _ _ (by omega), x_u2_na _ _ _ _ (by omega)]) (fun _ => rfl)) h.Li h.Wa (h.Sh.cg (fun e k he => by rw [x_u2_na _ _ _ _ (by omega), x_u2_na _ _ _ _ (by omega), x_u2_na _ _ _ _ (by omega)]) (fun _ => rfl) (fun _ => rfl) (fun _ => rfl) (fun _ => rfl) (fun _ => rfl)) h.fau h.tra
theorem c_R.hr_ {fa : Nat → Nat} {bd : Nat} {Z : x_I} {S : x_S} {P : x_P} {I : x_I} {J : x_J} {n : Nat} {i j k : Nat} {x y z w : Int32} (h : c_R fa bd Z S P I J n) (hn : (Z 39 2).toInt ≤ 10) : c_R fa bd (x_u2 (x_u2 (x_u2 (x_u2 Z 53 i x) 53 j y) 53 k z) 39 24 w) S P (x_u2 (x_u2 (x_u2 (x_u2 I 21 i x) 21 j y) 21 k z) 20 6 w) J n :=
  h.sm hn (fun a k ha => by rw [x_u2_na _ _ _ _ (by omega), x_u2_na _ _ _ _ (by omega), x_u2_na _ _ _ _ (by omega), x_u2_na _ _ _ _ (by omega)]) (fun _ => rfl) (fun _ => rfl) (fun _ => rfl) rfl rfl h.Ey (h.Pi.cg (fun e k he => by rw [x_u2_na _ _ _ _ (by omega), x_u2_na _ _ _ _ (by omega), x_u2_na _ _ _ _ (by omega), x_u2_na _ _ _ _ (by omega)]) (fun _ => rfl)) ⟨rfl, h.Li.2.1, fun q hq => by
    show x_u2 (x_u2 (x_u2 I 21 i x) 21 j y) 21 k z 21 q = x_u2 (x_u2 (x_u2 Z 53 i x) 53 j y) 53 k z 53 q
    exact x_u2_cg (x_u2_cg (x_u2_cg (h.Li.2.2 q hq)))⟩ h.Wa (h.Sh.cg (fun e k he => by rw [x_u2_na _ _ _ _ (by omega), x_u2_na _ _ _ _ (by omega), x_u2_na _ _ _ _ (by omega), x_u2_na _ _ _ _ (by omega)]) (fun _ => rfl) (fun _ => rfl) (fun _ => rfl) (fun _ => rfl) (fun _ => rfl)) h.fau h.tra
theorem c_R.pl_ {fa : Nat → Nat} {bd : Nat} {Z : x_I} {S : x_S} {P : x_P} {I : x_I} {J : x_J} {n : Nat} {v w : Int32} (h : c_R fa bd Z S P I J n) (hn : (Z 39 2).toInt ≤ 10) (hv : w = c_pn v) : c_R fa bd (x_u2 Z 39 26 v) S P (x_u2 I 20 7 w) J n :=
  h.sm hn (fun a k ha => x_u2_na _ _ _ _ (by omega)) (fun _ => rfl) (fun _ => rfl) (fun _ => rfl) rfl rfl h.Ey (h.Pi.cg (fun e k he => x_u2_na _ _ _ _ (by omega)) (fun _ => rfl)) ⟨h.Li.1, hv, h.Li.2.2⟩ h.Wa (h.Sh.cg (fun e k he => x_u2_na _ _ _ _ (by omega)) (fun _ => rfl) (fun _ => rfl) (fun _ => rfl) (fun _ => rfl) (fun _ => rfl)) h.fau h.tra
/-- one colour -/
theorem c_R.co_ {fa : Nat → Nat} {bd : Nat} {Z : x_I} {S : x_S} {P : x_P} {I : x_I} {J : x_J} {n : Nat} {s c : Nat} {v : Int32} (h : c_R fa bd Z S P I J n) (hs : s < m_ns Z) (hc : c < 64) (hce : ∀ t, t < m_ns Z → (m_ce Z t).toNat ≤ 64) : c_R fa bd (x_u2 Z 42 (64 * s + c) v) S P (x_u2 I (fa s + 2) c v) J n := by
  have had := (h.w hs).ad
  have hne : ∀ a, a < 63 → ∀ k, x_u2 I (fa s + 2) c v a k = I a k := fun a ha k => x_u2_na _ _ _ _ (by omega)
  have hbd : bd ≠ fa s + 2 := fun e => by
    have h1 := h.sb
    rw [e, (h.w hs).sc] at h1
    cases h1
  refine ⟨h.1, ⟨fun t q => ?_, h.2.1.2.1, ?_⟩, ⟨h.Bd.1, h.Bd.2.1, h.pb, h.sb, ?_⟩, fun k hk => (hne 9 (by omega) k).trans (h.Ey k hk), h.Pi.cg (fun e k he => hne _ (by omega) k) (fun _ => rfl), ⟨(hne _ (by omega) _).trans h.Li.1, (hne _ (by omega) _).trans h.Li.2.1, fun k hk => (hne _ (by omega) k).trans (h.Li.2.2 k hk)⟩, h.Wa, h.Sh.cg (fun e k he => hne _ (by omega) k) (fun k => hne _ (by omega) k) (fun k => hne _ (by omega) k) (fun _ => rfl) (fun _ => rfl) (fun _ => rfl), (hne _ (by omega) _).trans h.fau, (hne _ (by omega) _).trans h.tra⟩
  · have hq : t < m_ns Z := q
    obtain ⟨b1, b2, b3, b4, b5, b6, b7, b8, b9, b10⟩ := h.w hq
    have hd : ∀ a, (a = fa t ∨ a = fa t + 1) → ∀ k, x_u2 I (fa s + 2) c v a k = I a k := fun a ha k => by
      refine x_u2_na _ _ _ _ ?_
      intro e
      have hsc := (h.w hs).sc
      rcases ha with rfl | rfl
      · rw [← e, b2] at hsc; cases hsc
      · rw [← e, b3] at hsc; cases hsc
    refine ⟨b1, b2, b3, b4, b5, b6, b7, by rw [hd _ (Or.inr rfl)]; exact b8, (b9.cg (I' := x_u2 I (fa s + 2) c v) (fun k => hd _ (Or.inl rfl) k)).cz (fun _ _ => rfl), fun k hk => ?_⟩
    have hk : k < (m_ce Z t).toNat := hk
    have hk6 := hce t hq
    rw [x_u2_at, x_u2_at]
    by_cases e : t = s
    · subst e
      by_cases e2 : k = c
      · rw [if_pos ⟨rfl, e2⟩, if_pos ⟨rfl, by omega⟩]
      · rw [if_neg (fun z => e2 z.2), if_neg (fun z => e2 (by omega))]
        exact b10 k hk
    · have hmo := h.2.1.2.1
      rw [if_neg (fun z => by
        rcases Nat.lt_or_gt_of_ne e with q1 | q1
        · have := hmo t s q1 hs; omega
        · have := hmo s t q1 hq; omega), if_neg (fun z => e (by omega))]
      exact b10 k hk
  · rw [hne _ (by omega)]; exact h.ns
  · exact (h.fb.cg (I' := x_u2 I (fa s + 2) c v) (fun k => x_u2_na _ _ _ _ hbd)).cz (fun k _ => m_nb_41 (Z := Z) (Z' := x_u2 Z 42 (64 * s + c) v) rfl (fun _ => rfl) _)
theorem m_I.ce6 {Z : x_I} (h : m_I Z) : ∀ t, t < m_ns Z → (m_ce Z t).toNat ≤ 64 := fun t ht => by have := m_ce_in (h.fo t ht); omega

