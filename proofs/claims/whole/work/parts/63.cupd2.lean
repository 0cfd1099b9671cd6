theorem x_lb_xor (v w : Int64) (b : Nat) : x_lb (v ^^^ w) b = (x_lb v b ^^ x_lb w b) := by
  unfold x_lb; rw [Int64.toBitVec_xor, BitVec.getLsbD_xor]
theorem c_R.wa_ {fa : Nat → Nat} {bd : Nat} {Z : x_I} {S : x_S} {P : x_P} {I : x_I} {J : x_J} {n : Nat} {t s c : Nat} {b : Int32} (h : c_R fa bd Z S P I J n) (hn : (Z 39 2).toInt ≤ 10) (ht : t < 6) (hs : s < 10) (hc : c < 64) (hb : (¬ b.toInt = 0) ↔ (Z 54 (640 * t + 64 * s + c)).toInt = 0) : c_R fa bd (x_u2 Z 54 (640 * t + 64 * s + c) b) S P I (x_u2 J 22 (10 * t + s) (J 22 (10 * t + s) ^^^ 1 <<< ((nI c).toInt64 &&& 63))) n :=
  h.sm hn (fun _ _ _ => rfl) (fun _ => rfl) (fun _ => rfl) (fun _ => rfl) rfl rfl h.Ey (h.Pi.cg (fun _ _ _ => rfl) (fun _ => rfl)) h.Li (fun t' s' c' ht' hs' hc' => by
    have h0 := h.Wa t' s' c' ht' hs' hc'
    rw [x_u2_at, x_u2_at]
    by_cases e : t' = t ∧ s' = s
    · obtain ⟨rfl, rfl⟩ := e
      rw [if_pos ⟨rfl, rfl⟩, x_lb_xor, x_lb_1 hc, h0]
      by_cases e2 : c' = c
      · subst e2
        rw [if_pos ⟨rfl, rfl⟩, decide_eq_true rfl, Bool.xor_true]
        by_cases e3 : (Z 54 (640 * t' + 64 * s' + c')).toInt = 0
        · rw [decide_eq_false (fun q => q e3), decide_eq_true (hb.mpr e3)]; rfl
        · rw [decide_eq_true e3, decide_eq_false (fun q => e3 (hb.mp q))]; rfl
      · rw [if_neg (fun q => e2 (by omega)), decide_eq_false e2, Bool.xor_false]
    · rw [if_neg (fun q => e (by omega)), if_neg (fun q => e (by omega))]
      exact h0) (h.Sh.cg (fun _ _ _ => rfl) (fun _ => rfl) (fun _ => rfl) (fun _ => rfl) (fun _ => rfl) (fun _ => rfl)) h.fau h.tra
theorem c_R.sr_ {fa : Nat → Nat} {bd : Nat} {Z : x_I} {S : x_S} {P : x_P} {I : x_I} {J : x_J} {n : Nat} {k : Nat} {l m : Int32} (h : c_R fa bd Z S P I J n) (hn : (Z 39 2).toInt ≤ 10) (hk : k < 4) (hl : 0 ≤ l.toInt ∧ l.toInt ≤ 2) : c_R fa bd (x_fi (x_u2 (x_u2 Z 45 k l) 46 k m) 47 (64 * k) 64 0) S P (x_fi (x_u2 (x_u2 I 37 k l) 38 k m) (33 + k) 0 64 0) J n := by
  have hI : ∀ a, a ≠ 37 → a ≠ 38 → a ≠ 33 + k → ∀ j, x_fi (x_u2 (x_u2 I 37 k l) 38 k m) (33 + k) 0 64 0 a j = I a j := fun a a1 a2 a3 j => by rw [x_fi_na _ _ _ _ _ a3, x_u2_na _ _ _ _ a2, x_u2_na _ _ _ _ a1]
  have hZ : ∀ a, a ≠ 45 → a ≠ 46 → a ≠ 47 → ∀ j, x_fi (x_u2 (x_u2 Z 45 k l) 46 k m) 47 (64 * k) 64 0 a j = Z a j := fun a a1 a2 a3 j => by rw [x_fi_na _ _ _ _ _ a3, x_u2_na _ _ _ _ a2, x_u2_na _ _ _ _ a1]
  have z := fun a a1 a2 a3 => hZ a a1 a2 a3
  refine h.sm hn (fun a j ha => hI a (by omega) (by omega) (by omega) j) (hZ 40 (by decide) (by decide) (by decide)) (hZ 41 (by decide) (by decide) (by decide)) (hZ 42 (by decide) (by decide) (by decide)) (hZ 39 (by decide) (by decide) (by decide) 2) (hZ 39 (by decide) (by decide) (by decide) 8) (fun j hj => by rw [hI 9 (by omega) (by omega) (by omega), hZ 43 (by decide) (by decide) (by decide)]; exact h.Ey j hj) (h.Pi.cg (fun e j he => hI _ (by omega) (by omega) (by omega) j) (hZ 44 (by decide) (by decide) (by decide))) ?_ (fun t s c ht hs hc => by rw [hZ 54 (by decide) (by decide) (by decide)]; exact h.Wa t s c ht hs hc) ?_ (by rw [hI 31 (by omega) (by omega) (by omega), hZ 39 (by decide) (by decide) (by decide)]; exact h.fau) (by rw [hI 2 (by omega) (by omega) (by omega), hZ 39 (by decide) (by decide) (by decide)]; exact h.tra)
  · refine ⟨?_, ?_, fun j hj => ?_⟩
    · rw [hI 20 (by omega) (by omega) (by omega), hZ 39 (by decide) (by decide) (by decide)]; exact h.Li.1
    · rw [hI 20 (by omega) (by omega) (by omega), hZ 39 (by decide) (by decide) (by decide)]; exact h.Li.2.1
    · rw [hI 21 (by omega) (by omega) (by omega), hZ 53 (by decide) (by decide) (by decide)]; exact h.Li.2.2 j hj
  · intro k' hk'
    obtain ⟨b1, b2, b3⟩ := h.Sh k' hk'
    have e37 : ∀ j, x_fi (x_u2 (x_u2 I 37 k l) 38 k m) (33 + k) 0 64 0 37 j = x_u2 I 37 k l 37 j := fun j => by rw [x_fi_na _ _ _ _ _ (by omega), x_u2_na _ _ _ _ (by decide)]
    have e38 : ∀ j, x_fi (x_u2 (x_u2 I 37 k l) 38 k m) (33 + k) 0 64 0 38 j = x_u2 I 38 k m 38 j := fun j => by
      rw [x_fi_na _ _ _ _ _ (by omega)]; exact x_u2_cg (x_u2_na _ _ _ _ (by decide))
    have g45 : ∀ j, x_fi (x_u2 (x_u2 Z 45 k l) 46 k m) 47 (64 * k) 64 0 45 j = x_u2 Z 45 k l 45 j := fun j => by rw [x_fi_na _ _ _ _ _ (by omega), x_u2_na _ _ _ _ (by decide)]
    have g46 : ∀ j, x_fi (x_u2 (x_u2 Z 45 k l) 46 k m) 47 (64 * k) 64 0 46 j = x_u2 Z 46 k m 46 j := fun j => by
      rw [x_fi_na _ _ _ _ _ (by omega)]; exact x_u2_cg (x_u2_na _ _ _ _ (by decide))
    rw [e37, e38, g45, g46]
    by_cases e : k' = k
    · subst e
      rw [x_u2_s, x_u2_s, x_u2_s, x_u2_s]
      refine ⟨?_, fun _ => rfl, fun i hi => ?_⟩
      · unfold c_pn; rw [if_neg (by omega)]
      · rw [x_fi_in _ _ (Nat.zero_le _) (by omega), x_fi_in _ _ (by omega) (by omega)]
    · rw [x_u2_nk _ _ _ _ e, x_u2_nk _ _ _ _ e, x_u2_nk _ _ _ _ e, x_u2_nk _ _ _ _ e]
      refine ⟨b1, b2, fun i hi => ?_⟩
      rw [x_fi_na _ _ _ _ _ (by omega), x_u2_na _ _ _ _ (by omega), x_u2_na _ _ _ _ (by omega), x_fi_out _ _ (by omega), x_u2_na _ _ _ _ (by decide), x_u2_na _ _ _ _ (by decide)]
      exact b3 i hi
theorem c_R.sd_ {fa : Nat → Nat} {bd : Nat} {Z : x_I} {S : x_S} {P : x_P} {I : x_I} {J : x_J} {n : Nat} {k : Nat} {m : Int32} (h : c_R fa bd Z S P I J n) (hn : (Z 39 2).toInt ≤ 10) (hk : k < 4) : c_R fa bd (x_u2 Z 45 k (-9)) S P (x_u2 (x_u2 I 37 k (-1)) 38 k m) J n := by
  have hI : ∀ a, a ≠ 37 → a ≠ 38 → ∀ j, x_u2 (x_u2 I 37 k (-1)) 38 k m a j = I a j := fun a a1 a2 j => by rw [x_u2_na _ _ _ _ a2, x_u2_na _ _ _ _ a1]
  refine h.sm hn (fun a j ha => hI a (by omega) (by omega) j) (fun _ => rfl) (fun _ => rfl) (fun _ => rfl) rfl rfl h.Ey (h.Pi.cg (fun e j he => hI _ (by omega) (by omega) j) (fun _ => rfl)) h.Li h.Wa ?_ h.fau h.tra
  intro k' hk'
  obtain ⟨b1, b2, b3⟩ := h.Sh k' hk'
  have e37 : x_u2 (x_u2 I 37 k (-1)) 38 k m 37 k' = x_u2 I 37 k (-1) 37 k' := x_u2_na _ _ _ _ (by decide)
  rw [e37]
  by_cases e : k' = k
  · subst e
    rw [x_u2_s, x_u2_s]
    exact ⟨rfl, fun q => absurd (by decide) q, fun i hi => by rw [hI _ (by omega) (by omega)]; exact b3 i hi⟩
  · rw [x_u2_nk _ _ _ _ e, x_u2_nk _ _ _ _ e, x_u2_nk _ _ _ _ e]
    exact ⟨b1, b2, fun i hi => by rw [hI _ (by omega) (by omega)]; exact b3 i hi⟩
theorem c_R.sp_ {fa : Nat → Nat} {bd : Nat} {Z : x_I} {S : x_S} {P : x_P} {I : x_I} {J : x_J} {n : Nat} {k i : Nat} {v : Int32} (h : c_R fa bd Z S P I J n) (hn : (Z 39 2).toInt ≤ 10) (hk : k < 4) (hi : i < 64) : c_R fa bd (x_u2 Z 47 (64 * k + i) v) S P (x_u2 I (33 + k) i v) J n := by
  have hI : ∀ a, a ≠ 33 + k → ∀ j, x_u2 I (33 + k) i v a j = I a j := fun a a1 j => x_u2_na _ _ _ _ a1
  refine h.sm hn (fun a j ha => hI a (by omega) j) (fun _ => rfl) (fun _ => rfl) (fun _ => rfl) rfl rfl (fun j hj => (hI 9 (by omega) j).trans (h.Ey j hj)) (h.Pi.cg (fun e j he => hI _ (by omega) j) (fun _ => rfl)) ⟨(hI _ (by omega) _).trans h.Li.1, (hI _ (by omega) _).trans h.Li.2.1, fun j hj => (hI _ (by omega) j).trans (h.Li.2.2 j hj)⟩ h.Wa ?_ ((hI _ (by omega) _).trans h.fau) ((hI _ (by omega) _).trans h.tra)
  intro k' hk'
  obtain ⟨b1, b2, b3⟩ := h.Sh k' hk'
  refine ⟨(hI _ (by omega) _).trans b1, fun q => (hI _ (by omega) _).trans (b2 q), fun j hj => ?_⟩
  rw [x_u2_at, x_u2_at]
  by_cases e : k' = k ∧ j = i
  · rw [if_pos (by omega), if_pos (by omega)]
  · rw [if_neg (by omega), if_neg (by omega)]
    exact b3 j hj
theorem c_R.zw {fa : Nat → Nat} {bd : Nat} {Z : x_I} {S : x_S} {P : x_P} {I : x_I} {J : x_J} {n : Nat} (h : c_R fa bd Z S P I J n) (hn : (Z 39 2).toInt ≤ 10) (e : Int32) : c_R fa bd (z_wish Z e) S P I J n := by
  unfold z_wish
  by_cases q : g_ey e
  · rw [x_if_t q]; exact h.nb hn
  · rw [x_if_f q]; exact h

