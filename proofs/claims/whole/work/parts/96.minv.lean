theorem x_Call.keep {F : x_F} {as : List Value} {K : x_K} {S : x_S} {P : x_P} {I : x_I} {J : x_J} {n : Nat} (h : x_Call F as (fun v S' P' I' J' n' => S' 0 = S 0 → I' 0 = I 0 → K v S' P' I' J' n') S P I J n) : x_Call F as K S P I J n := by
  intro D b base L xs l h0 hI p e a1 a2 a3 s m args below hf hap hp hk
  obtain ⟨k, oc, g1, g2, g3, g4, g5⟩ := h D b base L xs l h0 hI p e a1 a2 a3 s m args below hf hap hp hk
  refine ⟨k, oc, g1, g2, g3, ?_, g5⟩
  obtain ⟨⟨v, S', P', I', J', n', q1, q2, q3, q4, q5⟩, q6⟩ := g4
  exact ⟨⟨v, S', P', I', J', n', q1, q2 (q4.trans h0.symm) (q5.trans hI.symm), q3, q4, q5⟩, q6⟩
theorem m_I.gen {Z Z' : x_I} (h : m_I Z) (e2 : Z' 39 2 = Z 39 2) (e8 : Z' 39 8 = Z 39 8) (e24 : Z' 39 24 = Z 39 24) (e26 : Z' 39 26 = Z 39 26) (e40 : ∀ k, Z' 40 k = Z 40 k) (e41 : ∀ k, Z' 41 k = Z 41 k) (co : g_co Z') (e43 : ∀ k, Z' 43 k = Z 43 k) (e44 : ∀ k, Z' 44 k = Z 44 k) (e53 : ∀ k, Z' 53 k = Z 53 k) (wa : g_wa Z') (e45 : ∀ k, Z' 45 k = Z 45 k) (e46 : ∀ k, Z' 46 k = Z 46 k) : m_I Z' := by
  obtain ⟨h1, h2, h3, h4, h5, h6, h7, h8, h9, h10, h11, h12, h13⟩ := h
  have ens : m_ns Z' = m_ns Z := by unfold m_ns; rw [e2]
  have enb : ∀ k, m_nb Z' 41 k = m_nb Z 41 k := fun k => m_nb_41 e8 e41 k
  refine ⟨by rw [e2]; exact h1, fun s hs => m_fo_sm (h2 s (by rw [← ens]; exact hs)) (fun k _ => e41 _), fun s hs => by rw [e40]; exact h3 s (by rw [← ens]; exact hs), m_fo_sm h4 (fun k _ => enb _), co, fun k hk => by rw [e43]; exact h6 k hk, fun k hk => by rw [e44]; exact h7 k hk, fun e k he hk hc => ?_, by rw [e24]; exact h9, fun k hk => by rw [e53]; exact h10 k hk, ?_, wa, fun k hk => by rw [e45, e46]; exact h13 k hk⟩
  · rw [m_ce_sm (fun k _ => enb _)] at hc
    rw [e44]
    exact h8 e k he hk hc
  · unfold g_pt g_sf at h11 ⊢
    rw [e26, e2]
    exact h11
theorem g_wa_cg {Z Z' : x_I} (h : g_wa Z) (e2 : Z' 39 2 = Z 39 2) (e24 : Z' 39 24 = Z 39 24) (e41 : ∀ k, Z' 41 k = Z 41 k) (e54 : ∀ k, Z' 54 k = Z 54 k) : g_wa Z' := fun t s c ht hs hc => by
  have ens : m_ns Z' = m_ns Z := by unfold m_ns; rw [e2]
  have enh : m_nh Z' = m_nh Z := by unfold m_nh; rw [e24]
  rw [e54, ens, enh, m_ce_sm (fun k _ => e41 _)]
  exact h t s c ht hs hc
/-- the reference's scratch does not matter -/
theorem m_I.cg {Z Z' : x_I} (h : m_I Z) (hz : ∀ a k, mG a k = false → Z' a k = Z a k) : m_I Z' :=
  h.gen (hz _ _ rfl) (hz _ _ rfl) (hz _ _ rfl) (hz _ _ rfl) (fun k => hz 40 k rfl) (fun k => hz 41 k rfl) (fun k hk => by rw [hz 42 k rfl]; exact h.co k hk) (fun k => hz 43 k rfl) (fun k => hz 44 k rfl) (fun k => hz 53 k rfl) (g_wa_cg h.wa (hz _ _ rfl) (hz _ _ rfl) (fun k => hz 41 k rfl) (fun k => hz 54 k rfl)) (fun k => hz 45 k rfl) (fun k => hz 46 k rfl)
theorem m_I.c54 {Z Z' : x_I} (h : m_I Z) (hz : ∀ a k, a ≠ 54 → Z' a k = Z a k) (wa : g_wa Z') : m_I Z' :=
  h.gen (hz _ _ (by decide)) (hz _ _ (by decide)) (hz _ _ (by decide)) (hz _ _ (by decide)) (fun k => hz 40 k (by decide)) (fun k => hz 41 k (by decide)) (fun k hk => by rw [hz 42 k (by decide)]; exact h.co k hk) (fun k => hz 43 k (by decide)) (fun k => hz 44 k (by decide)) (fun k => hz 53 k (by decide)) wa (fun k => hz 45 k (by decide)) (fun k => hz 46 k (by decide))
theorem g_wa_0 {Z : x_I} {t : Nat} (h : g_wa Z) : g_wa (x_fi Z 54 (640 * t) 640 0) := fun t' s c ht hs hc => by
  by_cases e : t' = t
  · subst e
    rw [x_fi_in _ _ (by omega) (by omega)]
    exact ⟨Or.inl (by decide), fun _ => by decide⟩
  · rw [x_fi_out _ _ (by omega)]
    exact h t' s c ht hs hc
theorem g_wa_u {Z : x_I} {t s c : Nat} {b : Int32} (h : g_wa Z) (ht : t < m_nh Z) (hs : s < m_ns Z) (hs1 : s < 10) (hc : (c : Int) < m_ce Z s) (hc6 : c < 64) (hb : b.toInt = 0 ∨ b.toInt = 1) : g_wa (x_u2 Z 54 (640 * t + 64 * s + c) b) := fun t' s' c' ht' hs' hc' => by
  rw [x_u2_at]
  by_cases e : 640 * t' + 64 * s' + c' = 640 * t + 64 * s + c
  · rw [if_pos ⟨rfl, e⟩]
    have e1 : t' = t := by omega
    have e2 : s' = s := by omega
    have e3 : c' = c := by omega
    subst e1 e2 e3
    exact ⟨hb, fun q => absurd ⟨ht, hs, hc⟩ q⟩
  · rw [if_neg (fun w => e w.2)]
    exact h t' s' c' ht' hs' hc'

set_option maxRecDepth 100000 in
set_option maxHeartbeats 4000000 in
theorem m_I.t1 {Z : x_I} {f : Int32} (h : m_I Z) : m_I (x_u2 Z 39 1 f) := by
  obtain ⟨h1, h2, h3, h4, h5, h6, h7, h8, h9, h10, h11, h12, h13⟩ := h
  have eb : ∀ y0, m_nb (x_u2 Z 39 1 f) 41 y0 = m_nb Z 41 y0 := fun y0 => m_nb_41 (Z := Z) (Z' := x_u2 Z 39 1 f) rfl (fun _ => rfl) y0
  exact ⟨(h1), (h2), (h3), (m_fo_sm h4 (fun k _ => eb _)), (h5), (h6), (h7), (fun e k he hk hc => h8 e k he hk (by rw [m_ce_sm (fun k _ => eb _)] at hc; exact hc)), (h9), (h10), (h11), (h12), (h13)⟩

set_option maxRecDepth 100000 in
set_option maxHeartbeats 4000000 in
theorem m_I.s47 {Z : x_I} {j : Nat} {f : Int32} (h : m_I Z) : m_I (x_u2 Z 47 j f) := by
  obtain ⟨h1, h2, h3, h4, h5, h6, h7, h8, h9, h10, h11, h12, h13⟩ := h
  have eb : ∀ y0, m_nb (x_u2 Z 47 j f) 41 y0 = m_nb Z 41 y0 := fun y0 => m_nb_41 (Z := Z) (Z' := x_u2 Z 47 j f) rfl (fun _ => rfl) y0
  exact ⟨(h1), (h2), (h3), (m_fo_sm h4 (fun k _ => eb _)), (h5), (h6), (h7), (fun e k he hk hc => h8 e k he hk (by rw [m_ce_sm (fun k _ => eb _)] at hc; exact hc)), (h9), (h10), (h11), (h12), (h13)⟩

theorem g_es_u {Z : x_I} {i : Nat} {v : Int32} (h : g_es Z) (hv : 0 ≤ v.toInt ∧ v.toInt ≤ 40) : g_es (x_u2 Z 43 i v) := fun k hk => by
  rw [x_u2_at]
  by_cases e : k = i
  · rw [if_pos ⟨rfl, e⟩]; exact hv
  · rw [if_neg (fun w => e w.2)]; exact h k hk
set_option maxRecDepth 100000 in
set_option maxHeartbeats 4000000 in
theorem m_I.ey {Z : x_I} {i j k : Nat} {x y z : Int32} (h : m_I Z) (hp : g_pl x y z) : m_I (x_u2 (x_u2 (x_u2 Z 43 i x) 43 j y) 43 k z) := by
  obtain ⟨h1, h2, h3, h4, h5, h6, h7, h8, h9, h10, h11, h12, h13⟩ := h
  have eb : ∀ y0, m_nb (x_u2 (x_u2 (x_u2 Z 43 i x) 43 j y) 43 k z) 41 y0 = m_nb Z 41 y0 := fun y0 => m_nb_41 (Z := Z) (Z' := x_u2 (x_u2 (x_u2 Z 43 i x) 43 j y) 43 k z) rfl (fun _ => rfl) y0
  exact ⟨(h1), (h2), (h3), (m_fo_sm h4 (fun k _ => eb _)), (h5), (g_es_u (g_es_u (g_es_u h6 hp.1) hp.2.1) hp.2.2), (h7), (fun e k he hk hc => h8 e k he hk (by rw [m_ce_sm (fun k _ => eb _)] at hc; exact hc)), (h9), (h10), (h11), (h12), (h13)⟩

set_option maxRecDepth 100000 in
set_option maxHeartbeats 4000000 in
theorem m_I.lo {Z : x_I} {k : Nat} (h : m_I Z) : m_I (x_u2 Z 45 k (-9)) := by
  obtain ⟨h1, h2, h3, h4, h5, h6, h7, h8, h9, h10, h11, h12, h13⟩ := h
  have eb : ∀ y0, m_nb (x_u2 Z 45 k (-9)) 41 y0 = m_nb Z 41 y0 := fun y0 => m_nb_41 (Z := Z) (Z' := x_u2 Z 45 k (-9)) rfl (fun _ => rfl) y0
  exact ⟨(h1), (h2), (h3), (m_fo_sm h4 (fun k _ => eb _)), (h5), (h6), (h7), (fun e k he hk hc => h8 e k he hk (by rw [m_ce_sm (fun k _ => eb _)] at hc; exact hc)), (h9), (h10), (h11), (h12), (fun j hj => ⟨by
    rw [x_u2_at]
    by_cases e : j = k
    · rw [if_pos ⟨rfl, e⟩]; exact Or.inl (by decide)
    · rw [if_neg (fun w => e w.2)]; exact (h13 j hj).1, (h13 j hj).2⟩)⟩

set_option maxRecDepth 100000 in
set_option maxHeartbeats 4000000 in
theorem m_I.sh {Z : x_I} {k lo : Nat} {l m : Int32} (h : m_I Z) (hl : 0 ≤ l.toInt ∧ l.toInt ≤ 2) (hm : 0 ≤ m.toInt ∧ m.toInt ≤ 64) : m_I (x_fi (x_u2 (x_u2 Z 45 k l) 46 k m) 47 lo 64 0) := by
  obtain ⟨h1, h2, h3, h4, h5, h6, h7, h8, h9, h10, h11, h12, h13⟩ := h
  have eb : ∀ y0, m_nb (x_fi (x_u2 (x_u2 Z 45 k l) 46 k m) 47 lo 64 0) 41 y0 = m_nb Z 41 y0 := fun y0 => m_nb_41 (Z := Z) (Z' := x_fi (x_u2 (x_u2 Z 45 k l) 46 k m) 47 lo 64 0) rfl (fun _ => rfl) y0
  exact ⟨(h1), (h2), (h3), (m_fo_sm h4 (fun k _ => eb _)), (h5), (h6), (h7), (fun e k he hk hc => h8 e k he hk (by rw [m_ce_sm (fun k _ => eb _)] at hc; exact hc)), (h9), (h10), (h11), (h12), (fun j hj => by
    have e45 : x_fi (x_u2 (x_u2 Z 45 k l) 46 k m) 47 lo 64 0 45 j = x_u2 Z 45 k l 45 j := rfl
    have e46 : x_fi (x_u2 (x_u2 Z 45 k l) 46 k m) 47 lo 64 0 46 j = x_u2 (x_u2 Z 45 k l) 46 k m 46 j := rfl
    have e46b : x_u2 Z 45 k l 46 j = Z 46 j := rfl
    rw [e45, e46, x_u2_at, x_u2_at, e46b]
    by_cases e : j = k
    · rw [if_pos ⟨rfl, e⟩, if_pos ⟨rfl, e⟩]; exact ⟨Or.inr hl, hm⟩
    · rw [if_neg (fun w => e w.2), if_neg (fun w => e w.2)]; exact h13 j hj)⟩

theorem g_ws_u {Z : x_I} {i : Nat} {v : Int32} (h : g_ws Z) (hv : -9 ≤ v.toInt ∧ v.toInt ≤ 9) : g_ws (x_u2 Z 53 i v) := fun k hk => by
  rw [x_u2_at]
  by_cases e : k = i
  · rw [if_pos ⟨rfl, e⟩]; exact hv
  · rw [if_neg (fun w => e w.2)]; exact h k hk
set_option maxRecDepth 100000 in
set_option maxHeartbeats 4000000 in
theorem m_I.hr {Z : x_I} {i j k : Nat} {a b c : Int32} (h : m_I Z) (hd : g_dr a b c 9) (h6_ : ¬ (Z 39 24).toInt = 6) : m_I (x_u2 (x_u2 (x_u2 (x_u2 Z 53 i a) 53 j b) 53 k c) 39 24 (nI (m_nh Z + 1))) := by
  obtain ⟨h1, h2, h3, h4, h5, h6, h7, h8, h9, h10, h11, h12, h13⟩ := h
  have eb : ∀ y0, m_nb (x_u2 (x_u2 (x_u2 (x_u2 Z 53 i a) 53 j b) 53 k c) 39 24 (nI (m_nh Z + 1))) 41 y0 = m_nb Z 41 y0 := fun y0 => m_nb_41 (Z := Z) (Z' := x_u2 (x_u2 (x_u2 (x_u2 Z 53 i a) 53 j b) 53 k c) 39 24 (nI (m_nh Z + 1))) rfl (fun _ => rfl) y0
  have hnh : m_nh Z = (Z 39 24).toInt.toNat := rfl
  have e24 : (x_u2 (x_u2 (x_u2 (x_u2 Z 53 i a) 53 j b) 53 k c) 39 24 (nI (m_nh Z + 1))) 39 24 = nI (m_nh Z + 1) := rfl
  have h9a := h9.1
  have h9b := h9.2
  have et : (nI (m_nh Z + 1)).toInt = ((m_nh Z + 1 : Nat) : Int) := x_ti (by omega)
  have enh : m_nh (x_u2 (x_u2 (x_u2 (x_u2 Z 53 i a) 53 j b) 53 k c) 39 24 (nI (m_nh Z + 1))) = m_nh Z + 1 := by
    show ((x_u2 (x_u2 (x_u2 (x_u2 Z 53 i a) 53 j b) 53 k c) 39 24 (nI (m_nh Z + 1))) 39 24).toInt.toNat = _
    rw [e24, et]; omega
  exact ⟨(h1), (h2), (h3), (m_fo_sm h4 (fun k _ => eb _)), (h5), (h6), (h7), (fun e k he hk hc => h8 e k he hk (by rw [m_ce_sm (fun k _ => eb _)] at hc; exact hc)), (by rw [e24, et]; omega), (g_ws_u (g_ws_u (g_ws_u h10 hd.1.1) hd.1.2.1) hd.1.2.2), (h11), (fun t s d ht hs hc => ⟨(h12 t s d ht hs hc).1, fun q => (h12 t s d ht hs hc).2 (fun w => q (by rw [enh]; exact ⟨by omega, w.2⟩))⟩), (h13)⟩

set_option maxRecDepth 100000 in
set_option maxHeartbeats 4000000 in
theorem m_I.pl {Z : x_I} {v : Int32} (h : m_I Z) (hv : v.toInt = -9 ∨ g_sf Z v) : m_I (x_u2 Z 39 26 v) := by
  obtain ⟨h1, h2, h3, h4, h5, h6, h7, h8, h9, h10, h11, h12, h13⟩ := h
  have eb : ∀ y0, m_nb (x_u2 Z 39 26 v) 41 y0 = m_nb Z 41 y0 := fun y0 => m_nb_41 (Z := Z) (Z' := x_u2 Z 39 26 v) rfl (fun _ => rfl) y0
  exact ⟨(h1), (h2), (h3), (m_fo_sm h4 (fun k _ => eb _)), (h5), (h6), (h7), (fun e k he hk hc => h8 e k he hk (by rw [m_ce_sm (fun k _ => eb _)] at hc; exact hc)), (h9), (h10), (hv), (h12), (h13)⟩

