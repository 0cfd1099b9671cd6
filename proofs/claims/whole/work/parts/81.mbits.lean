def h_A (L : Nat → Nat → Option Nat) (T k t : Nat) (β : Nat → Nat) (N : Nat) (I : x_I) : Prop :=
  (∀ a, a < 3840 → h_sn L T k t a → I 61 a = nI (β a) ∧ β a < N) ∧ (∀ a, a < 3840 → ¬ h_sn L T k t a → I 61 a = -9) ∧ (∀ a c, h_sn L T k t a → h_sn L T k t c → β a = β c → a = c) ∧ (∀ b, b < N → ∃ a, h_sn L T k t a ∧ β a = b) ∧ N ≤ 6 * k + t
def h_Rw (L : Nat → Nat → Option Nat) (T k t : Nat) (β : Nat → Nat) (J : x_J) : Prop := ∀ j b, j ≤ k → b < 96 → (x_on (J 59 j) (J 60 j) b = true ↔ ∃ u a, (j < k ∨ u < t) ∧ u < T ∧ L j u = some a ∧ β a = b)
def h_R0 (L : Nat → Nat → Option Nat) (T k : Nat) (β : Nat → Nat) (J : x_J) : Prop := ∀ j b, j < k → b < 96 → (x_on (J 59 j) (J 60 j) b = true ↔ ∃ u a, u < T ∧ L j u = some a ∧ β a = b)
/-- the rows are covered just when all bits are on -/
def f_bm (L : Nat → Nat → Option Nat) (m T N : Nat) (lo hi : Nat → Int64) : Prop := N ≤ 96 ∧ ∀ n R, (∀ i, i < n → R i < m) → (f_cov L m T n R ↔ ∀ b, b < N → ∃ i, i < n ∧ x_on (lo (R i)) (hi (R i)) b = true)
theorem h_A_n {L : Nat → Nat → Option Nat} {T k t N : Nat} {β : Nat → Nat} {I : x_I} (ht : t < T) (h : L k t = none) (hA : h_A L T k t β N I) : h_A L T k (t + 1) β N I := by
  have e : ∀ a, h_sn L T k (t + 1) a ↔ h_sn L T k t a := fun a => by rw [h_sn_s ht, h]; exact ⟨fun w => w.resolve_right (fun z => by cases z), Or.inl⟩
  unfold h_A at hA ⊢
  simp only [e]
  exact ⟨hA.1, hA.2.1, hA.2.2.1, hA.2.2.2.1, by have := hA.2.2.2.2; omega⟩
theorem h_A_o {L : Nat → Nat → Option Nat} {T k t N a : Nat} {β : Nat → Nat} {I : x_I} (ht : t < T) (h : L k t = some a) (hs : h_sn L T k t a) (hA : h_A L T k t β N I) : h_A L T k (t + 1) β N I := by
  have e : ∀ c, h_sn L T k (t + 1) c ↔ h_sn L T k t c := fun c => by rw [h_sn_s ht, h]; exact ⟨fun w => w.elim id (fun z => by cases z; exact hs), Or.inl⟩
  unfold h_A at hA ⊢
  simp only [e]
  exact ⟨hA.1, hA.2.1, hA.2.2.1, hA.2.2.2.1, by have := hA.2.2.2.2; omega⟩
theorem h_A_w {L : Nat → Nat → Option Nat} {T k t N a : Nat} {β : Nat → Nat} {I : x_I} (ht : t < T) (h : L k t = some a) (hs : ¬ h_sn L T k t a) (hlt : ∀ c, h_sn L T k t c → c < 3840) (hA : h_A L T k t β N I) : h_A L T k (t + 1) (fun c => if c = a then N else β c) (N + 1) (x_u2 I 61 a (nI N)) := by
  have e : ∀ c, h_sn L T k (t + 1) c ↔ (h_sn L T k t c ∨ c = a) := fun c => by
    rw [h_sn_s ht, h]
    exact ⟨fun w => w.imp id (fun z => by cases z; rfl), fun w => w.imp id (fun z => by rw [z])⟩
  have na : ∀ c, h_sn L T k t c → ¬ c = a := fun c hc q => hs (by rw [← q]; exact hc)
  obtain ⟨a1, a2, a3, a4, a5⟩ := hA
  refine ⟨fun c hc q => ?_, fun c hc q => ?_, fun c d hc hd q => ?_, fun b hb => ?_, by omega⟩
  · rw [x_u2_at]
    by_cases w : c = a
    · subst w; simp
    · rw [if_neg (fun z => w z.2)]
      simp only [if_neg w]
      have := a1 c hc (((e c).mp q).resolve_right w)
      exact ⟨this.1, by omega⟩
  · have w : ¬ c = a := fun z => q ((e c).mpr (Or.inr z))
    rw [x_u2_at, if_neg (fun z => w z.2)]
    exact a2 c hc (fun z => q ((e c).mpr (Or.inl z)))
  · by_cases w : c = a <;> by_cases v : d = a
    · rw [w, v]
    · have h8 := ((e d).mp hd).resolve_right v
      have h9 : d < 3840 ∨ 3840 ≤ d := by omega
      simp only [if_pos w, if_neg v] at q
      obtain ⟨j, u, j1, j2, j3⟩ := id h8
      rcases h9 with h9 | h9
      · have := (a1 d h9 h8).2; omega
      · exact absurd (hlt d h8) (by omega)
    · have h8 := ((e c).mp hc).resolve_right w
      simp only [if_neg w, if_pos v] at q
      have := (a1 c (hlt c h8) h8).2; omega
    · simp only [if_neg w, if_neg v] at q
      exact a3 c d (((e c).mp hc).resolve_right w) (((e d).mp hd).resolve_right v) q
  · by_cases w : b = N
    · exact ⟨a, (e a).mpr (Or.inr rfl), by simp [w]⟩
    · obtain ⟨c, c1, c2⟩ := a4 b (by omega)
      exact ⟨c, (e c).mpr (Or.inl c1), by simp only [if_neg (na c c1)]; exact c2⟩

theorem h_Rw_c {L : Nat → Nat → Option Nat} {T k t : Nat} {β γ : Nat → Nat} {J : x_J} (h : h_Rw L T k t β J) (hg : ∀ a, h_sn L T k t a → γ a = β a) : h_Rw L T k t γ J := fun j b hj hb => by
  rw [h j b hj hb]
  constructor
  · intro ⟨u, a, q1, q2, q3, q4⟩; exact ⟨u, a, q1, q2, q3, by rw [hg a ⟨j, u, by omega, q2, q3⟩]; exact q4⟩
  · intro ⟨u, a, q1, q2, q3, q4⟩; exact ⟨u, a, q1, q2, q3, by rw [← hg a ⟨j, u, by omega, q2, q3⟩]; exact q4⟩
theorem h_Rw_n {L : Nat → Nat → Option Nat} {T k t : Nat} {β : Nat → Nat} {J : x_J} (h : h_Rw L T k t β J) (hn : L k t = none) : h_Rw L T k (t + 1) β J := fun j b hj hb => by
  rw [h j b hj hb]
  constructor
  · intro ⟨u, a, q1, q2, q3, q4⟩; exact ⟨u, a, by omega, q2, q3, q4⟩
  · intro ⟨u, a, q1, q2, q3, q4⟩
    refine ⟨u, a, ?_, q2, q3, q4⟩
    by_cases w : j < k
    · exact Or.inl w
    · have e : j = k := by omega
      subst e
      by_cases v : u = t
      · subst v; rw [hn] at q3; cases q3
      · exact Or.inr (by omega)
theorem x_on_lo {lo hi : Int64} {b c : Nat} (hb : b < 64) (hc : c < 96) : x_on (lo ||| 1 <<< ((nI b).toInt64 &&& 63)) hi c = (x_on lo hi c || decide (c = b)) := by
  unfold x_on
  by_cases w : c < 64
  · rw [if_pos w, if_pos w, x_lb_or, x_lb_1 hb]
  · rw [if_neg w, if_neg w, decide_eq_false (by omega), Bool.or_false]
theorem x_on_hi {lo hi : Int64} {b c : Nat} (hb : 64 ≤ b) (hb2 : b < 96) (hc : c < 96) : x_on lo (hi ||| 1 <<< ((nI (b - 64)).toInt64 &&& 63)) c = (x_on lo hi c || decide (c = b)) := by
  unfold x_on
  by_cases w : c < 64
  · rw [if_pos w, if_pos w, decide_eq_false (by omega), Bool.or_false]
  · rw [if_neg w, if_neg w, x_lb_or, x_lb_1 (by omega)]
    congr 1
    exact decide_eq_decide.mpr ⟨fun q => by omega, fun q => by omega⟩
theorem h_Rw_s {L : Nat → Nat → Option Nat} {T k t a : Nat} {β : Nat → Nat} {J J2 : x_J} (h : h_Rw L T k t β J) (ht : t < T) (ha : L k t = some a) (h1 : ∀ j, ¬ j = k → J2 59 j = J 59 j ∧ J2 60 j = J 60 j) (h2 : ∀ c, c < 96 → x_on (J2 59 k) (J2 60 k) c = (x_on (J 59 k) (J 60 k) c || decide (c = β a))) : h_Rw L T k (t + 1) β J2 := fun j b hj hb => by
  by_cases e : j = k
  · subst e
    rw [h2 b hb, Bool.or_eq_true, h j b hj hb, decide_eq_true_eq]
    constructor
    · intro w
      rcases w with ⟨u, c, q1, q2, q3, q4⟩ | w
      · exact ⟨u, c, by omega, q2, q3, q4⟩
      · exact ⟨t, a, by omega, ht, ha, w.symm⟩
    · intro ⟨u, c, q1, q2, q3, q4⟩
      by_cases v : u = t
      · subst v
        rw [ha] at q3; cases q3
        exact Or.inr q4.symm
      · exact Or.inl ⟨u, c, by omega, q2, q3, q4⟩
  · rw [(h1 j e).1, (h1 j e).2, h j b hj hb]
    constructor
    · intro ⟨u, c, q1, q2, q3, q4⟩; exact ⟨u, c, by omega, q2, q3, q4⟩
    · intro ⟨u, c, q1, q2, q3, q4⟩; exact ⟨u, c, by omega, q2, q3, q4⟩
theorem f_bm_of {L : Nat → Nat → Option Nat} {m T N : Nat} {β : Nat → Nat} {I : x_I} {J : x_J} (hok : h_lok L m T) (hT : T ≤ 6) (hm : m ≤ 16) (hA : h_A L T m 0 β N I) (hR : h_R0 L T m β J) : f_bm L m T N (J 59) (J 60) := by
  obtain ⟨a1, a2, a3, a4, a5⟩ := hA
  refine ⟨by omega, fun n R hr => ⟨fun hc b hb => ?_, fun hb k t hk ht hl => ?_⟩⟩
  · obtain ⟨a, ⟨j, u, j1, j2, j3⟩, e⟩ := a4 b hb
    obtain ⟨i, i1, i2⟩ := hc j u (by omega) j2 (by rw [j3]; intro z; cases z)
    exact ⟨i, i1, (hR (R i) b (hr i i1) (by omega)).mpr ⟨u, a, j2, by rw [i2]; exact j3, e⟩⟩
  · cases ho : L k t with
    | none => exact absurd ho hl
    | some a =>
      have hs : h_sn L T m 0 a := ⟨k, t, Or.inl hk, ht, ho⟩
      have ha := hok k t a hk ht ho
      have hlt := (a1 a ha.2 hs).2
      obtain ⟨i, i1, i2⟩ := hb (β a) hlt
      obtain ⟨u, c, u1, u2, u3⟩ := (hR (R i) (β a) (hr i i1) (by omega)).mp i2
      have hc := hok (R i) u c (hr i i1) u1 u2
      have e := a3 c a ⟨R i, u, Or.inl (hr i i1), u1, u2⟩ hs u3
      subst e
      have e2 : u = t := by omega
      subst e2
      exact ⟨i, i1, u2⟩

set_option maxRecDepth 100000 in
set_option maxHeartbeats 4000000 in
theorem l_X12_fb_t {K : x_K} {S : x_S} {P : x_P} {n : Nat} {Z : x_I} {I : x_I} {J : x_J} (J0 : x_J) (L : Nat → Nat → Option Nat) (T k t N a : Nat) (β : Nat → Nat) (hk : k < 16) (ht : t < T) (hT7 : T ≤ 6) (ha : L k t = some a) (ha2 : a < 3840) (hb : I 61 a = nI (β a)) (hb9 : β a < 96) (hex : x_ex mB Z I J0 J) (hR : h_Rw L T k t β J) (hS : x_hS S) (hP : x_hP P) (hc : ∀ J2 : x_J, x_ex mB Z I J0 J2 → h_Rw L T k (t + 1) β J2 → x_V f_X12_findBits K 51 [some (.ref 39), some (.int (nI N)), some (.int (nI k)), some (.int (nI (t + 1))), none] [] S P I J2 n 0 0) : x_V f_X12_findBits K 103 [some (.ref 39), some (.int (nI N)), some (.int (nI k)), some (.int (nI t)), some (.int (nI a))] [] S P I J n 0 0 := by
  refine v_aload_n d_X12_findBits_103 rfl ?_
  refine v_gr d_X12_findBits_104 lf_X12_79_12 rfl (hS _ _ rfl) (hP _ _ _ rfl) ?_
  refine v_iload d_X12_findBits_107 rfl ?_
  refine v_iald _ d_X12_findBits_109 (rfl) (hS _ _ rfl) (⟨by omega, by omega⟩) (hb) ?_
  refine v_bipush (v := nI 64) d_X12_findBits_110 x_bp_64 ?_
  refine w_icmp_ge d_X12_findBits_112 (fun a112 => ?_) (fun a112 => ?_)
  · try simp (disch := omega) only [x_ti, x_tm1] at a112
    refine v_aload_n d_X12_findBits_136 rfl ?_
    refine v_gr d_X12_findBits_137 lf_X12_76_12 rfl (hS _ _ rfl) (hP _ _ _ rfl) ?_
    refine v_iload_n d_X12_findBits_140 rfl ?_
    refine v_dup2 d_X12_findBits_141 rfl rfl ?_
    refine v_lald _ d_X12_findBits_142 (rfl) (hS _ _ rfl) (⟨by omega, by omega⟩) (rfl) ?_
    refine v_lconst (v := 1) d_X12_findBits_143 rfl ?_
    refine v_aload_n d_X12_findBits_144 rfl ?_
    refine v_gr d_X12_findBits_145 lf_X12_79_12 rfl (hS _ _ rfl) (hP _ _ _ rfl) ?_
    refine v_iload d_X12_findBits_148 rfl ?_
    refine v_iald _ d_X12_findBits_150 (rfl) (hS _ _ rfl) (⟨by omega, by omega⟩) (hb) ?_
    refine v_bipush (v := nI 64) d_X12_findBits_151 x_bp_64 ?_
    refine v_isub d_X12_findBits_153 ?_
    rw [x_subN (by omega)]
    refine v_lshl d_X12_findBits_154 ?_
    refine v_lor d_X12_findBits_155 ?_
    refine v_last _ d_X12_findBits_156 (rfl) (hS _ _ rfl) (⟨by omega, by omega⟩) ?_
    first | refine v_iinc (ls' := [_, _, _, _, _]) d_X12_findBits_157 rfl (x_inc_1 _) (by decide) rfl ?_ | refine v_iinc (ls' := [_, _, _, _, _]) d_X12_findBits_157 rfl rfl (by decide) rfl ?_
    refine v_goto d_X12_findBits_160 ?_
    refine x_V.fg1 4 (ls' := [_, _, _, _, _]) rfl ?_
    first
      | (refine hc _ ((hex.uj (a := 59) (k := k) rfl)) (h_Rw_s hR ht ha (fun j hj => ⟨x_u2_nk _ _ _ _ hj, rfl⟩) (fun c hc => ?_))
         rw [x_u2_s]
         exact (x_on_lo (by omega) hc))
      | (refine hc _ ((hex.uj (a := 60) (k := k) rfl)) (h_Rw_s hR ht ha (fun j hj => ⟨rfl, x_u2_nk _ _ _ _ hj⟩) (fun c hc => ?_))
         rw [x_u2_s]
         exact (x_on_hi (by omega) (by omega) hc))
  · try simp (disch := omega) only [x_ti, x_tm1] at a112
    refine v_aload_n d_X12_findBits_115 rfl ?_
    refine v_gr d_X12_findBits_116 lf_X12_72_12 rfl (hS _ _ rfl) (hP _ _ _ rfl) ?_
    refine v_iload_n d_X12_findBits_119 rfl ?_
    refine v_dup2 d_X12_findBits_120 rfl rfl ?_
    refine v_lald _ d_X12_findBits_121 (rfl) (hS _ _ rfl) (⟨by omega, by omega⟩) (rfl) ?_
    refine v_lconst (v := 1) d_X12_findBits_122 rfl ?_
    refine v_aload_n d_X12_findBits_123 rfl ?_
    refine v_gr d_X12_findBits_124 lf_X12_79_12 rfl (hS _ _ rfl) (hP _ _ _ rfl) ?_
    refine v_iload d_X12_findBits_127 rfl ?_
    refine v_iald _ d_X12_findBits_129 (rfl) (hS _ _ rfl) (⟨by omega, by omega⟩) (hb) ?_
    refine v_lshl d_X12_findBits_130 ?_
    refine v_lor d_X12_findBits_131 ?_
    refine v_last _ d_X12_findBits_132 (rfl) (hS _ _ rfl) (⟨by omega, by omega⟩) ?_
    refine v_goto d_X12_findBits_133 ?_
    first | refine v_iinc (ls' := [_, _, _, _, _]) d_X12_findBits_157 rfl (x_inc_1 _) (by decide) rfl ?_ | refine v_iinc (ls' := [_, _, _, _, _]) d_X12_findBits_157 rfl rfl (by decide) rfl ?_
    refine v_goto d_X12_findBits_160 ?_
    refine x_V.fg1 4 (ls' := [_, _, _, _, _]) rfl ?_
    first
      | (refine hc _ ((hex.uj (a := 59) (k := k) rfl)) (h_Rw_s hR ht ha (fun j hj => ⟨x_u2_nk _ _ _ _ hj, rfl⟩) (fun c hc => ?_))
         rw [x_u2_s]
         exact (x_on_lo (by omega) hc))
      | (refine hc _ ((hex.uj (a := 60) (k := k) rfl)) (h_Rw_s hR ht ha (fun j hj => ⟨rfl, x_u2_nk _ _ _ _ hj⟩) (fun c hc => ?_))
         rw [x_u2_s]
         exact (x_on_hi (by omega) (by omega) hc))

set_option maxRecDepth 100000 in
set_option maxHeartbeats 4000000 in
theorem l_X12_fb_i {K : x_K} {S : x_S} {P : x_P} {n : Nat} {Z : x_I} (J0 : x_J) (L : Nat → Nat → Option Nat) (m T : Nat) (hm : m ≤ 16) (hT6 : (Z 39 24).toInt = (T : Int)) (hT7 : T ≤ 6) (hmm : Z 39 28 = nI m) (hok : h_lok L m T) (r56 : ∀ k t, k < m → t < T → Z 56 (6 * k + t) = h_w (L k t)) (hS : x_hS S) (hP : x_hP P) (k : Nat) (hk : k < m) (hc : ∀ (β : Nat → Nat) (N : Nat) (I : x_I) (J : x_J), x_ex mB Z I J0 J → h_A L T k T β N I → h_Rw L T k T β J → x_V f_X12_findBits K 163 [some (.ref 39), some (.int (nI N)), some (.int (nI k)), some (.int (nI T)), none] [] S P I J n 0 0) :
    ∀ d t : Nat, t + d = T → ∀ (β : Nat → Nat) (N : Nat) (I : x_I) (J : x_J), x_ex mB Z I J0 J → h_A L T k t β N I → h_Rw L T k t β J → x_V f_X12_findBits K 51 [some (.ref 39), some (.int (nI N)), some (.int (nI k)), some (.int (nI t)), none] [] S P I J n 0 0 := by
  have t9 : (-9 : Int32).toInt = -9 := by decide
  intro d
  induction d with
  | zero =>
    intro t hd β N I J hex hA hR
    refine v_iload_n d_X12_findBits_51 rfl ?_
    refine v_aload_n d_X12_findBits_52 rfl ?_
    refine v_gie d_X12_findBits_53 lf_X12_229_12 rfl (hS _ _ rfl) (hex.i 39 24 rfl) ?_
    refine w_icmp_ge d_X12_findBits_56 (fun h56 => ?_) (fun h56 => False.elim (by (try simp (disch := omega) only [x_ti, x_tm1] at h56); omega))
    have e1 : t = T := by omega
    subst e1
    exact hc β N I J hex hA hR
  | succ d ih =>
    intro t hd β N I J hex hA hR
    have hlt : ∀ c, h_sn L T k t c → c < 3840 := fun c ⟨j, u, q1, q2, q3⟩ => (hok j u c (by omega) q2 q3).2
    cases zo : L k t with
    | none =>
      refine v_iload_n d_X12_findBits_51 rfl ?_
      refine v_aload_n d_X12_findBits_52 rfl ?_
      refine v_gie d_X12_findBits_53 lf_X12_229_12 rfl (hS _ _ rfl) (hex.i 39 24 rfl) ?_
      refine w_icmp_ge d_X12_findBits_56 (fun h56 => False.elim (by (try simp (disch := omega) only [x_ti, x_tm1] at h56); omega)) (fun h56 => ?_)
      refine v_aload_n d_X12_findBits_59 rfl ?_
      refine v_gr d_X12_findBits_60 lf_X12_63_12 rfl (hS _ _ rfl) (hP _ _ _ rfl) ?_
      refine v_bipush (v := nI 6) d_X12_findBits_63 x_bp_6 ?_
      refine v_iload_n d_X12_findBits_65 rfl ?_
      first | refine v_imulN d_X12_findBits_66 ?_ | refine v_imul d_X12_findBits_66 ?_
      refine v_iload_n d_X12_findBits_67 rfl ?_
      first | refine v_iaddN d_X12_findBits_68 ?_ | refine v_iadd d_X12_findBits_68 ?_
      refine v_iald _ d_X12_findBits_69 (rfl) (hS _ _ rfl) (⟨by omega, by omega⟩) ((hex.i 56 _ rfl).trans ((r56 k t hk (by omega)).trans (show h_w (L k t) = -1 by rw [zo]; rfl))) ?_
      refine v_istore (ls' := [_, _, _, _, _]) d_X12_findBits_70 (by decide) rfl ?_
      refine v_iload d_X12_findBits_72 rfl ?_
      refine w_if_ge d_X12_findBits_74 (fun a74 => False.elim (by exact absurd a74 (by decide))) (fun a74 => ?_)
      refine v_goto d_X12_findBits_77 ?_
      first | refine v_iinc (ls' := [_, _, _, _, _]) d_X12_findBits_157 rfl (x_inc_1 _) (by decide) rfl ?_ | refine v_iinc (ls' := [_, _, _, _, _]) d_X12_findBits_157 rfl rfl (by decide) rfl ?_
      refine v_goto d_X12_findBits_160 ?_
      refine x_V.fg1 4 (ls' := [_, _, _, _, _]) rfl ?_
      exact ih (t + 1) (by omega) β N I J hex (h_A_n (by omega) zo hA) (h_Rw_n hR zo)
    | some a =>
      have zin := hok k t a hk (by omega) zo
      by_cases zs : h_sn L T k t a
      · have zb := (hA.1 a zin.2 zs).2
        have zN := hA.2.2.2.2
        refine v_iload_n d_X12_findBits_51 rfl ?_
        refine v_aload_n d_X12_findBits_52 rfl ?_
        refine v_gie d_X12_findBits_53 lf_X12_229_12 rfl (hS _ _ rfl) (hex.i 39 24 rfl) ?_
        refine w_icmp_ge d_X12_findBits_56 (fun h56 => False.elim (by (try simp (disch := omega) only [x_ti, x_tm1] at h56); omega)) (fun h56 => ?_)
        refine v_aload_n d_X12_findBits_59 rfl ?_
        refine v_gr d_X12_findBits_60 lf_X12_63_12 rfl (hS _ _ rfl) (hP _ _ _ rfl) ?_
        refine v_bipush (v := nI 6) d_X12_findBits_63 x_bp_6 ?_
        refine v_iload_n d_X12_findBits_65 rfl ?_
        first | refine v_imulN d_X12_findBits_66 ?_ | refine v_imul d_X12_findBits_66 ?_
        refine v_iload_n d_X12_findBits_67 rfl ?_
        first | refine v_iaddN d_X12_findBits_68 ?_ | refine v_iadd d_X12_findBits_68 ?_
        refine v_iald _ d_X12_findBits_69 (rfl) (hS _ _ rfl) (⟨by omega, by omega⟩) ((hex.i 56 _ rfl).trans ((r56 k t hk (by omega)).trans (show h_w (L k t) = nI a by rw [zo]; rfl))) ?_
        refine v_istore (ls' := [_, _, _, _, _]) d_X12_findBits_70 (by decide) rfl ?_
        refine v_iload d_X12_findBits_72 rfl ?_
        refine w_if_ge d_X12_findBits_74 (fun a74 => ?_) (fun a74 => False.elim (by rw [x_ti (by omega)] at a74; omega))
        refine v_aload_n d_X12_findBits_80 rfl ?_
        refine v_gr d_X12_findBits_81 lf_X12_79_12 rfl (hS _ _ rfl) (hP _ _ _ rfl) ?_
        refine v_iload d_X12_findBits_84 rfl ?_
        refine v_iald _ d_X12_findBits_86 (rfl) (hS _ _ rfl) (⟨by omega, by omega⟩) ((hA.1 a zin.2 zs).1) ?_
        refine v_bipush (v := (-9)) d_X12_findBits_87 x_bp_m9 ?_
        refine w_icmp_ne d_X12_findBits_89 (fun a89 => ?_) (fun a89 => False.elim (by rw [x_ti (by omega), t9] at a89; omega))
        exact l_X12_fb_t J0 L T k t N a β (by omega) (by omega) hT7 zo zin.2 (hA.1 a zin.2 zs).1 (by have := (hA.1 a zin.2 zs).2; have := hA.2.2.2.2; omega) hex hR hS hP (fun J2 x1 x2 => ih (t + 1) (by omega) β N I J2 x1 (h_A_o (by omega) zo zs hA) x2)
      · refine v_iload_n d_X12_findBits_51 rfl ?_
        refine v_aload_n d_X12_findBits_52 rfl ?_
        refine v_gie d_X12_findBits_53 lf_X12_229_12 rfl (hS _ _ rfl) (hex.i 39 24 rfl) ?_
        refine w_icmp_ge d_X12_findBits_56 (fun h56 => False.elim (by (try simp (disch := omega) only [x_ti, x_tm1] at h56); omega)) (fun h56 => ?_)
        refine v_aload_n d_X12_findBits_59 rfl ?_
        refine v_gr d_X12_findBits_60 lf_X12_63_12 rfl (hS _ _ rfl) (hP _ _ _ rfl) ?_
        refine v_bipush (v := nI 6) d_X12_findBits_63 x_bp_6 ?_
        refine v_iload_n d_X12_findBits_65 rfl ?_
        first | refine v_imulN d_X12_findBits_66 ?_ | refine v_imul d_X12_findBits_66 ?_
        refine v_iload_n d_X12_findBits_67 rfl ?_
        first | refine v_iaddN d_X12_findBits_68 ?_ | refine v_iadd d_X12_findBits_68 ?_
        refine v_iald _ d_X12_findBits_69 (rfl) (hS _ _ rfl) (⟨by omega, by omega⟩) ((hex.i 56 _ rfl).trans ((r56 k t hk (by omega)).trans (show h_w (L k t) = nI a by rw [zo]; rfl))) ?_
        refine v_istore (ls' := [_, _, _, _, _]) d_X12_findBits_70 (by decide) rfl ?_
        refine v_iload d_X12_findBits_72 rfl ?_
        refine w_if_ge d_X12_findBits_74 (fun a74 => ?_) (fun a74 => False.elim (by rw [x_ti (by omega)] at a74; omega))
        refine v_aload_n d_X12_findBits_80 rfl ?_
        refine v_gr d_X12_findBits_81 lf_X12_79_12 rfl (hS _ _ rfl) (hP _ _ _ rfl) ?_
        refine v_iload d_X12_findBits_84 rfl ?_
        refine v_iald _ d_X12_findBits_86 (rfl) (hS _ _ rfl) (⟨by omega, by omega⟩) (hA.2.1 a zin.2 zs) ?_
        refine v_bipush (v := (-9)) d_X12_findBits_87 x_bp_m9 ?_
        refine w_icmp_ne d_X12_findBits_89 (fun a89 => False.elim (by exact a89 rfl)) (fun a89 => ?_)
        refine v_aload_n d_X12_findBits_92 rfl ?_
        refine v_gr d_X12_findBits_93 lf_X12_79_12 rfl (hS _ _ rfl) (hP _ _ _ rfl) ?_
        refine v_iload d_X12_findBits_96 rfl ?_
        refine v_iload_n d_X12_findBits_98 rfl ?_
        refine v_iast _ d_X12_findBits_99 (rfl) (hS _ _ rfl) (⟨by omega, by omega⟩) ?_
        first | refine v_iinc (ls' := [_, _, _, _, _]) d_X12_findBits_100 rfl (x_inc_1 _) (by decide) rfl ?_ | refine v_iinc (ls' := [_, _, _, _, _]) d_X12_findBits_100 rfl rfl (by decide) rfl ?_
        have zA := h_A_w (by omega) zo zs hlt hA
        have zN := hA.2.2.2.2
        exact l_X12_fb_t J0 L T k t (N + 1) a (fun c => if c = a then N else β c) (by omega) (by omega) hT7 zo zin.2 (by rw [x_u2_s]; simp) (by simp; omega) (hex.ui rfl) (h_Rw_c hR (fun c hc => by simp only [if_neg (show ¬ c = a from fun q => zs (by rw [← q]; exact hc))])) hS hP (fun J2 x1 x2 => ih (t + 1) (by omega) _ (N + 1) _ J2 x1 zA x2)

set_option maxRecDepth 100000 in
set_option maxHeartbeats 4000000 in
theorem l_X12_fb_o {K : x_K} {S : x_S} {P : x_P} {n : Nat} {Z : x_I} (J0 : x_J) (L : Nat → Nat → Option Nat) (m T : Nat) (hm : m ≤ 16) (hT6 : (Z 39 24).toInt = (T : Int)) (hT7 : T ≤ 6) (hmm : Z 39 28 = nI m) (hok : h_lok L m T) (r56 : ∀ k t, k < m → t < T → Z 56 (6 * k + t) = h_w (L k t)) (hS : x_hS S) (hP : x_hP P) (hK : ∀ (N : Nat) (I : x_I) (J : x_J), x_ex mB Z I J0 J → f_bm L m T N (J 59) (J 60) → K (some (.int (nI N))) S P I J n) :
    ∀ d k : Nat, k + d = m → ∀ (β : Nat → Nat) (N : Nat) (I : x_I) (J : x_J), x_ex mB Z I J0 J → h_A L T k 0 β N I → h_R0 L T k β J → x_V f_X12_findBits K 27 [some (.ref 39), some (.int (nI N)), some (.int (nI k)), none, none] [] S P I J n 0 0 := by
  intro d
  induction d with
  | zero =>
    intro k hd β N I J hex hA hR
    refine v_iload_n d_X12_findBits_27 rfl ?_
    refine v_aload_n d_X12_findBits_28 rfl ?_
    refine v_gie d_X12_findBits_29 lf_X12_241_12 rfl (hS _ _ rfl) ((hex.i 39 28 rfl).trans hmm) ?_
    refine w_icmp_ge d_X12_findBits_32 (fun h32 => ?_) (fun h32 => False.elim (by (try simp (disch := omega) only [x_ti, x_tm1] at h32); omega))
    refine v_iload_n d_X12_findBits_169 rfl ?_
    refine v_ret (v := some (.int _)) d_X12_findBits_170 rfl ⟨rfl, _, rfl, rfl⟩ (by decide) (by decide) ?_
    have e1 : k = m := by omega
    subst e1
    exact hK N I J hex (f_bm_of hok hT7 hm hA hR)
  | succ d ih =>
    intro k hd β N I J hex hA hR
    refine v_iload_n d_X12_findBits_27 rfl ?_
    refine v_aload_n d_X12_findBits_28 rfl ?_
    refine v_gie d_X12_findBits_29 lf_X12_241_12 rfl (hS _ _ rfl) ((hex.i 39 28 rfl).trans hmm) ?_
    refine w_icmp_ge d_X12_findBits_32 (fun h32 => False.elim (by (try simp (disch := omega) only [x_ti, x_tm1] at h32); omega)) (fun h32 => ?_)
    refine v_aload_n d_X12_findBits_35 rfl ?_
    refine v_gr d_X12_findBits_36 lf_X12_72_12 rfl (hS _ _ rfl) (hP _ _ _ rfl) ?_
    refine v_iload_n d_X12_findBits_39 rfl ?_
    refine v_lconst (v := 0) d_X12_findBits_40 rfl ?_
    refine v_last _ d_X12_findBits_41 (rfl) (hS _ _ rfl) (⟨by omega, by omega⟩) ?_
    refine v_aload_n d_X12_findBits_42 rfl ?_
    refine v_gr d_X12_findBits_43 lf_X12_76_12 rfl (hS _ _ rfl) (hP _ _ _ rfl) ?_
    refine v_iload_n d_X12_findBits_46 rfl ?_
    refine v_lconst (v := 0) d_X12_findBits_47 rfl ?_
    refine v_last _ d_X12_findBits_48 (rfl) (hS _ _ rfl) (⟨by omega, by omega⟩) ?_
    refine v_iconst (v := nI 0) d_X12_findBits_49 x_ic_0 ?_
    refine v_istore_n (ls' := [_, _, _, _, _]) d_X12_findBits_50 (by decide) rfl ?_
    refine l_X12_fb_i J0 L m T hm hT6 hT7 hmm hok r56 hS hP k (by omega) (fun β N I J hex hA hR => ?_) T 0 (by omega) β N I _ ((hex.uj rfl).uj rfl) hA (fun j b hj hb => ?_)
    · first | refine v_iinc (ls' := [_, _, _, _, _]) d_X12_findBits_163 rfl (x_inc_1 _) (by decide) rfl ?_ | refine v_iinc (ls' := [_, _, _, _, _]) d_X12_findBits_163 rfl rfl (by decide) rfl ?_
      refine v_goto d_X12_findBits_166 ?_
      refine x_V.fg1 3 (ls' := [_, _, _, _, _]) rfl ?_
      refine ih (k + 1) (by omega) β N I J hex ?_ (fun j b hj hb => ?_)
      · obtain ⟨a1, a2, a3, a4, a5⟩ := hA
        simp only [h_sn_k] at a1 a2 a3 a4
        exact ⟨a1, a2, a3, a4, by omega⟩
      · rw [hR j b (by omega) hb]
        exact ⟨fun ⟨u, a, q1, q2, q3, q4⟩ => ⟨u, a, q2, q3, q4⟩, fun ⟨u, a, q2, q3, q4⟩ => ⟨u, a, by omega, q2, q3, q4⟩⟩
    · by_cases e : j = k
      · subst e
        have e1 : x_u2 (x_u2 J 59 j 0) 60 j 0 59 j = 0 := by rw [x_u2_na _ _ _ _ (by decide), x_u2_s]
        rw [e1, x_u2_s]
        refine ⟨fun w => ?_, fun ⟨u, a, q1, _⟩ => by omega⟩
        unfold x_on at w
        rw [x_lb_0, x_lb_0] at w
        split at w <;> cases w
      · have e1 : x_u2 (x_u2 J 59 k 0) 60 k 0 59 j = J 59 j := by rw [x_u2_na _ _ _ _ (by decide), x_u2_nk _ _ _ _ e]
        have e2 : x_u2 (x_u2 J 59 k 0) 60 k 0 60 j = J 60 j := by rw [x_u2_nk _ _ _ _ e, x_u2_na _ _ _ _ (by decide)]
        rw [e1, e2, hR j b (by omega) hb]
        exact ⟨fun ⟨u, a, q2, q3, q4⟩ => ⟨u, a, by omega, q2, q3, q4⟩, fun ⟨u, a, q1, q2, q3, q4⟩ => ⟨u, a, q2, q3, q4⟩⟩

set_option maxRecDepth 100000 in
set_option maxHeartbeats 4000000 in
theorem l_X12_fb_w {K : x_K} {S : x_S} {P : x_P} {n : Nat} {I : x_I} {J : x_J} (hS : x_hS S) (hP : x_hP P) (hc : x_V f_X12_findBits K 27 [some (.ref 39), some (.int (nI 0)), some (.int (nI 0)), none, none] [] S P (x_fi I 61 0 3840 (-9)) J n 0 0) :
    ∀ d k : Nat, k + d = 3840 → x_V f_X12_findBits K 4 [some (.ref 39), some (.int (nI 0)), some (.int (nI k)), none, none] [] S P (x_fi I 61 0 k (-9)) J n 0 0 := by
  intro d
  induction d with
  | zero =>
    intro k hd
    refine v_iload_n d_X12_findBits_4 rfl ?_
    refine v_sipush (v := nI 3840) d_X12_findBits_5 x_sp_3840 ?_
    refine w_icmp_ge d_X12_findBits_8 (fun h8 => ?_) (fun h8 => False.elim (by (try simp (disch := omega) only [x_ti, x_tm1] at h8); omega))
    refine v_iconst (v := nI 0) d_X12_findBits_25 x_ic_0 ?_
    refine v_istore_n (ls' := [_, _, _, _, _]) d_X12_findBits_26 (by decide) rfl ?_
    have e1 : k = 3840 := by omega
    subst e1
    exact hc
  | succ d ih =>
    intro k hd
    refine v_iload_n d_X12_findBits_4 rfl ?_
    refine v_sipush (v := nI 3840) d_X12_findBits_5 x_sp_3840 ?_
    refine w_icmp_ge d_X12_findBits_8 (fun h8 => False.elim (by (try simp (disch := omega) only [x_ti, x_tm1] at h8); omega)) (fun h8 => ?_)
    refine v_aload_n d_X12_findBits_11 rfl ?_
    refine v_gr d_X12_findBits_12 lf_X12_79_12 rfl (hS _ _ rfl) (hP _ _ _ rfl) ?_
    refine v_iload_n d_X12_findBits_15 rfl ?_
    refine v_bipush (v := (-9)) d_X12_findBits_16 x_bp_m9 ?_
    refine v_iast _ d_X12_findBits_18 (rfl) (hS _ _ rfl) (⟨by omega, by omega⟩) ?_
    first | refine v_iinc (ls' := [_, _, _, _, _]) d_X12_findBits_19 rfl (x_inc_1 _) (by decide) rfl ?_ | refine v_iinc (ls' := [_, _, _, _, _]) d_X12_findBits_19 rfl rfl (by decide) rfl ?_
    refine v_goto d_X12_findBits_22 ?_
    rw [x_fi_s0]
    exact ih (k + 1) (by omega)

set_option maxRecDepth 100000 in
set_option maxHeartbeats 4000000 in
theorem t_X12_findBits {K : x_K} {S : x_S} {P : x_P} {I : x_I} {J : x_J} {n : Nat} (L : Nat → Nat → Option Nat) (m T : Nat) (hm : m ≤ 16) (hT6 : (I 39 24).toInt = (T : Int)) (hT7 : T ≤ 6) (hmm : I 39 28 = nI m) (hok : h_lok L m T) (r56 : ∀ k t, k < m → t < T → I 56 (6 * k + t) = h_w (L k t)) (hS : x_hS S) (hP : x_hP P) (hK : ∀ (N : Nat) (I' : x_I) (J' : x_J), x_ex mB I I' J J' → f_bm L m T N (J' 59) (J' 60) → K (some (.int (nI N))) S P I' J' n) : x_Call f_X12_findBits [.ref 39] K S P I J n := by
  refine x_intro (by decide) 4 (ls := [_, _, _, _, _]) rfl (Nat.le_of_ble_eq_true rfl) ?_
  refine v_iconst (v := nI 0) d_X12_findBits_0 x_ic_0 ?_
  refine v_istore_n (ls' := [_, _, _, _, _]) d_X12_findBits_1 (by decide) rfl ?_
  refine v_iconst (v := nI 0) d_X12_findBits_2 x_ic_0 ?_
  refine v_istore_n (ls' := [_, _, _, _, _]) d_X12_findBits_3 (by decide) rfl ?_
  have z0 : ∀ a, ¬ h_sn L T 0 0 a := fun a ⟨j, u, q1, q2, q3⟩ => by omega
  have hl := l_X12_fb_w (K := K) (n := n) (I := I) (J := J) hS hP ?_ 3840 0 (by omega)
  · rw [x_fi_0] at hl
    exact hl
  · exact l_X12_fb_o J L m T hm hT6 hT7 hmm hok r56 hS hP hK m 0 (by omega) (fun _ => 0) 0 (x_fi I 61 0 3840 (-9)) J (x_ex.fi x_ex.rf (fun _ => rfl)) ⟨fun a _ q => absurd q (z0 a), fun a ha _ => x_fi_in _ _ (Nat.zero_le _) (by omega), fun a c q => absurd q (z0 a), fun b hb => absurd hb (Nat.not_lt_zero _), by omega⟩ (fun j b hj => absurd hj (Nat.not_lt_zero _))

