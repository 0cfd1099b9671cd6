def mC (a _k : Nat) : Bool := Nat.beq a 58
def h_or (f : Nat → Int64) (R : Nat → Nat) : Nat → Int64
  | 0 => 0
  | k + 1 => h_or f R k ||| f (R k)
theorem h_or_b (f : Nat → Int64) (R : Nat → Nat) (b : Nat) : ∀ k, x_lb (h_or f R k) b = true ↔ ∃ i, i < k ∧ x_lb (f (R i)) b = true
  | 0 => by rw [h_or, x_lb_0]; exact ⟨fun z => (by cases z), fun ⟨i, h, _⟩ => absurd h (Nat.not_lt_zero _)⟩
  | k + 1 => by
    rw [h_or, x_lb_or, Bool.or_eq_true, h_or_b f R b k]
    constructor
    · intro w
      rcases w with ⟨i, i1, i2⟩ | w
      · exact ⟨i, by omega, i2⟩
      · exact ⟨k, by omega, w⟩
    · intro ⟨i, i1, i2⟩
      by_cases e : i = k
      · subst e; exact Or.inr i2
      · exact Or.inl ⟨i, by omega, i2⟩
theorem h_or_on (f g : Nat → Int64) (R : Nat → Nat) (b k : Nat) : x_on (h_or f R k) (h_or g R k) b = true ↔ ∃ i, i < k ∧ x_on (f (R i)) (g (R i)) b = true := by
  unfold x_on
  by_cases w : b < 64
  · simp only [if_pos w]; exact h_or_b f R b k
  · simp only [if_neg w]; exact h_or_b g R (b - 64) k
def h_v (R : Nat → Nat) : Nat → Nat
  | 0 => 0
  | k + 1 => 32 * h_v R k + R k
theorem h_v_cg {R Q : Nat → Nat} : ∀ k, (∀ i, i < k → R i = Q i) → h_v R k = h_v Q k
  | 0, _ => rfl
  | k + 1, h => by rw [h_v, h_v, h_v_cg k (fun i hi => h i (by omega)), h k (by omega)]
theorem h_v_lt {R : Nat → Nat} : ∀ k, (∀ i, i < k → R i < 16) → h_v R k < 32 ^ k
  | 0, _ => by simp [h_v]
  | k + 1, h => by
    have ih := h_v_lt k (fun i hi => h i (by omega))
    have := h k (by omega)
    rw [h_v, Nat.pow_succ]
    omega
theorem h_v_st {R Q : Nat → Nat} {x : Nat} (h1 : ∀ i, i < x → R i = Q i) (h2 : R x < Q x) : ∀ k, x < k → (∀ i, i < k → R i < 16) → h_v R k < h_v Q k
  | 0, h, _ => absurd h (Nat.not_lt_zero _)
  | k + 1, h, hr => by
    rw [h_v, h_v]
    by_cases e : x = k
    · subst e
      rw [h_v_cg x h1]; omega
    · have ih := h_v_st h1 h2 k (by omega) (fun i hi => hr i (by omega))
      have := hr k (by omega)
      omega

set_option maxRecDepth 100000 in
set_option maxHeartbeats 4000000 in
theorem l_ff_or {K : x_K} {S : x_S} {P : x_P} {n : Nat} {I : x_I} {J : x_J} (N q m : Nat) (R : Nat → Nat) (hq : q ≤ 16) (hm : m ≤ 16) (hr : f_row m q R) (r58 : (∀ i, i < q → I 58 i = nI (R i))) (hS : x_hS S) (hP : x_hP P) (hc : x_V f_X12_findFewest K 277 [some (.ref 39), some (.int (nI N)), some (.int (nI q)), some (.int (nI 1)), some (.long (h_or (J 59) R q)), none, some (.long (h_or (J 60) R q)), none, some (.int (nI q)), none, none] [] S P I J n 0 0) :
    ∀ d k : Nat, k + d = q → x_V f_X12_findFewest K 231 [some (.ref 39), some (.int (nI N)), some (.int (nI q)), some (.int (nI 1)), some (.long (h_or (J 59) R k)), none, some (.long (h_or (J 60) R k)), none, some (.int (nI k)), none, none] [] S P I J n 0 0 := by
  intro d
  induction d with
  | zero =>
    intro k hd
    refine v_iload d_X12_findFewest_231 rfl ?_
    refine v_iload_n d_X12_findFewest_233 rfl ?_
    refine w_icmp_ge d_X12_findFewest_234 (fun h234 => ?_) (fun h234 => False.elim (by (try simp (disch := omega) only [x_ti, x_tm1] at h234); omega))
    have e1 : k = q := by omega
    subst e1
    exact hc
  | succ d ih =>
    intro k hd
    refine v_iload d_X12_findFewest_231 rfl ?_
    refine v_iload_n d_X12_findFewest_233 rfl ?_
    refine w_icmp_ge d_X12_findFewest_234 (fun h234 => False.elim (by (try simp (disch := omega) only [x_ti, x_tm1] at h234); omega)) (fun h234 => ?_)
    refine v_lload d_X12_findFewest_237 rfl ?_
    refine v_aload_n d_X12_findFewest_239 rfl ?_
    refine v_gr d_X12_findFewest_240 lf_X12_72_12 rfl (hS _ _ rfl) (hP _ _ _ rfl) ?_
    refine v_aload_n d_X12_findFewest_243 rfl ?_
    refine v_gr d_X12_findFewest_244 lf_X12_69_12 rfl (hS _ _ rfl) (hP _ _ _ rfl) ?_
    refine v_iload d_X12_findFewest_247 rfl ?_
    refine v_iald _ d_X12_findFewest_249 (rfl) (hS _ _ rfl) (⟨by omega, by omega⟩) (r58 k (by omega)) ?_
    refine v_lald _ d_X12_findFewest_250 (rfl) (hS _ _ rfl) (⟨by have := hr.1 k (by omega); omega, by have := hr.1 k (by omega); omega⟩) (rfl) ?_
    refine v_lor d_X12_findFewest_251 ?_
    refine v_lstore (ls' := [_, _, _, _, _, _, _, _, _, _, _]) d_X12_findFewest_252 (by decide) rfl ?_
    refine v_lload d_X12_findFewest_254 rfl ?_
    refine v_aload_n d_X12_findFewest_256 rfl ?_
    refine v_gr d_X12_findFewest_257 lf_X12_76_12 rfl (hS _ _ rfl) (hP _ _ _ rfl) ?_
    refine v_aload_n d_X12_findFewest_260 rfl ?_
    refine v_gr d_X12_findFewest_261 lf_X12_69_12 rfl (hS _ _ rfl) (hP _ _ _ rfl) ?_
    refine v_iload d_X12_findFewest_264 rfl ?_
    refine v_iald _ d_X12_findFewest_266 (rfl) (hS _ _ rfl) (⟨by omega, by omega⟩) (r58 k (by omega)) ?_
    refine v_lald _ d_X12_findFewest_267 (rfl) (hS _ _ rfl) (⟨by have := hr.1 k (by omega); omega, by have := hr.1 k (by omega); omega⟩) (rfl) ?_
    refine v_lor d_X12_findFewest_268 ?_
    refine v_lstore (ls' := [_, _, _, _, _, _, _, _, _, _, _]) d_X12_findFewest_269 (by decide) rfl ?_
    first | refine v_iinc (ls' := [_, _, _, _, _, _, _, _, _, _, _]) d_X12_findFewest_271 rfl (x_inc_1 _) (by decide) rfl ?_ | refine v_iinc (ls' := [_, _, _, _, _, _, _, _, _, _, _]) d_X12_findFewest_271 rfl rfl (by decide) rfl ?_
    refine v_goto d_X12_findFewest_274 ?_
    exact ih (k + 1) (by omega)

set_option maxRecDepth 100000 in
set_option maxHeartbeats 4000000 in
theorem l_ff_all {K : x_K} {S : x_S} {P : x_P} {n : Nat} {I : x_I} {J : x_J} {lo hi : Int64} (N q : Nat) (hN : N ≤ 96) (hyes : (∀ b, b < N → x_on lo hi b = true) → x_V f_X12_findFewest K 311 [some (.ref 39), some (.int (nI N)), some (.int (nI q)), some (.int (nI 1)), some (.long lo), none, some (.long hi), none, some (.int (nI 1)), none, none] [] S P I J n 0 0) (hnot : ¬ (∀ b, b < N → x_on lo hi b = true) → x_V f_X12_findFewest K 311 [some (.ref 39), some (.int (nI N)), some (.int (nI q)), some (.int (nI 1)), some (.long lo), none, some (.long hi), none, some (.int (nI 0)), none, none] [] S P I J n 0 0) :
    ∀ d b : Nat, b + d = N → (∀ c, c < b → x_on lo hi c = true) → x_V f_X12_findFewest K 283 [some (.ref 39), some (.int (nI N)), some (.int (nI q)), some (.int (nI 1)), some (.long lo), none, some (.long hi), none, some (.int (nI 1)), some (.int (nI b)), none] [] S P I J n 0 0 := by
  intro d
  induction d with
  | zero =>
    intro b hd hb
    refine v_iload d_X12_findFewest_283 rfl ?_
    refine v_iload_n d_X12_findFewest_285 rfl ?_
    refine w_icmp_ge d_X12_findFewest_286 (fun h286 => ?_) (fun h286 => False.elim (by (try simp (disch := omega) only [x_ti, x_tm1] at h286); omega))
    refine x_V.fg1 9 (ls' := [_, _, _, _, _, _, _, _, _, _, _]) rfl ?_
    exact hyes (fun c hc => hb c (by omega))
  | succ d ih =>
    intro b hd hb
    refine v_iload d_X12_findFewest_283 rfl ?_
    refine v_iload_n d_X12_findFewest_285 rfl ?_
    refine w_icmp_ge d_X12_findFewest_286 (fun h286 => False.elim (by (try simp (disch := omega) only [x_ti, x_tm1] at h286); omega)) (fun h286 => ?_)
    refine v_iload d_X12_findFewest_289 rfl ?_
    refine w_if_eq d_X12_findFewest_291 (fun h291 => absurd h291 (by decide)) (fun _ => ?_)
    refine v_lload d_X12_findFewest_294 rfl ?_
    refine v_lload d_X12_findFewest_296 rfl ?_
    refine v_iload d_X12_findFewest_298 rfl ?_
    refine v_cs (as := [_, _, _]) (rest := []) d_X12_findFewest_300 ls_X12_250 rfl ⟨by decide, by decide⟩ rfl (Nat.le_of_ble_eq_true rfl) (by decide) (by decide) ?_
    refine t_X12_isOn b rfl (by omega) (fun zq => ?_) (fun zq => ?_)
    · refine v_istore (ls' := [_, _, _, _, _, _, _, _, _, _, _]) d_X12_findFewest_303 (by decide) rfl ?_
      first | refine v_iinc (ls' := [_, _, _, _, _, _, _, _, _, _, _]) d_X12_findFewest_305 rfl (x_inc_1 _) (by decide) rfl ?_ | refine v_iinc (ls' := [_, _, _, _, _, _, _, _, _, _, _]) d_X12_findFewest_305 rfl rfl (by decide) rfl ?_
      refine v_goto d_X12_findFewest_308 ?_
      first
        | (exact ih (b + 1) (by omega) (fun c hc => by
             by_cases e : c = b
             · subst e; exact zq
             · exact hb c (by omega)))
        | (refine v_iload d_X12_findFewest_283 rfl ?_
           refine v_iload_n d_X12_findFewest_285 rfl ?_
           refine w_icmp_ge d_X12_findFewest_286 (fun a286 => ?_) (fun a286 => ?_)
           · try simp (disch := omega) only [x_ti, x_tm1] at a286
             refine x_V.fg1 9 (ls' := [_, _, _, _, _, _, _, _, _, _, _]) rfl ?_
             exact hnot (fun w => zq (w b (by omega)))
           · try simp (disch := omega) only [x_ti, x_tm1] at a286
             refine v_iload d_X12_findFewest_289 rfl ?_
             refine w_if_eq d_X12_findFewest_291 (fun _ => ?_) (fun h291 => absurd h291 (by decide))
             refine x_V.fg1 9 (ls' := [_, _, _, _, _, _, _, _, _, _, _]) rfl ?_
             exact hnot (fun w => zq (w b (by omega))))
    · refine v_istore (ls' := [_, _, _, _, _, _, _, _, _, _, _]) d_X12_findFewest_303 (by decide) rfl ?_
      first | refine v_iinc (ls' := [_, _, _, _, _, _, _, _, _, _, _]) d_X12_findFewest_305 rfl (x_inc_1 _) (by decide) rfl ?_ | refine v_iinc (ls' := [_, _, _, _, _, _, _, _, _, _, _]) d_X12_findFewest_305 rfl rfl (by decide) rfl ?_
      refine v_goto d_X12_findFewest_308 ?_
      first
        | (exact ih (b + 1) (by omega) (fun c hc => by
             by_cases e : c = b
             · subst e; exact zq
             · exact hb c (by omega)))
        | (refine v_iload d_X12_findFewest_283 rfl ?_
           refine v_iload_n d_X12_findFewest_285 rfl ?_
           refine w_icmp_ge d_X12_findFewest_286 (fun a286 => ?_) (fun a286 => ?_)
           · try simp (disch := omega) only [x_ti, x_tm1] at a286
             refine x_V.fg1 9 (ls' := [_, _, _, _, _, _, _, _, _, _, _]) rfl ?_
             exact hnot (fun w => zq (w b (by omega)))
           · try simp (disch := omega) only [x_ti, x_tm1] at a286
             refine v_iload d_X12_findFewest_289 rfl ?_
             refine w_if_eq d_X12_findFewest_291 (fun _ => ?_) (fun h291 => absurd h291 (by decide))
             refine x_V.fg1 9 (ls' := [_, _, _, _, _, _, _, _, _, _, _]) rfl ?_
             exact hnot (fun w => zq (w b (by omega))))

set_option maxRecDepth 100000 in
set_option maxHeartbeats 4000000 in
theorem l_ff_dn {K : x_K} {S : x_S} {P : x_P} {n : Nat} {I : x_I} {J : x_J} {lo hi : Int64} (N q m : Nat) (R : Nat → Nat) (hq : q ≤ 16) (hm : m ≤ 16) (hr : f_row m q R) (hqm : q ≤ m) (hmm : I 39 28 = nI m) (r58 : (∀ i, i < q → I 58 i = nI (R i))) (hS : x_hS S) (hP : x_hP P) (hdo : ∀ x, x < q → ¬ R x = m - q + x → (∀ i, x < i → i < q → R i = m - q + i) → x_V f_X12_findFewest K 353 [some (.ref 39), some (.int (nI N)), some (.int (nI q)), some (.int (nI 1)), some (.long lo), none, some (.long hi), none, some (.int (nI 0)), some (.int (nI x)), none] [] S P I J n 0 0) (hend : (∀ i, i < q → R i = m - q + i) → x_V f_X12_findFewest K 353 [some (.ref 39), some (.int (nI N)), some (.int (nI q)), some (.int (nI 1)), some (.long lo), none, some (.long hi), none, some (.int (nI 0)), some (.int (-1)), none] [] S P I J n 0 0) :
    ∀ x : Nat, x < q → (∀ i, x < i → i < q → R i = m - q + i) → x_V f_X12_findFewest K 323 [some (.ref 39), some (.int (nI N)), some (.int (nI q)), some (.int (nI 1)), some (.long lo), none, some (.long hi), none, some (.int (nI 0)), some (.int (nI x)), none] [] S P I J n 0 0 := by
  intro x
  induction x with
  | zero =>
    intro hx ha
    have h16 := hr.1 0 hx
    refine v_iload d_X12_findFewest_323 rfl ?_
    refine w_if_lt d_X12_findFewest_325 (fun a325 => False.elim (by rw [x_ti (by omega)] at a325; omega)) (fun a325 => ?_)
    refine v_aload_n d_X12_findFewest_328 rfl ?_
    refine v_gr d_X12_findFewest_329 lf_X12_69_12 rfl (hS _ _ rfl) (hP _ _ _ rfl) ?_
    refine v_iload d_X12_findFewest_332 rfl ?_
    refine v_iald _ d_X12_findFewest_334 (rfl) (hS _ _ rfl) (⟨by omega, by omega⟩) (r58 0 (by omega)) ?_
    refine v_aload_n d_X12_findFewest_335 rfl ?_
    refine v_gie d_X12_findFewest_336 lf_X12_241_12 rfl (hS _ _ rfl) (hmm) ?_
    refine v_iload_n d_X12_findFewest_339 rfl ?_
    refine v_isub d_X12_findFewest_340 ?_
    rw [x_subN (by omega)]
    refine v_iload d_X12_findFewest_341 rfl ?_
    refine v_iaddN d_X12_findFewest_343 ?_
    refine w_icmp_ne d_X12_findFewest_344 (fun a344 => ?_) (fun a344 => ?_)
    · try simp (disch := omega) only [x_ti, x_tm1] at a344
      exact hdo 0 (by omega) (by have h16 := hr.1 0 (by omega); omega) ha
    · try simp (disch := omega) only [x_ti, x_tm1] at a344
      refine v_iinc (ls' := [_, _, _, _, _, _, _, _, _, _, _]) d_X12_findFewest_347 rfl (rfl) (by decide) rfl ?_
      refine v_goto d_X12_findFewest_350 ?_
      show x_V f_X12_findFewest K 323 [some (.ref 39), some (.int (nI N)), some (.int (nI q)), some (.int (nI 1)), some (.long lo), none, some (.long hi), none, some (.int (nI 0)), some (.int (-1)), none] [] S P I J n 0 0
      refine v_iload d_X12_findFewest_323 rfl ?_
      refine w_if_lt d_X12_findFewest_325 (fun a325 => ?_) (fun a325 => False.elim (by exact absurd a325 (by decide)))
      refine hend (fun i hi => ?_)
      by_cases e : i = 0
      · subst e; omega
      · exact ha i (by omega) hi
  | succ x ih =>
    intro hx ha
    have h16 := hr.1 (x + 1) hx
    refine v_iload d_X12_findFewest_323 rfl ?_
    refine w_if_lt d_X12_findFewest_325 (fun a325 => False.elim (by rw [x_ti (by omega)] at a325; omega)) (fun a325 => ?_)
    refine v_aload_n d_X12_findFewest_328 rfl ?_
    refine v_gr d_X12_findFewest_329 lf_X12_69_12 rfl (hS _ _ rfl) (hP _ _ _ rfl) ?_
    refine v_iload d_X12_findFewest_332 rfl ?_
    refine v_iald _ d_X12_findFewest_334 (rfl) (hS _ _ rfl) (⟨by omega, by omega⟩) (r58 (x + 1) (by omega)) ?_
    refine v_aload_n d_X12_findFewest_335 rfl ?_
    refine v_gie d_X12_findFewest_336 lf_X12_241_12 rfl (hS _ _ rfl) (hmm) ?_
    refine v_iload_n d_X12_findFewest_339 rfl ?_
    refine v_isub d_X12_findFewest_340 ?_
    rw [x_subN (by omega)]
    refine v_iload d_X12_findFewest_341 rfl ?_
    refine v_iaddN d_X12_findFewest_343 ?_
    refine w_icmp_ne d_X12_findFewest_344 (fun a344 => ?_) (fun a344 => ?_)
    · try simp (disch := omega) only [x_ti, x_tm1] at a344
      exact hdo (x + 1) (by omega) (by have h16 := hr.1 x (by omega); omega) ha
    · try simp (disch := omega) only [x_ti, x_tm1] at a344
      refine v_iinc (ls' := [_, _, _, _, _, _, _, _, _, _, _]) d_X12_findFewest_347 rfl (x_dec x) (by decide) rfl ?_
      refine v_goto d_X12_findFewest_350 ?_
      refine ih (by omega) (fun i h1 h2 => ?_)
      by_cases e : i = x + 1
      · subst e; omega
      · exact ha i (by omega) h2

set_option maxRecDepth 100000 in
set_option maxHeartbeats 4000000 in
theorem l_ff_up {K : x_K} {S : x_S} {P : x_P} {n : Nat} {I0 : x_I} {J : x_J} {lo hi : Int64} (N q x : Nat) (Q : Nat → Nat) (hq : q ≤ 16) (hQ : ∀ i, x < i → i < q → Q i = Q (i - 1) + 1) (hS : x_hS S) (hP : x_hP P) (hc : ∀ I : x_I, x_ex mC I0 I J J → (∀ i, i < q → I 58 i = nI (Q i)) → x_V f_X12_findFewest K 218 [some (.ref 39), some (.int (nI N)), some (.int (nI q)), some (.int (nI 1)), some (.long lo), none, some (.long hi), none, some (.int (nI 0)), some (.int (nI x)), some (.int (nI q))] [] S P I J n 0 0) :
    ∀ d k : Nat, k + d = q → x < k → ∀ I : x_I, x_ex mC I0 I J J → (∀ i, i < k → I 58 i = nI (Q i)) → x_V f_X12_findFewest K 385 [some (.ref 39), some (.int (nI N)), some (.int (nI q)), some (.int (nI 1)), some (.long lo), none, some (.long hi), none, some (.int (nI 0)), some (.int (nI x)), some (.int (nI k))] [] S P I J n 0 0 := by
  intro d
  induction d with
  | zero =>
    intro k hd hx I hexC h58
    have e1 : k = q := by omega
    subst e1
    refine v_iload d_X12_findFewest_385 rfl ?_
    refine v_iload_n d_X12_findFewest_387 rfl ?_
    refine w_icmp_ge d_X12_findFewest_388 (fun h388 => ?_) (fun h388 => False.elim (by (try simp (disch := omega) only [x_ti, x_tm1] at h388); omega))
    refine v_goto d_X12_findFewest_415 ?_
    exact hc I hexC (fun i hi => h58 i (by omega))
  | succ d ih =>
    intro k hd hx I hexC h58
    refine v_iload d_X12_findFewest_385 rfl ?_
    refine v_iload_n d_X12_findFewest_387 rfl ?_
    refine w_icmp_ge d_X12_findFewest_388 (fun h388 => False.elim (by (try simp (disch := omega) only [x_ti, x_tm1] at h388); omega)) (fun h388 => ?_)
    refine v_aload_n d_X12_findFewest_391 rfl ?_
    refine v_gr d_X12_findFewest_392 lf_X12_69_12 rfl (hS _ _ rfl) (hP _ _ _ rfl) ?_
    refine v_iload d_X12_findFewest_395 rfl ?_
    refine v_aload_n d_X12_findFewest_397 rfl ?_
    refine v_gr d_X12_findFewest_398 lf_X12_69_12 rfl (hS _ _ rfl) (hP _ _ _ rfl) ?_
    refine v_iload d_X12_findFewest_401 rfl ?_
    refine v_iconst (v := nI 1) d_X12_findFewest_403 x_ic_1 ?_
    refine v_isub d_X12_findFewest_404 ?_
    rw [x_subN (show 1 ≤ k by omega)]
    refine v_iald _ d_X12_findFewest_405 (rfl) (hS _ _ rfl) (⟨by omega, by omega⟩) (h58 (k - 1) (by omega)) ?_
    refine v_iconst (v := nI 1) d_X12_findFewest_406 x_ic_1 ?_
    refine v_iaddN d_X12_findFewest_407 ?_
    refine v_iast _ d_X12_findFewest_408 (rfl) (hS _ _ rfl) (⟨by omega, by omega⟩) ?_
    first | refine v_iinc (ls' := [_, _, _, _, _, _, _, _, _, _, _]) d_X12_findFewest_409 rfl (x_inc_1 _) (by decide) rfl ?_ | refine v_iinc (ls' := [_, _, _, _, _, _, _, _, _, _, _]) d_X12_findFewest_409 rfl rfl (by decide) rfl ?_
    refine v_goto d_X12_findFewest_412 ?_
    refine ih (k + 1) (by omega) (by omega) _ (hexC.ui rfl) (fun i hi => ?_)
    rw [x_u2_at]
    by_cases e : i = k
    · subst e; rw [if_pos ⟨rfl, rfl⟩, hQ i (by omega) (by omega)]
    · rw [if_neg (fun z => e z.2)]; exact h58 i (by omega)

