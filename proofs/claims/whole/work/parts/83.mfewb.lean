set_option maxRecDepth 100000 in
set_option maxHeartbeats 4000000 in
theorem l_ff_wh {K : x_K} {S : x_S} {P : x_P} {n : Nat} {I0 : x_I} {J : x_J} (L : Nat → Nat → Option Nat) (N q m T : Nat) (hm : m ≤ 16) (hqm : q ≤ m) (hmm : I0 39 28 = nI m) (hbm : f_bm L m T N (J 59) (J 60)) (hS : x_hS S) (hP : x_hP P) (hyes : ∀ (I : x_I) (R : Nat → Nat), x_ex mC I0 I J J → (∀ i, i < q → I 58 i = nI (R i)) → f_row m q R → (∀ C, f_row m q C → f_cov L m T q C → ¬ f_lt q C R) → f_cov L m T q R → K (some (.int (nI q))) S P I J n) (hno : ∀ I : x_I, x_ex mC I0 I J J → (∀ C, f_row m q C → ¬ f_cov L m T q C) → x_V f_X12_findFewest K 418 [some (.ref 39), some (.int (nI N)), some (.int (nI q)), some (.int (nI 0)), none, none, none, none, none, none, none] [] S P I J n 0 0) :
    ∀ (d : Nat) (R : Nat → Nat) (I : x_I), 32 ^ q ≤ h_v R q + d → x_ex mC I0 I J J → (∀ i, i < q → I 58 i = nI (R i)) → f_row m q R → (∀ C, f_row m q C → f_cov L m T q C → ¬ f_lt q C R) → x_V f_X12_findFewest K 218 [some (.ref 39), some (.int (nI N)), some (.int (nI q)), some (.int (nI 1)), none, none, none, none, none, none, none] [] S P I J n 0 0 := by
  intro d
  induction d with
  | zero =>
    intro R I hd hex r58 hr hall
    have := h_v_lt (R := R) q (fun i hi => by have := hr.1 i hi; omega)
    omega
  | succ d ih =>
    intro R I hd hex r58 hr hall
    refine v_iload_n d_X12_findFewest_218 rfl ?_
    refine w_if_eq d_X12_findFewest_219 (fun h219 => absurd h219 (by decide)) (fun _ => ?_)
    refine v_lconst (v := 0) d_X12_findFewest_222 rfl ?_
    refine v_lstore (ls' := [_, _, _, _, _, _, _, _, _, _, _]) d_X12_findFewest_223 (by decide) rfl ?_
    refine v_lconst (v := 0) d_X12_findFewest_225 rfl ?_
    refine v_lstore (ls' := [_, _, _, _, _, _, _, _, _, _, _]) d_X12_findFewest_226 (by decide) rfl ?_
    refine v_iconst (v := nI 0) d_X12_findFewest_228 x_ic_0 ?_
    refine v_istore (ls' := [_, _, _, _, _, _, _, _, _, _, _]) d_X12_findFewest_229 (by decide) rfl ?_
    refine l_ff_or N q m R (by omega) hm hr r58 hS hP ?_ q 0 (by omega)
    refine v_iconst (v := nI 1) d_X12_findFewest_277 x_ic_1 ?_
    refine v_istore (ls' := [_, _, _, _, _, _, _, _, _, _, _]) d_X12_findFewest_278 (by decide) rfl ?_
    refine v_iconst (v := nI 0) d_X12_findFewest_280 x_ic_0 ?_
    refine v_istore (ls' := [_, _, _, _, _, _, _, _, _, _, _]) d_X12_findFewest_281 (by decide) rfl ?_
    refine l_ff_all N q hbm.1 (fun zall => ?_) (fun znall => ?_) N 0 (by omega) (fun c hc => absurd hc (Nat.not_lt_zero _))
    · refine v_iload d_X12_findFewest_311 rfl ?_
      refine w_if_eq d_X12_findFewest_313 (fun h313 => absurd h313 (by decide)) (fun _ => ?_)
      refine v_iload_n d_X12_findFewest_316 rfl ?_
      refine v_ret (v := some (.int _)) d_X12_findFewest_317 rfl ⟨rfl, _, rfl, rfl⟩ (by decide) (by decide) ?_
      exact hyes I R hex r58 hr hall ((hbm.2 q R hr.1).mpr (fun b hb => (h_or_on (J 59) (J 60) R b q).mp (zall b hb)))
    · have znc : ¬ f_cov L m T q R := fun w => znall (fun b hb => (h_or_on (J 59) (J 60) R b q).mpr ((hbm.2 q R hr.1).mp w b hb))
      refine v_iload d_X12_findFewest_311 rfl ?_
      refine w_if_eq d_X12_findFewest_313 (fun _ => ?_) (fun h313 => absurd h313 (by decide))
      refine v_iload_n d_X12_findFewest_318 rfl ?_
      refine v_iconst (v := nI 1) d_X12_findFewest_319 x_ic_1 ?_
      refine v_isub d_X12_findFewest_320 ?_
      refine v_istore (ls' := [_, _, _, _, _, _, _, _, _, _, _]) d_X12_findFewest_321 (by decide) rfl ?_
      by_cases zq0 : q = 0
      · subst zq0
        rw [show nI 0 - nI 1 = -1 by decide]
        refine v_iload d_X12_findFewest_323 rfl ?_
        refine w_if_lt d_X12_findFewest_325 (fun a325 => ?_) (fun a325 => False.elim (by exact absurd a325 (by decide)))
        have za : ∀ i, i < 0 → R i = m - 0 + i := fun i hi => absurd hi (Nat.not_lt_zero _)
        refine v_iload d_X12_findFewest_353 rfl ?_
        refine w_if_lt d_X12_findFewest_355 (fun a355 => ?_) (fun a355 => False.elim (by exact absurd a355 (by decide)))
        refine v_iconst (v := nI 0) d_X12_findFewest_362 x_ic_0 ?_
        refine v_istore_n (ls' := [_, _, _, _, _, _, _, _, _, _, _]) d_X12_findFewest_363 (by decide) rfl ?_
        refine v_iload_n d_X12_findFewest_364 rfl ?_
        refine w_if_eq d_X12_findFewest_365 (fun _ => ?_) (fun h365 => absurd h365 (by decide))
        refine v_goto d_X12_findFewest_415 ?_
        refine v_iload_n d_X12_findFewest_218 rfl ?_
        refine w_if_eq d_X12_findFewest_219 (fun _ => ?_) (fun h219 => absurd h219 (by decide))
        refine x_V.fg1 4 (ls' := [_, _, _, _, _, _, _, _, _, _, _]) rfl ?_
        refine x_V.fg1 6 (ls' := [_, _, _, _, _, _, _, _, _, _, _]) rfl ?_
        refine x_V.fg1 8 (ls' := [_, _, _, _, _, _, _, _, _, _, _]) rfl ?_
        refine x_V.fg1 9 (ls' := [_, _, _, _, _, _, _, _, _, _, _]) rfl ?_
        exact hno I hex (f_lastrow hqm za znc hall)
      · rw [x_subN (show 1 ≤ q by omega)]
        refine l_ff_dn N q m R (by omega) hm hr hqm (hex.i 39 28 rfl |>.trans hmm) r58 hS hP (fun x zx zne za => ?_) (fun za => ?_) (q - 1) (by omega) (fun i h1 h2 => by omega)
        · refine v_iload d_X12_findFewest_353 rfl ?_
          refine w_if_lt d_X12_findFewest_355 (fun a355 => False.elim (by rw [x_ti (by omega)] at a355; omega)) (fun a355 => ?_)
          refine v_iconst (v := nI 1) d_X12_findFewest_358 x_ic_1 ?_
          refine v_goto d_X12_findFewest_359 ?_
          refine v_istore_n (ls' := [_, _, _, _, _, _, _, _, _, _, _]) d_X12_findFewest_363 (by decide) rfl ?_
          refine v_iload_n d_X12_findFewest_364 rfl ?_
          refine w_if_eq d_X12_findFewest_365 (fun h365 => absurd h365 (by decide)) (fun _ => ?_)
          refine v_aload_n d_X12_findFewest_368 rfl ?_
          refine v_gr d_X12_findFewest_369 lf_X12_69_12 rfl (hS _ _ rfl) (hP _ _ _ rfl) ?_
          refine v_iload d_X12_findFewest_372 rfl ?_
          refine v_dup2 d_X12_findFewest_374 rfl rfl ?_
          refine v_iald _ d_X12_findFewest_375 (rfl) (hS _ _ rfl) (⟨by omega, by omega⟩) (r58 x zx) ?_
          refine v_iconst (v := nI 1) d_X12_findFewest_376 x_ic_1 ?_
          refine v_iaddN d_X12_findFewest_377 ?_
          refine v_iast _ d_X12_findFewest_378 (rfl) (hS _ _ rfl) (⟨by omega, by omega⟩) ?_
          refine v_iload d_X12_findFewest_379 rfl ?_
          refine v_iconst (v := nI 1) d_X12_findFewest_381 x_ic_1 ?_
          refine v_iaddN d_X12_findFewest_382 ?_
          refine v_istore (ls' := [_, _, _, _, _, _, _, _, _, _, _]) d_X12_findFewest_383 (by decide) rfl ?_
          have zRx : R x + (q - 1 - x) < m := f_row_le hr (q - 1 - x) x (by omega)
          have zlt : R x < m - q + x := by omega
          have zQx : (fun i => if i < x then R i else R x + 1 + (i - x)) x = R x + 1 := by simp
          have zQl : ∀ i, i < x → (fun i => if i < x then R i else R x + 1 + (i - x)) i = R i := fun i hi => if_pos hi
          have zQg : ∀ i, x ≤ i → (fun i => if i < x then R i else R x + 1 + (i - x)) i = R x + 1 + (i - x) := fun i hi => if_neg (by omega)
          have zQ3 : ∀ i, x < i → i < q → (fun i => if i < x then R i else R x + 1 + (i - x)) i = (fun i => if i < x then R i else R x + 1 + (i - x)) (i - 1) + 1 := fun i h1 h2 => by rw [zQg i (by omega), zQg (i - 1) (by omega)]; omega
          have zrow : f_row m q (fun i => if i < x then R i else R x + 1 + (i - x)) := by
            refine ⟨fun i hi => ?_, fun i j hij hj => ?_⟩
            · by_cases w : i < x
              · rw [zQl i w]; exact hr.1 i hi
              · rw [zQg i (by omega)]; omega
            · by_cases w : j < x
              · rw [zQl i (by omega), zQl j w]; exact hr.2 i j hij hj
              · rw [zQg j (by omega)]
                by_cases v : i < x
                · rw [zQl i v]
                  have := hr.2 i x v zx
                  omega
                · rw [zQg i (by omega)]; omega
          have znext := f_next hqm zx zQl zQx zQ3 za znc hall
          have zv := h_v_st (R := R) (Q := (fun i => if i < x then R i else R x + 1 + (i - x))) (x := x) (fun i hi => (zQl i hi).symm) (by show R x < (fun i => if i < x then R i else R x + 1 + (i - x)) x; rw [zQx]; omega) q zx (fun i hi => by have := hr.1 i hi; omega)
          refine l_ff_up N q x (fun i => if i < x then R i else R x + 1 + (i - x)) (by omega) zQ3 hS hP (I0 := I0) ?_ (q - (x + 1)) (x + 1) (by omega) (by omega) _ (hex.ui rfl) (fun i hi => ?_)
          · intro I2 hex2 h58
            refine x_V.fg1 4 (ls' := [_, _, _, _, _, _, _, _, _, _, _]) rfl ?_
            refine x_V.fg1 6 (ls' := [_, _, _, _, _, _, _, _, _, _, _]) rfl ?_
            refine x_V.fg1 8 (ls' := [_, _, _, _, _, _, _, _, _, _, _]) rfl ?_
            refine x_V.fg1 9 (ls' := [_, _, _, _, _, _, _, _, _, _, _]) rfl ?_
            refine x_V.fg1 10 (ls' := [_, _, _, _, _, _, _, _, _, _, _]) rfl ?_
            exact ih (fun i => if i < x then R i else R x + 1 + (i - x)) I2 (by omega) hex2 h58 zrow znext
          · rw [x_u2_at]
            by_cases e : i = x
            · subst e; rw [if_pos ⟨rfl, rfl⟩]; exact congrArg nI zQx.symm
            · rw [if_neg (fun z => e z.2)]; exact (r58 i (by omega)).trans (congrArg nI (zQl i (by omega)).symm)
        · refine v_iload d_X12_findFewest_353 rfl ?_
          refine w_if_lt d_X12_findFewest_355 (fun a355 => ?_) (fun a355 => False.elim (by exact absurd a355 (by decide)))
          refine v_iconst (v := nI 0) d_X12_findFewest_362 x_ic_0 ?_
          refine v_istore_n (ls' := [_, _, _, _, _, _, _, _, _, _, _]) d_X12_findFewest_363 (by decide) rfl ?_
          refine v_iload_n d_X12_findFewest_364 rfl ?_
          refine w_if_eq d_X12_findFewest_365 (fun _ => ?_) (fun h365 => absurd h365 (by decide))
          refine v_goto d_X12_findFewest_415 ?_
          refine v_iload_n d_X12_findFewest_218 rfl ?_
          refine w_if_eq d_X12_findFewest_219 (fun _ => ?_) (fun h219 => absurd h219 (by decide))
          refine x_V.fg1 4 (ls' := [_, _, _, _, _, _, _, _, _, _, _]) rfl ?_
          refine x_V.fg1 6 (ls' := [_, _, _, _, _, _, _, _, _, _, _]) rfl ?_
          refine x_V.fg1 8 (ls' := [_, _, _, _, _, _, _, _, _, _, _]) rfl ?_
          refine x_V.fg1 9 (ls' := [_, _, _, _, _, _, _, _, _, _, _]) rfl ?_
          exact hno I hex (f_lastrow hqm za znc hall)

set_option maxRecDepth 100000 in
set_option maxHeartbeats 4000000 in
theorem l_ff_in {K : x_K} {S : x_S} {P : x_P} {n : Nat} {I0 : x_I} {J : x_J} (N q : Nat) (hq : q ≤ 16) (hS : x_hS S) (hP : x_hP P) (hc : ∀ I : x_I, x_ex mC I0 I J J → (∀ i, i < q → I 58 i = nI i) → x_V f_X12_findFewest K 218 [some (.ref 39), some (.int (nI N)), some (.int (nI q)), some (.int (nI 1)), none, none, none, none, none, none, none] [] S P I J n 0 0) :
    ∀ d k : Nat, k + d = q → ∀ I : x_I, x_ex mC I0 I J J → (∀ i, i < k → I 58 i = nI i) → x_V f_X12_findFewest K 198 [some (.ref 39), some (.int (nI N)), some (.int (nI q)), some (.int (nI k)), none, none, none, none, none, none, none] [] S P I J n 0 0 := by
  intro d
  induction d with
  | zero =>
    intro k hd I hex r58
    refine v_iload_n d_X12_findFewest_198 rfl ?_
    refine v_iload_n d_X12_findFewest_199 rfl ?_
    refine w_icmp_ge d_X12_findFewest_200 (fun h200 => ?_) (fun h200 => False.elim (by (try simp (disch := omega) only [x_ti, x_tm1] at h200); omega))
    refine v_iconst (v := nI 1) d_X12_findFewest_216 x_ic_1 ?_
    refine v_istore_n (ls' := [_, _, _, _, _, _, _, _, _, _, _]) d_X12_findFewest_217 (by decide) rfl ?_
    have e1 : k = q := by omega
    subst e1
    exact hc I hex r58
  | succ d ih =>
    intro k hd I hex r58
    refine v_iload_n d_X12_findFewest_198 rfl ?_
    refine v_iload_n d_X12_findFewest_199 rfl ?_
    refine w_icmp_ge d_X12_findFewest_200 (fun h200 => False.elim (by (try simp (disch := omega) only [x_ti, x_tm1] at h200); omega)) (fun h200 => ?_)
    refine v_aload_n d_X12_findFewest_203 rfl ?_
    refine v_gr d_X12_findFewest_204 lf_X12_69_12 rfl (hS _ _ rfl) (hP _ _ _ rfl) ?_
    refine v_iload_n d_X12_findFewest_207 rfl ?_
    refine v_iload_n d_X12_findFewest_208 rfl ?_
    refine v_iast _ d_X12_findFewest_209 (rfl) (hS _ _ rfl) (⟨by omega, by omega⟩) ?_
    first | refine v_iinc (ls' := [_, _, _, _, _, _, _, _, _, _, _]) d_X12_findFewest_210 rfl (x_inc_1 _) (by decide) rfl ?_ | refine v_iinc (ls' := [_, _, _, _, _, _, _, _, _, _, _]) d_X12_findFewest_210 rfl rfl (by decide) rfl ?_
    refine v_goto d_X12_findFewest_213 ?_
    refine ih (k + 1) (by omega) _ (hex.ui rfl) (fun i hi => ?_)
    rw [x_u2_at]
    by_cases e : i = k
    · subst e; rw [if_pos ⟨rfl, rfl⟩]
    · rw [if_neg (fun z => e z.2)]; exact r58 i (by omega)

set_option maxRecDepth 100000 in
set_option maxHeartbeats 4000000 in
theorem l_ff_sz {K : x_K} {S : x_S} {P : x_P} {n : Nat} {I0 : x_I} {J : x_J} (L : Nat → Nat → Option Nat) (N m T : Nat) (hm : m ≤ 16) (hmm : I0 39 28 = nI m) (hbm : f_bm L m T N (J 59) (J 60)) (hS : x_hS S) (hP : x_hP P) (hK : ∀ (q : Nat) (I : x_I) (R : Nat → Nat), x_ex mC I0 I J J → (∀ i, i < q → I 58 i = nI (R i)) → f_least L m T q R → q ≤ m → K (some (.int (nI q))) S P I J n) :
    ∀ d q : Nat, q + d = m + 1 → ∀ I : x_I, x_ex mC I0 I J J → (∀ q', q' < q → ∀ C, f_row m q' C → ¬ f_cov L m T q' C) → x_V f_X12_findFewest K 188 [some (.ref 39), some (.int (nI N)), some (.int (nI q)), none, none, none, none, none, none, none, none] [] S P I J n 0 0 := by
  intro d
  induction d with
  | zero =>
    intro q hd I hex hsm
    exact absurd (fun k t hk ht hl => ⟨k, hk, rfl⟩) (hsm m (by omega) (fun i => i) ⟨fun i hi => hi, fun i j h1 h2 => h1⟩)
  | succ d ih =>
    intro q hd I hex hsm
    refine v_iload_n d_X12_findFewest_188 rfl ?_
    refine v_aload_n d_X12_findFewest_189 rfl ?_
    refine v_gie d_X12_findFewest_190 lf_X12_241_12 rfl (hS _ _ rfl) ((hex.i 39 28 rfl).trans hmm) ?_
    refine w_icmp_gt d_X12_findFewest_193 (fun h193 => False.elim (by (try simp (disch := omega) only [x_ti, x_tm1] at h193); omega)) (fun h193 => ?_)
    refine v_iconst (v := nI 0) d_X12_findFewest_196 x_ic_0 ?_
    refine v_istore_n (ls' := [_, _, _, _, _, _, _, _, _, _, _]) d_X12_findFewest_197 (by decide) rfl ?_
    refine l_ff_in N q (by omega) hS hP (I0 := I0) (fun I hex r58 => ?_) q 0 (by omega) I hex (fun i hi => absurd hi (Nat.not_lt_zero _))
    refine l_ff_wh L N q m T hm (by omega) hmm hbm hS hP (fun I R hex r58 hr hall hcv => hK q I R hex r58 ⟨hr, hcv, hsm, hall⟩ (by omega)) (fun I hex hnone => ?_) (32 ^ q) (fun i => i) I (by omega) hex r58 ⟨fun i hi => show i < m by omega, fun i j h1 h2 => h1⟩ (fun C hC _ ⟨i, i1, i2, i3⟩ => by have zz := f_row_ge hC 0 i (by omega); rw [Nat.zero_add] at zz; have i3 : C i < i := i3; omega)
    first | refine v_iinc (ls' := [_, _, _, _, _, _, _, _, _, _, _]) d_X12_findFewest_418 rfl (x_inc_1 _) (by decide) rfl ?_ | refine v_iinc (ls' := [_, _, _, _, _, _, _, _, _, _, _]) d_X12_findFewest_418 rfl rfl (by decide) rfl ?_
    refine v_goto d_X12_findFewest_421 ?_
    refine x_V.fg1 3 (ls' := [_, _, _, _, _, _, _, _, _, _, _]) rfl ?_
    refine ih (q + 1) (by omega) I hex (fun q' hq' C hC => ?_)
    by_cases e : q' = q
    · subst e; exact hnone C hC
    · exact hsm q' (by omega) C hC

