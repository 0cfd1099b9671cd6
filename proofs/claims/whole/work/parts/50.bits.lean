theorem x_sh {m c : Nat} (hm : m < 2147483648) (hc : c < 32) : nI m >>> (nI c &&& 31) &&& nI 1 = nI (m / 2 ^ c % 2) := by
  apply Int32.toBitVec_inj.1
  have h1 : (nI c &&& 31 : Int32).toBitVec.smod 32 = BitVec.ofNat 32 c := by
    have : ∀ c : Fin 32, (nI c.1 &&& 31 : Int32).toBitVec.smod 32 = BitVec.ofNat 32 c.1 := by decide
    exact this ⟨c, hc⟩
  have h2 : (nI c &&& 31 : Int32) = nI c := by
    have : ∀ c : Fin 32, (nI c.1 &&& 31 : Int32) = nI c.1 := by decide
    exact this ⟨c, hc⟩
  apply BitVec.eq_of_toNat_eq
  rw [Int32.toBitVec_and, Int32.toBitVec_shiftRight, h1, BitVec.toNat_and]
  have h3 : (nI 1).toBitVec.toNat = 1 := by decide
  have h4 : (nI m).toBitVec = BitVec.ofNat 32 m := rfl
  have h5 : (BitVec.ofNat 32 m).msb = false := by
    rw [BitVec.msb_eq_decide, BitVec.toNat_ofNat]
    exact decide_eq_false (by omega)
  rw [h3, h4, BitVec.sshiftRight_eq', BitVec.sshiftRight_eq_of_msb_false h5, BitVec.toNat_ushiftRight, BitVec.toNat_ofNat, BitVec.toNat_ofNat, Nat.mod_eq_of_lt (show m < 2 ^ 32 by omega), Nat.mod_eq_of_lt (show c < 2 ^ 32 by omega), Nat.and_one_is_mod, Nat.shiftRight_eq_div_pow]
  show _ = (BitVec.ofNat 32 _).toNat
  rw [BitVec.toNat_ofNat]
  exact (Nat.mod_eq_of_lt (by have := Nat.mod_lt (m / 2 ^ c) (show 0 < 2 by decide); omega)).symm

def f_bi (m k : Nat) : Nat := m / 2 ^ k % 2
theorem f_bi_le (m k : Nat) : f_bi m k ≤ 1 := by unfold f_bi; omega
def f_sz (m : Nat) : Nat := x_sm (fun k => f_bi m (k + 1)) 9
def f_ds (c i : Nat) : Nat := (c - i) + (i - c)
def f_d (m c : Nat) : Nat → Nat
  | 0 => 10
  | k + 1 => if f_bi m (k + 1) = 1 ∧ f_ds c (k + 1) < f_d m c k then f_ds c (k + 1) else f_d m c k
theorem f_d_le (m c : Nat) : ∀ k, f_d m c k ≤ 10
  | 0 => Nat.le_refl _
  | k + 1 => by have := f_d_le m c k; rw [f_d]; split <;> omega
def f_su (of : Nat → Nat) (m : Nat) : Nat → Nat := x_sm (fun k => f_d m (k + 1) 9 * of (k + 1))
def f_of (Z : x_I) (c : Nat) : Nat := x_ct (fun k => decide ((Z 44 k).toInt = (c : Int))) 256
def f_up (o : Option (Nat × Nat)) (v : Nat × Nat) : Option (Nat × Nat) := match o with
  | none => some v
  | some w => if v.2 < w.2 then some v else some w
def f_be (of : Nat → Nat) (q : Nat) : Nat → Option (Nat × Nat)
  | 0 => none
  | k + 1 => if f_sz (2 * (k + 1)) = q then f_up (f_be of q k) (2 * (k + 1), f_su of (2 * (k + 1)) 9) else f_be of q k
theorem f_su_le {of : Nat → Nat} {m : Nat} (h : ∀ c, of c ≤ 256) (k : Nat) : f_su of m k ≤ k * 2560 := x_sm_le k (fun j _ => by
  have h1 := f_d_le m (j + 1) 9
  have h2 := h (j + 1)
  have := Nat.mul_le_mul h1 h2
  omega)

set_option maxRecDepth 100000 in
set_option maxHeartbeats 4000000 in
theorem l_X12_sizeOf {K : x_K} {S : x_S} {P : x_P} {I : x_I} {J : x_J} {n : Nat} (m : Nat) (hm : m < 1024) (hK : K (some (.int (nI (f_sz m)))) S P I J n) : ∀ d k : Nat, k + d = 9 → x_V f_X12_sizeOf K 4 [some (.int (nI m)), some (.int (nI (x_sm (fun k => f_bi m (k + 1)) k))), some (.int (nI (k + 1)))] [] S P I J n 0 0 := by
  intro d
  induction d with
  | zero =>
    intro k hd
    have e9 : k = 9 := by omega
    subst e9
    refine v_iload_n d_X12_sizeOf_4 rfl ?_
    refine v_bipush (v := nI 10) d_X12_sizeOf_5 x_bp_10 ?_
    refine w_icmp_ge d_X12_sizeOf_7 (fun h7 => ?_) (fun h7 => False.elim (by (try simp (disch := omega) only [x_ti, x_tm1] at h7); omega))
    refine v_iload_n d_X12_sizeOf_24 rfl ?_
    refine v_ret (v := some (.int _)) d_X12_sizeOf_25 rfl ⟨rfl, _, rfl, rfl⟩ (by decide) (by decide) ?_
    exact hK
  | succ d ih =>
    intro k hd
    refine v_iload_n d_X12_sizeOf_4 rfl ?_
    refine v_bipush (v := nI 10) d_X12_sizeOf_5 x_bp_10 ?_
    refine w_icmp_ge d_X12_sizeOf_7 (fun h7 => False.elim (by (try simp (disch := omega) only [x_ti, x_tm1] at h7); omega)) (fun h7 => ?_)
    refine v_iload_n d_X12_sizeOf_10 rfl ?_
    refine v_iload_n d_X12_sizeOf_11 rfl ?_
    refine v_iload_n d_X12_sizeOf_12 rfl ?_
    refine v_ishr d_X12_sizeOf_13 ?_
    refine v_iconst (v := nI 1) d_X12_sizeOf_14 x_ic_1 ?_
    refine v_iand d_X12_sizeOf_15 ?_
    rw [x_sh (by omega) (by omega)]
    first | refine v_iaddN d_X12_sizeOf_16 ?_ | refine v_iadd d_X12_sizeOf_16 ?_
    refine v_istore_n (ls' := [_, _, _]) d_X12_sizeOf_17 (by decide) rfl ?_
    first | refine v_iinc (ls' := [_, _, _]) d_X12_sizeOf_18 rfl (x_inc_1 _) (by decide) rfl ?_ | refine v_iinc (ls' := [_, _, _]) d_X12_sizeOf_18 rfl rfl (by decide) rfl ?_
    refine v_goto d_X12_sizeOf_21 ?_
    exact ih (k + 1) (by omega)

set_option maxRecDepth 100000 in
set_option maxHeartbeats 4000000 in
theorem t_X12_sizeOf {K : x_K} {S : x_S} {P : x_P} {I : x_I} {J : x_J} {n : Nat} {x : Int32} (m : Nat) (hx : x = nI m) (hm : m < 1024) (hK : K (some (.int (nI (f_sz m)))) S P I J n) : x_Call f_X12_sizeOf [.int x] K S P I J n := by
  subst hx
  refine x_intro (by decide) 2 (ls := [_, _, _]) rfl (Nat.le_of_ble_eq_true rfl) ?_
  refine v_iconst (v := nI 0) d_X12_sizeOf_0 x_ic_0 ?_
  refine v_istore_n (ls' := [_, _, _]) d_X12_sizeOf_1 (by decide) rfl ?_
  refine v_iconst (v := nI 1) d_X12_sizeOf_2 x_ic_1 ?_
  refine v_istore_n (ls' := [_, _, _]) d_X12_sizeOf_3 (by decide) rfl ?_
  exact l_X12_sizeOf m hm hK 9 0 rfl

set_option maxRecDepth 100000 in
set_option maxHeartbeats 4000000 in
theorem l_X12_sumOf_i {K : x_K} {S : x_S} {P : x_P} {I : x_I} {J : x_J} {n : Nat} (m c s : Nat) (hm : m < 1024) (hc : c < 10) (hS : x_hS S) (hP : x_hP P) (hc2 : x_V f_X12_sumOf K 75 [some (.ref 39), some (.int (nI m)), some (.int (nI s)), some (.int (nI c)), some (.int (nI (f_d m c 9))), some (.int (nI 10)), none] [] S P I J n 0 0) : ∀ d k : Nat, k + d = 9 → x_V f_X12_sumOf K 17 [some (.ref 39), some (.int (nI m)), some (.int (nI s)), some (.int (nI c)), some (.int (nI (f_d m c k))), some (.int (nI (k + 1))), none] [] S P I J n 0 0 := by
  intro d
  induction d with
  | zero =>
    intro k hd
    have e9 : k = 9 := by omega
    subst e9
    refine v_iload d_X12_sumOf_17 rfl ?_
    refine v_bipush (v := nI 10) d_X12_sumOf_19 x_bp_10 ?_
    refine w_icmp_ge d_X12_sumOf_21 (fun h21 => ?_) (fun h21 => False.elim (by (try simp (disch := omega) only [x_ti, x_tm1] at h21); omega))
    exact hc2
  | succ d ih =>
    intro k hd
    have hdl := f_d_le m c k
    have hdd : f_ds c (k + 1) < 30 := by unfold f_ds; omega
    refine v_iload d_X12_sumOf_17 rfl ?_
    refine v_bipush (v := nI 10) d_X12_sumOf_19 x_bp_10 ?_
    refine w_icmp_ge d_X12_sumOf_21 (fun h21 => False.elim (by (try simp (disch := omega) only [x_ti, x_tm1] at h21); omega)) (fun h21 => ?_)
    refine v_iload_n d_X12_sumOf_24 rfl ?_
    refine v_iload d_X12_sumOf_25 rfl ?_
    refine w_icmp_le d_X12_sumOf_27 (fun a27 => ?_) (fun a27 => ?_)
    · try simp (disch := omega) only [x_ti, x_tm1] at a27
      refine v_iload d_X12_sumOf_37 rfl ?_
      refine v_iload_n d_X12_sumOf_39 rfl ?_
      refine v_isub d_X12_sumOf_40 ?_
      have hds : f_ds c (k + 1) = k + 1 - c := by unfold f_ds; omega
      rw [x_subN (by omega), ← hds]
      refine v_istore (ls' := [_, _, _, _, _, _, _]) d_X12_sumOf_41 (by decide) rfl ?_
      refine v_iload_n d_X12_sumOf_43 rfl ?_
      refine v_iload d_X12_sumOf_44 rfl ?_
      refine v_ishr d_X12_sumOf_46 ?_
      refine v_iconst (v := nI 1) d_X12_sumOf_47 x_ic_1 ?_
      refine v_iand d_X12_sumOf_48 ?_
      rw [x_sh (by omega) (by omega)]
      refine v_iconst (v := nI 1) d_X12_sumOf_49 x_ic_1 ?_
      refine w_icmp_ne d_X12_sumOf_50 (fun a50 => ?_) (fun a50 => ?_)
      · try simp (disch := omega) only [x_ti, x_tm1] at a50
        refine v_iload d_X12_sumOf_65 rfl ?_
        refine v_istore (ls' := [_, _, _, _, _, _, _]) d_X12_sumOf_67 (by decide) rfl ?_
        first | refine v_iinc (ls' := [_, _, _, _, _, _, _]) d_X12_sumOf_69 rfl (x_inc_1 _) (by decide) rfl ?_ | refine v_iinc (ls' := [_, _, _, _, _, _, _]) d_X12_sumOf_69 rfl rfl (by decide) rfl ?_
        refine v_goto d_X12_sumOf_72 ?_
        refine x_V.fg1 6 (ls' := [_, _, _, _, _, _, _]) rfl ?_
        have hd9 : f_d m c (k + 1) = f_d m c k := by rw [f_d, if_neg (fun z => by have h1 : m / 2 ^ (k + 1) % 2 = 1 := z.1; omega)]
        have hl := ih (k + 1) (by omega)
        rw [hd9] at hl
        exact hl
      · try simp (disch := omega) only [x_ti, x_tm1] at a50
        refine v_iload d_X12_sumOf_53 rfl ?_
        refine v_iload d_X12_sumOf_55 rfl ?_
        refine w_icmp_ge d_X12_sumOf_57 (fun a57 => ?_) (fun a57 => ?_)
        · try simp (disch := omega) only [x_ti, x_tm1] at a57
          refine v_iload d_X12_sumOf_65 rfl ?_
          refine v_istore (ls' := [_, _, _, _, _, _, _]) d_X12_sumOf_67 (by decide) rfl ?_
          first | refine v_iinc (ls' := [_, _, _, _, _, _, _]) d_X12_sumOf_69 rfl (x_inc_1 _) (by decide) rfl ?_ | refine v_iinc (ls' := [_, _, _, _, _, _, _]) d_X12_sumOf_69 rfl rfl (by decide) rfl ?_
          refine v_goto d_X12_sumOf_72 ?_
          refine x_V.fg1 6 (ls' := [_, _, _, _, _, _, _]) rfl ?_
          have hd9 : f_d m c (k + 1) = f_d m c k := by rw [f_d, if_neg (fun z => by have := z.2; omega)]
          have hl := ih (k + 1) (by omega)
          rw [hd9] at hl
          exact hl
        · try simp (disch := omega) only [x_ti, x_tm1] at a57
          refine v_iload d_X12_sumOf_60 rfl ?_
          refine v_goto d_X12_sumOf_62 ?_
          refine v_istore (ls' := [_, _, _, _, _, _, _]) d_X12_sumOf_67 (by decide) rfl ?_
          first | refine v_iinc (ls' := [_, _, _, _, _, _, _]) d_X12_sumOf_69 rfl (x_inc_1 _) (by decide) rfl ?_ | refine v_iinc (ls' := [_, _, _, _, _, _, _]) d_X12_sumOf_69 rfl rfl (by decide) rfl ?_
          refine v_goto d_X12_sumOf_72 ?_
          refine x_V.fg1 6 (ls' := [_, _, _, _, _, _, _]) rfl ?_
          have hb : f_bi m (k + 1) = 1 := by show m / 2 ^ (k + 1) % 2 = 1; omega
          have hd9 : f_d m c (k + 1) = f_ds c (k + 1) := by rw [f_d, if_pos ⟨hb, by omega⟩]
          have hl := ih (k + 1) (by omega)
          rw [hd9] at hl
          exact hl
    · try simp (disch := omega) only [x_ti, x_tm1] at a27
      refine v_iload_n d_X12_sumOf_30 rfl ?_
      refine v_iload d_X12_sumOf_31 rfl ?_
      refine v_isub d_X12_sumOf_33 ?_
      have hds : f_ds c (k + 1) = c - (k + 1) := by unfold f_ds; omega
      rw [x_subN (by omega), ← hds]
      refine v_goto d_X12_sumOf_34 ?_
      refine v_istore (ls' := [_, _, _, _, _, _, _]) d_X12_sumOf_41 (by decide) rfl ?_
      refine v_iload_n d_X12_sumOf_43 rfl ?_
      refine v_iload d_X12_sumOf_44 rfl ?_
      refine v_ishr d_X12_sumOf_46 ?_
      refine v_iconst (v := nI 1) d_X12_sumOf_47 x_ic_1 ?_
      refine v_iand d_X12_sumOf_48 ?_
      rw [x_sh (by omega) (by omega)]
      refine v_iconst (v := nI 1) d_X12_sumOf_49 x_ic_1 ?_
      refine w_icmp_ne d_X12_sumOf_50 (fun a50 => ?_) (fun a50 => ?_)
      · try simp (disch := omega) only [x_ti, x_tm1] at a50
        refine v_iload d_X12_sumOf_65 rfl ?_
        refine v_istore (ls' := [_, _, _, _, _, _, _]) d_X12_sumOf_67 (by decide) rfl ?_
        first | refine v_iinc (ls' := [_, _, _, _, _, _, _]) d_X12_sumOf_69 rfl (x_inc_1 _) (by decide) rfl ?_ | refine v_iinc (ls' := [_, _, _, _, _, _, _]) d_X12_sumOf_69 rfl rfl (by decide) rfl ?_
        refine v_goto d_X12_sumOf_72 ?_
        refine x_V.fg1 6 (ls' := [_, _, _, _, _, _, _]) rfl ?_
        have hd9 : f_d m c (k + 1) = f_d m c k := by rw [f_d, if_neg (fun z => by have h1 : m / 2 ^ (k + 1) % 2 = 1 := z.1; omega)]
        have hl := ih (k + 1) (by omega)
        rw [hd9] at hl
        exact hl
      · try simp (disch := omega) only [x_ti, x_tm1] at a50
        refine v_iload d_X12_sumOf_53 rfl ?_
        refine v_iload d_X12_sumOf_55 rfl ?_
        refine w_icmp_ge d_X12_sumOf_57 (fun a57 => ?_) (fun a57 => ?_)
        · try simp (disch := omega) only [x_ti, x_tm1] at a57
          refine v_iload d_X12_sumOf_65 rfl ?_
          refine v_istore (ls' := [_, _, _, _, _, _, _]) d_X12_sumOf_67 (by decide) rfl ?_
          first | refine v_iinc (ls' := [_, _, _, _, _, _, _]) d_X12_sumOf_69 rfl (x_inc_1 _) (by decide) rfl ?_ | refine v_iinc (ls' := [_, _, _, _, _, _, _]) d_X12_sumOf_69 rfl rfl (by decide) rfl ?_
          refine v_goto d_X12_sumOf_72 ?_
          refine x_V.fg1 6 (ls' := [_, _, _, _, _, _, _]) rfl ?_
          have hd9 : f_d m c (k + 1) = f_d m c k := by rw [f_d, if_neg (fun z => by have := z.2; omega)]
          have hl := ih (k + 1) (by omega)
          rw [hd9] at hl
          exact hl
        · try simp (disch := omega) only [x_ti, x_tm1] at a57
          refine v_iload d_X12_sumOf_60 rfl ?_
          refine v_goto d_X12_sumOf_62 ?_
          refine v_istore (ls' := [_, _, _, _, _, _, _]) d_X12_sumOf_67 (by decide) rfl ?_
          first | refine v_iinc (ls' := [_, _, _, _, _, _, _]) d_X12_sumOf_69 rfl (x_inc_1 _) (by decide) rfl ?_ | refine v_iinc (ls' := [_, _, _, _, _, _, _]) d_X12_sumOf_69 rfl rfl (by decide) rfl ?_
          refine v_goto d_X12_sumOf_72 ?_
          refine x_V.fg1 6 (ls' := [_, _, _, _, _, _, _]) rfl ?_
          have hb : f_bi m (k + 1) = 1 := by show m / 2 ^ (k + 1) % 2 = 1; omega
          have hd9 : f_d m c (k + 1) = f_ds c (k + 1) := by rw [f_d, if_pos ⟨hb, by omega⟩]
          have hl := ih (k + 1) (by omega)
          rw [hd9] at hl
          exact hl

set_option maxRecDepth 100000 in
set_option maxHeartbeats 4000000 in
theorem l_X12_sumOf_o {K : x_K} {S : x_S} {P : x_P} {I : x_I} {J : x_J} {n : Nat} (of : Nat → Nat) (m : Nat) (hm : m < 1024) (hof : ∀ c, of c ≤ 256) (hI : ∀ c, c < 10 → I 62 c = nI (of c)) (hS : x_hS S) (hP : x_hP P) (hK : K (some (.int (nI (f_su of m 9)))) S P I J n) : ∀ d k : Nat, k + d = 9 → x_V f_X12_sumOf K 4 [some (.ref 39), some (.int (nI m)), some (.int (nI (f_su of m k))), some (.int (nI (k + 1))), none, none, none] [] S P I J n 0 0 := by
  intro d
  induction d with
  | zero =>
    intro k hd
    have e9 : k = 9 := by omega
    subst e9
    refine v_iload_n d_X12_sumOf_4 rfl ?_
    refine v_bipush (v := nI 10) d_X12_sumOf_5 x_bp_10 ?_
    refine w_icmp_ge d_X12_sumOf_7 (fun h7 => ?_) (fun h7 => False.elim (by (try simp (disch := omega) only [x_ti, x_tm1] at h7); omega))
    refine v_iload_n d_X12_sumOf_93 rfl ?_
    refine v_ret (v := some (.int _)) d_X12_sumOf_94 rfl ⟨rfl, _, rfl, rfl⟩ (by decide) (by decide) ?_
    exact hK
  | succ d ih =>
    intro k hd
    refine v_iload_n d_X12_sumOf_4 rfl ?_
    refine v_bipush (v := nI 10) d_X12_sumOf_5 x_bp_10 ?_
    refine w_icmp_ge d_X12_sumOf_7 (fun h7 => False.elim (by (try simp (disch := omega) only [x_ti, x_tm1] at h7); omega)) (fun h7 => ?_)
    refine v_bipush (v := nI 10) d_X12_sumOf_10 x_bp_10 ?_
    refine v_istore (ls' := [_, _, _, _, _, _, _]) d_X12_sumOf_12 (by decide) rfl ?_
    refine v_iconst (v := nI 1) d_X12_sumOf_14 x_ic_1 ?_
    refine v_istore (ls' := [_, _, _, _, _, _, _]) d_X12_sumOf_15 (by decide) rfl ?_
    refine l_X12_sumOf_i m (k + 1) _ hm (by omega) hS hP ?_ 9 0 rfl
    refine v_iload_n d_X12_sumOf_75 rfl ?_
    refine v_iload d_X12_sumOf_76 rfl ?_
    refine v_aload_n d_X12_sumOf_78 rfl ?_
    refine v_gr d_X12_sumOf_79 lf_X12_82_12 rfl (hS _ _ rfl) (hP _ _ _ rfl) ?_
    refine v_iload_n d_X12_sumOf_82 rfl ?_
    refine v_iald _ d_X12_sumOf_83 (rfl) (hS _ _ rfl) (⟨by omega, by omega⟩) (hI (k + 1) (by omega)) ?_
    first | refine v_imulN d_X12_sumOf_84 ?_ | refine v_imul d_X12_sumOf_84 ?_
    first | refine v_iaddN d_X12_sumOf_85 ?_ | refine v_iadd d_X12_sumOf_85 ?_
    refine v_istore_n (ls' := [_, _, _, _, _, _, _]) d_X12_sumOf_86 (by decide) rfl ?_
    first | refine v_iinc (ls' := [_, _, _, _, _, _, _]) d_X12_sumOf_87 rfl (x_inc_1 _) (by decide) rfl ?_ | refine v_iinc (ls' := [_, _, _, _, _, _, _]) d_X12_sumOf_87 rfl rfl (by decide) rfl ?_
    refine v_goto d_X12_sumOf_90 ?_
    refine x_V.fg1 4 (ls' := [_, _, _, _, _, _, _]) rfl ?_
    refine x_V.fg1 5 (ls' := [_, _, _, _, _, _, _]) rfl ?_
    exact ih (k + 1) (by omega)

set_option maxRecDepth 100000 in
set_option maxHeartbeats 4000000 in
theorem t_X12_sumOf {K : x_K} {S : x_S} {P : x_P} {I : x_I} {J : x_J} {n : Nat} {x : Int32} (of : Nat → Nat) (m : Nat) (hx : x = nI m) (hm : m < 1024) (hof : ∀ c, of c ≤ 256) (hI : ∀ c, c < 10 → I 62 c = nI (of c)) (hS : x_hS S) (hP : x_hP P) (hK : K (some (.int (nI (f_su of m 9)))) S P I J n) : x_Call f_X12_sumOf [.ref 39, .int x] K S P I J n := by
  subst hx
  refine x_intro (by decide) 5 (ls := [_, _, _, _, _, _, _]) rfl (Nat.le_of_ble_eq_true rfl) ?_
  refine v_iconst (v := nI 0) d_X12_sumOf_0 x_ic_0 ?_
  refine v_istore_n (ls' := [_, _, _, _, _, _, _]) d_X12_sumOf_1 (by decide) rfl ?_
  refine v_iconst (v := nI 1) d_X12_sumOf_2 x_ic_1 ?_
  refine v_istore_n (ls' := [_, _, _, _, _, _, _]) d_X12_sumOf_3 (by decide) rfl ?_
  exact l_X12_sumOf_o of m hm hof hI hS hP hK 9 0 rfl

