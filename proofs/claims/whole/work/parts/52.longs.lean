def x_lb (v : Int64) (b : Nat) : Bool := v.toBitVec.getLsbD b
theorem x_lb_or (v w : Int64) (b : Nat) : x_lb (v ||| w) b = (x_lb v b || x_lb w b) := by
  unfold x_lb; rw [Int64.toBitVec_or, BitVec.getLsbD_or]
theorem x_lb_0 (b : Nat) : x_lb 0 b = false := by
  unfold x_lb; show (0#64).getLsbD b = false; exact BitVec.getLsbD_zero
theorem x_lsm {b : Nat} (hb : b < 64) : ((nI b).toInt64 &&& 63 : Int64).toBitVec.smod 64 = BitVec.ofNat 64 b := by
  have : ∀ b : Fin 64, ((nI b.1).toInt64 &&& 63 : Int64).toBitVec.smod 64 = BitVec.ofNat 64 b.1 := by decide
  exact this ⟨b, hb⟩
theorem x_lb_1 {b c : Nat} (hb : b < 64) : x_lb (1 <<< ((nI b).toInt64 &&& 63)) c = decide (c = b) := by
  unfold x_lb
  rw [Int64.toBitVec_shiftLeft, x_lsm hb]
  show (1#64 <<< BitVec.ofNat 64 b).getLsbD c = _
  rw [BitVec.shiftLeft_eq', BitVec.toNat_ofNat, Nat.mod_eq_of_lt (show b < 2 ^ 64 by omega), BitVec.getLsbD_shiftLeft, BitVec.getLsbD_one]
  by_cases h : c = b
  · subst h
    simp
    omega
  · rw [decide_eq_false h]
    simp
    omega
theorem x_lb_on {v : Int64} {b : Nat} (hb : b < 64) : (v >>> ((nI b).toInt64 &&& 63) &&& 1) = 1 ↔ x_lb v b = true := by
  have h1 : (v >>> ((nI b).toInt64 &&& 63) &&& 1).toBitVec.toNat = (if x_lb v b = true then 1 else 0) := by
    rw [Int64.toBitVec_and, Int64.toBitVec_shiftRight, x_lsm hb, BitVec.sshiftRight_eq', BitVec.toNat_ofNat, Nat.mod_eq_of_lt (show b < 2 ^ 64 by omega), BitVec.toNat_and]
    show _ &&& 1 = _
    rw [Nat.and_one_is_mod]
    have h2 : (v.toBitVec.sshiftRight b).getLsbD 0 = x_lb v b := by
      unfold x_lb
      rw [BitVec.getLsbD_sshiftRight]
      simp
      omega
    rw [← h2, BitVec.getLsbD, Nat.testBit_zero]
    by_cases h3 : (v.toBitVec.sshiftRight b).toNat % 2 = 1
    · simp [h3]
    · have h4 : (v.toBitVec.sshiftRight b).toNat % 2 = 0 := by omega
      simp [h4]
  constructor
  · intro h
    rw [h] at h1
    by_cases h5 : x_lb v b = true
    · exact h5
    · rw [if_neg h5] at h1
      exact absurd h1 (by decide)
  · intro h
    rw [if_pos h] at h1
    apply Int64.toBitVec_inj.1
    apply BitVec.eq_of_toNat_eq
    rw [h1]
    rfl

