/-! One rule an instruction, over x_V. -/
def x_d (cc : ByteArray) (len pc : Nat) (i : Instr) (pc' : Nat) : Prop := decode cc pc = .ok (i, len) ∧ pc + len = pc'
def x_j (cc : ByteArray) (pc : Nat) (i : Instr) (off : Int) (tgt pc' : Nat) : Prop := decode cc pc = .ok (i, 3) ∧ (pc : Int) + off = (tgt : Int) ∧ pc + 3 = pc'
section XRULES
variable {F : x_F} {K : x_K} {pc pc' : Nat} {ls : List (Option Value)} {st : List Value} {S : x_S} {P : x_P} {I : x_I} {J : x_J} {n cs sl : Nat}
theorem v_iconst {z : Int} {v : Int32} (hd : x_d F.1 1 pc (.iconst z) pc') (hv : Int32.ofInt z = v) (kk : x_V F K pc' ls (.int v :: st) S P I J n cs sl) : x_V F K pc ls (st) S P I J n cs sl := by
  intro D b base L xs p l e s m args below meth c H locs Q lr C hH hS h0 hI hL hR
  obtain ⟨hd1, rfl⟩ := hd
  exact lv_iconst C.1 C.2.1 hd1 hv (kk D b base L xs p l e s m args below meth c H locs Q lr C hH hS h0 hI hL hR)
theorem v_bipush {z : Int} {v : Int32} (hd : x_d F.1 2 pc (.bipush z) pc') (hv : (Int8.ofInt z).toInt32 = v) (kk : x_V F K pc' ls (.int v :: st) S P I J n cs sl) : x_V F K pc ls (st) S P I J n cs sl := by
  intro D b base L xs p l e s m args below meth c H locs Q lr C hH hS h0 hI hL hR
  obtain ⟨hd1, rfl⟩ := hd
  exact lv_bipush C.1 C.2.1 hd1 hv (kk D b base L xs p l e s m args below meth c H locs Q lr C hH hS h0 hI hL hR)
theorem v_sipush {z : Int} {v : Int32} (hd : x_d F.1 3 pc (.sipush z) pc') (hv : (Int16.ofInt z).toInt32 = v) (kk : x_V F K pc' ls (.int v :: st) S P I J n cs sl) : x_V F K pc ls (st) S P I J n cs sl := by
  intro D b base L xs p l e s m args below meth c H locs Q lr C hH hS h0 hI hL hR
  obtain ⟨hd1, rfl⟩ := hd
  exact lv_sipush C.1 C.2.1 hd1 hv (kk D b base L xs p l e s m args below meth c H locs Q lr C hH hS h0 hI hL hR)
theorem v_lconst {z : Fin 2} {v : Int64} (hd : x_d F.1 1 pc (.lconst z) pc') (hv : Int64.ofNat (z : Nat) = v) (kk : x_V F K pc' ls (.long v :: st) S P I J n cs sl) : x_V F K pc ls (st) S P I J n cs sl := by
  intro D b base L xs p l e s m args below meth c H locs Q lr C hH hS h0 hI hL hR
  obtain ⟨hd1, rfl⟩ := hd
  exact lv_lconst C.1 C.2.1 hd1 hv (kk D b base L xs p l e s m args below meth c H locs Q lr C hH hS h0 hI hL hR)
theorem v_null  (hd : x_d F.1 1 pc (.aconst_null) pc')  (kk : x_V F K pc' ls (.null :: st) S P I J n cs sl) : x_V F K pc ls (st) S P I J n cs sl := by
  intro D b base L xs p l e s m args below meth c H locs Q lr C hH hS h0 hI hL hR
  obtain ⟨hd1, rfl⟩ := hd
  exact lv_null C.1 C.2.1 hd1  (kk D b base L xs p l e s m args below meth c H locs Q lr C hH hS h0 hI hL hR)
theorem v_iadd {x y : Int32} (hd : x_d F.1 1 pc (.iadd) pc')  (kk : x_V F K pc' ls (.int (x + y) :: st) S P I J n cs sl) : x_V F K pc ls (.int y :: .int x :: st) S P I J n cs sl := by
  intro D b base L xs p l e s m args below meth c H locs Q lr C hH hS h0 hI hL hR
  obtain ⟨hd1, rfl⟩ := hd
  exact lv_iadd C.1 C.2.1 hd1  (kk D b base L xs p l e s m args below meth c H locs Q lr C hH hS h0 hI hL hR)
theorem v_isub {x y : Int32} (hd : x_d F.1 1 pc (.isub) pc')  (kk : x_V F K pc' ls (.int (x - y) :: st) S P I J n cs sl) : x_V F K pc ls (.int y :: .int x :: st) S P I J n cs sl := by
  intro D b base L xs p l e s m args below meth c H locs Q lr C hH hS h0 hI hL hR
  obtain ⟨hd1, rfl⟩ := hd
  exact lv_isub C.1 C.2.1 hd1  (kk D b base L xs p l e s m args below meth c H locs Q lr C hH hS h0 hI hL hR)
theorem v_imul {x y : Int32} (hd : x_d F.1 1 pc (.imul) pc')  (kk : x_V F K pc' ls (.int (x * y) :: st) S P I J n cs sl) : x_V F K pc ls (.int y :: .int x :: st) S P I J n cs sl := by
  intro D b base L xs p l e s m args below meth c H locs Q lr C hH hS h0 hI hL hR
  obtain ⟨hd1, rfl⟩ := hd
  exact lv_imul C.1 C.2.1 hd1  (kk D b base L xs p l e s m args below meth c H locs Q lr C hH hS h0 hI hL hR)
theorem v_iand {x y : Int32} (hd : x_d F.1 1 pc (.iand) pc')  (kk : x_V F K pc' ls (.int (x &&& y) :: st) S P I J n cs sl) : x_V F K pc ls (.int y :: .int x :: st) S P I J n cs sl := by
  intro D b base L xs p l e s m args below meth c H locs Q lr C hH hS h0 hI hL hR
  obtain ⟨hd1, rfl⟩ := hd
  exact lv_iand C.1 C.2.1 hd1  (kk D b base L xs p l e s m args below meth c H locs Q lr C hH hS h0 hI hL hR)
theorem v_ior {x y : Int32} (hd : x_d F.1 1 pc (.ior) pc')  (kk : x_V F K pc' ls (.int (x ||| y) :: st) S P I J n cs sl) : x_V F K pc ls (.int y :: .int x :: st) S P I J n cs sl := by
  intro D b base L xs p l e s m args below meth c H locs Q lr C hH hS h0 hI hL hR
  obtain ⟨hd1, rfl⟩ := hd
  exact lv_ior C.1 C.2.1 hd1  (kk D b base L xs p l e s m args below meth c H locs Q lr C hH hS h0 hI hL hR)
theorem v_ixor {x y : Int32} (hd : x_d F.1 1 pc (.ixor) pc')  (kk : x_V F K pc' ls (.int (x ^^^ y) :: st) S P I J n cs sl) : x_V F K pc ls (.int y :: .int x :: st) S P I J n cs sl := by
  intro D b base L xs p l e s m args below meth c H locs Q lr C hH hS h0 hI hL hR
  obtain ⟨hd1, rfl⟩ := hd
  exact lv_ixor C.1 C.2.1 hd1  (kk D b base L xs p l e s m args below meth c H locs Q lr C hH hS h0 hI hL hR)
theorem v_iaddN {x y : Nat} (hd : x_d F.1 1 pc (.iadd) pc')  (kk : x_V F K pc' ls (.int (nI (x + y)) :: st) S P I J n cs sl) : x_V F K pc ls (.int (nI y) :: .int (nI x) :: st) S P I J n cs sl := by
  intro D b base L xs p l e s m args below meth c H locs Q lr C hH hS h0 hI hL hR
  obtain ⟨hd1, rfl⟩ := hd
  rw [← nI_add] at kk
  exact lv_iadd C.1 C.2.1 hd1 (kk D b base L xs p l e s m args below meth c H locs Q lr C hH hS h0 hI hL hR)
theorem v_imulN {x y : Nat} (hd : x_d F.1 1 pc (.imul) pc')  (kk : x_V F K pc' ls (.int (nI (x * y)) :: st) S P I J n cs sl) : x_V F K pc ls (.int (nI y) :: .int (nI x) :: st) S P I J n cs sl := by
  intro D b base L xs p l e s m args below meth c H locs Q lr C hH hS h0 hI hL hR
  obtain ⟨hd1, rfl⟩ := hd
  rw [← pk_mul] at kk
  exact lv_imul C.1 C.2.1 hd1 (kk D b base L xs p l e s m args below meth c H locs Q lr C hH hS h0 hI hL hR)
theorem v_ladd {x y : Int64} (hd : x_d F.1 1 pc (.ladd) pc')  (kk : x_V F K pc' ls (.long (x + y) :: st) S P I J n cs sl) : x_V F K pc ls (.long y :: .long x :: st) S P I J n cs sl := by
  intro D b base L xs p l e s m args below meth c H locs Q lr C hH hS h0 hI hL hR
  obtain ⟨hd1, rfl⟩ := hd
  exact lv_ladd C.1 C.2.1 hd1  (kk D b base L xs p l e s m args below meth c H locs Q lr C hH hS h0 hI hL hR)
theorem v_lsub {x y : Int64} (hd : x_d F.1 1 pc (.lsub) pc')  (kk : x_V F K pc' ls (.long (x - y) :: st) S P I J n cs sl) : x_V F K pc ls (.long y :: .long x :: st) S P I J n cs sl := by
  intro D b base L xs p l e s m args below meth c H locs Q lr C hH hS h0 hI hL hR
  obtain ⟨hd1, rfl⟩ := hd
  exact lv_lsub C.1 C.2.1 hd1  (kk D b base L xs p l e s m args below meth c H locs Q lr C hH hS h0 hI hL hR)
theorem v_lmul {x y : Int64} (hd : x_d F.1 1 pc (.lmul) pc')  (kk : x_V F K pc' ls (.long (x * y) :: st) S P I J n cs sl) : x_V F K pc ls (.long y :: .long x :: st) S P I J n cs sl := by
  intro D b base L xs p l e s m args below meth c H locs Q lr C hH hS h0 hI hL hR
  obtain ⟨hd1, rfl⟩ := hd
  exact lv_lmul C.1 C.2.1 hd1  (kk D b base L xs p l e s m args below meth c H locs Q lr C hH hS h0 hI hL hR)
theorem v_land {x y : Int64} (hd : x_d F.1 1 pc (.land) pc')  (kk : x_V F K pc' ls (.long (x &&& y) :: st) S P I J n cs sl) : x_V F K pc ls (.long y :: .long x :: st) S P I J n cs sl := by
  intro D b base L xs p l e s m args below meth c H locs Q lr C hH hS h0 hI hL hR
  obtain ⟨hd1, rfl⟩ := hd
  exact lv_land C.1 C.2.1 hd1  (kk D b base L xs p l e s m args below meth c H locs Q lr C hH hS h0 hI hL hR)
theorem v_lor {x y : Int64} (hd : x_d F.1 1 pc (.lor) pc')  (kk : x_V F K pc' ls (.long (x ||| y) :: st) S P I J n cs sl) : x_V F K pc ls (.long y :: .long x :: st) S P I J n cs sl := by
  intro D b base L xs p l e s m args below meth c H locs Q lr C hH hS h0 hI hL hR
  obtain ⟨hd1, rfl⟩ := hd
  exact lv_lor C.1 C.2.1 hd1  (kk D b base L xs p l e s m args below meth c H locs Q lr C hH hS h0 hI hL hR)
theorem v_lxor {x y : Int64} (hd : x_d F.1 1 pc (.lxor) pc')  (kk : x_V F K pc' ls (.long (x ^^^ y) :: st) S P I J n cs sl) : x_V F K pc ls (.long y :: .long x :: st) S P I J n cs sl := by
  intro D b base L xs p l e s m args below meth c H locs Q lr C hH hS h0 hI hL hR
  obtain ⟨hd1, rfl⟩ := hd
  exact lv_lxor C.1 C.2.1 hd1  (kk D b base L xs p l e s m args below meth c H locs Q lr C hH hS h0 hI hL hR)
theorem v_idiv {x y : Int32} (hd : x_d F.1 1 pc (.idiv) pc') (hne : ¬ y = 0) (kk : x_V F K pc' ls (.int (x / y) :: st) S P I J n cs sl) : x_V F K pc ls (.int y :: .int x :: st) S P I J n cs sl := by
  intro D b base L xs p l e s m args below meth c H locs Q lr C hH hS h0 hI hL hR
  obtain ⟨hd1, rfl⟩ := hd
  exact lv_idiv C.1 C.2.1 hd1 hne (kk D b base L xs p l e s m args below meth c H locs Q lr C hH hS h0 hI hL hR)
theorem v_irem {x y : Int32} (hd : x_d F.1 1 pc (.irem) pc') (hne : ¬ y = 0) (kk : x_V F K pc' ls (.int (x - x / y * y) :: st) S P I J n cs sl) : x_V F K pc ls (.int y :: .int x :: st) S P I J n cs sl := by
  intro D b base L xs p l e s m args below meth c H locs Q lr C hH hS h0 hI hL hR
  obtain ⟨hd1, rfl⟩ := hd
  exact lv_irem C.1 C.2.1 hd1 hne (kk D b base L xs p l e s m args below meth c H locs Q lr C hH hS h0 hI hL hR)
theorem v_ldiv {x y : Int64} (hd : x_d F.1 1 pc (.ldiv) pc') (hne : ¬ y = 0) (kk : x_V F K pc' ls (.long (x / y) :: st) S P I J n cs sl) : x_V F K pc ls (.long y :: .long x :: st) S P I J n cs sl := by
  intro D b base L xs p l e s m args below meth c H locs Q lr C hH hS h0 hI hL hR
  obtain ⟨hd1, rfl⟩ := hd
  exact lv_ldiv C.1 C.2.1 hd1 hne (kk D b base L xs p l e s m args below meth c H locs Q lr C hH hS h0 hI hL hR)
theorem v_lrem {x y : Int64} (hd : x_d F.1 1 pc (.lrem) pc') (hne : ¬ y = 0) (kk : x_V F K pc' ls (.long (x - x / y * y) :: st) S P I J n cs sl) : x_V F K pc ls (.long y :: .long x :: st) S P I J n cs sl := by
  intro D b base L xs p l e s m args below meth c H locs Q lr C hH hS h0 hI hL hR
  obtain ⟨hd1, rfl⟩ := hd
  exact lv_lrem C.1 C.2.1 hd1 hne (kk D b base L xs p l e s m args below meth c H locs Q lr C hH hS h0 hI hL hR)
theorem v_ineg {x : Int32} (hd : x_d F.1 1 pc (.ineg) pc')  (kk : x_V F K pc' ls (.int (-x) :: st) S P I J n cs sl) : x_V F K pc ls (.int x :: st) S P I J n cs sl := by
  intro D b base L xs p l e s m args below meth c H locs Q lr C hH hS h0 hI hL hR
  obtain ⟨hd1, rfl⟩ := hd
  exact lv_ineg C.1 C.2.1 hd1  (kk D b base L xs p l e s m args below meth c H locs Q lr C hH hS h0 hI hL hR)
theorem v_lneg {x : Int64} (hd : x_d F.1 1 pc (.lneg) pc')  (kk : x_V F K pc' ls (.long (-x) :: st) S P I J n cs sl) : x_V F K pc ls (.long x :: st) S P I J n cs sl := by
  intro D b base L xs p l e s m args below meth c H locs Q lr C hH hS h0 hI hL hR
  obtain ⟨hd1, rfl⟩ := hd
  exact lv_lneg C.1 C.2.1 hd1  (kk D b base L xs p l e s m args below meth c H locs Q lr C hH hS h0 hI hL hR)
theorem v_ishl {x y : Int32} (hd : x_d F.1 1 pc (.ishl) pc')  (kk : x_V F K pc' ls (.int (x <<< (y &&& 31)) :: st) S P I J n cs sl) : x_V F K pc ls (.int y :: .int x :: st) S P I J n cs sl := by
  intro D b base L xs p l e s m args below meth c H locs Q lr C hH hS h0 hI hL hR
  obtain ⟨hd1, rfl⟩ := hd
  exact lv_ishl C.1 C.2.1 hd1  (kk D b base L xs p l e s m args below meth c H locs Q lr C hH hS h0 hI hL hR)
theorem v_ishr {x y : Int32} (hd : x_d F.1 1 pc (.ishr) pc')  (kk : x_V F K pc' ls (.int (x >>> (y &&& 31)) :: st) S P I J n cs sl) : x_V F K pc ls (.int y :: .int x :: st) S P I J n cs sl := by
  intro D b base L xs p l e s m args below meth c H locs Q lr C hH hS h0 hI hL hR
  obtain ⟨hd1, rfl⟩ := hd
  exact lv_ishr C.1 C.2.1 hd1  (kk D b base L xs p l e s m args below meth c H locs Q lr C hH hS h0 hI hL hR)
theorem v_iushr {x y : Int32} (hd : x_d F.1 1 pc (.iushr) pc')  (kk : x_V F K pc' ls (.int ((x.toUInt32 >>> (y.toUInt32 &&& Int32.toUInt32 31)).toInt32) :: st) S P I J n cs sl) : x_V F K pc ls (.int y :: .int x :: st) S P I J n cs sl := by
  intro D b base L xs p l e s m args below meth c H locs Q lr C hH hS h0 hI hL hR
  obtain ⟨hd1, rfl⟩ := hd
  exact lv_iushr C.1 C.2.1 hd1 rfl (kk D b base L xs p l e s m args below meth c H locs Q lr C hH hS h0 hI hL hR)
theorem v_lshl {x : Int64} {y : Int32} (hd : x_d F.1 1 pc (.lshl) pc')  (kk : x_V F K pc' ls (.long (x <<< (y.toInt64 &&& 63)) :: st) S P I J n cs sl) : x_V F K pc ls (.int y :: .long x :: st) S P I J n cs sl := by
  intro D b base L xs p l e s m args below meth c H locs Q lr C hH hS h0 hI hL hR
  obtain ⟨hd1, rfl⟩ := hd
  exact lv_lshl C.1 C.2.1 hd1 rfl (kk D b base L xs p l e s m args below meth c H locs Q lr C hH hS h0 hI hL hR)
theorem v_lshr {x : Int64} {y : Int32} (hd : x_d F.1 1 pc (.lshr) pc')  (kk : x_V F K pc' ls (.long (x >>> (y.toInt64 &&& 63)) :: st) S P I J n cs sl) : x_V F K pc ls (.int y :: .long x :: st) S P I J n cs sl := by
  intro D b base L xs p l e s m args below meth c H locs Q lr C hH hS h0 hI hL hR
  obtain ⟨hd1, rfl⟩ := hd
  exact lv_lshr C.1 C.2.1 hd1 rfl (kk D b base L xs p l e s m args below meth c H locs Q lr C hH hS h0 hI hL hR)
theorem v_lushr {x : Int64} {y : Int32} (hd : x_d F.1 1 pc (.lushr) pc')  (kk : x_V F K pc' ls (.long ((x.toUInt64 >>> (y.toInt64.toUInt64 &&& Int64.toUInt64 63)).toInt64) :: st) S P I J n cs sl) : x_V F K pc ls (.int y :: .long x :: st) S P I J n cs sl := by
  intro D b base L xs p l e s m args below meth c H locs Q lr C hH hS h0 hI hL hR
  obtain ⟨hd1, rfl⟩ := hd
  exact lv_lushr C.1 C.2.1 hd1 rfl (kk D b base L xs p l e s m args below meth c H locs Q lr C hH hS h0 hI hL hR)
theorem v_i2l {x : Int32} (hd : x_d F.1 1 pc (.i2l) pc')  (kk : x_V F K pc' ls (.long x.toInt64 :: st) S P I J n cs sl) : x_V F K pc ls (.int x :: st) S P I J n cs sl := by
  intro D b base L xs p l e s m args below meth c H locs Q lr C hH hS h0 hI hL hR
  obtain ⟨hd1, rfl⟩ := hd
  exact lv_i2l C.1 C.2.1 hd1 rfl (kk D b base L xs p l e s m args below meth c H locs Q lr C hH hS h0 hI hL hR)
theorem v_l2i {x : Int64} (hd : x_d F.1 1 pc (.l2i) pc')  (kk : x_V F K pc' ls (.int x.toInt32 :: st) S P I J n cs sl) : x_V F K pc ls (.long x :: st) S P I J n cs sl := by
  intro D b base L xs p l e s m args below meth c H locs Q lr C hH hS h0 hI hL hR
  obtain ⟨hd1, rfl⟩ := hd
  exact lv_l2i C.1 C.2.1 hd1 rfl (kk D b base L xs p l e s m args below meth c H locs Q lr C hH hS h0 hI hL hR)
theorem v_i2b {x : Int32} (hd : x_d F.1 1 pc (.i2b) pc')  (kk : x_V F K pc' ls (.int x.toInt8.toInt32 :: st) S P I J n cs sl) : x_V F K pc ls (.int x :: st) S P I J n cs sl := by
  intro D b base L xs p l e s m args below meth c H locs Q lr C hH hS h0 hI hL hR
  obtain ⟨hd1, rfl⟩ := hd
  exact lv_i2b C.1 C.2.1 hd1 rfl (kk D b base L xs p l e s m args below meth c H locs Q lr C hH hS h0 hI hL hR)
theorem v_i2s {x : Int32} (hd : x_d F.1 1 pc (.i2s) pc')  (kk : x_V F K pc' ls (.int x.toInt16.toInt32 :: st) S P I J n cs sl) : x_V F K pc ls (.int x :: st) S P I J n cs sl := by
  intro D b base L xs p l e s m args below meth c H locs Q lr C hH hS h0 hI hL hR
  obtain ⟨hd1, rfl⟩ := hd
  exact lv_i2s C.1 C.2.1 hd1 rfl (kk D b base L xs p l e s m args below meth c H locs Q lr C hH hS h0 hI hL hR)
theorem v_lcmp {x y : Int64} (hd : x_d F.1 1 pc (.lcmp) pc')  (kk : x_V F K pc' ls (.int (lg_cmp x y) :: st) S P I J n cs sl) : x_V F K pc ls (.long y :: .long x :: st) S P I J n cs sl := by
  intro D b base L xs p l e s m args below meth c H locs Q lr C hH hS h0 hI hL hR
  obtain ⟨hd1, rfl⟩ := hd
  exact W.lcmp C.1 C.2.1 hd1  (kk D b base L xs p l e s m args below meth c H locs Q lr C hH hS h0 hI hL hR)
theorem v_dup {va : Value} (hd : x_d F.1 1 pc .dup pc') (hc : va.category = 1) (kk : x_V F K pc' ls (va :: va :: st) S P I J n cs sl) : x_V F K pc ls (va :: st) S P I J n cs sl := by
  intro D b base L xs p l e s m args below meth c H locs Q lr C hH hS h0 hI hL hR
  obtain ⟨hd1, rfl⟩ := hd
  exact lv_dup C.1 C.2.1 hd1 (by rw [x_tr_cat]; exact hc) (kk D b base L xs p l e s m args below meth c H locs Q lr C hH hS h0 hI hL hR)
theorem v_pop {va : Value} (hd : x_d F.1 1 pc .pop pc') (hc : va.category = 1) (kk : x_V F K pc' ls st S P I J n cs sl) : x_V F K pc ls (va :: st) S P I J n cs sl := by
  intro D b base L xs p l e s m args below meth c H locs Q lr C hH hS h0 hI hL hR
  obtain ⟨hd1, rfl⟩ := hd
  exact lv_pop C.1 C.2.1 hd1 (by rw [x_tr_cat]; exact hc) (kk D b base L xs p l e s m args below meth c H locs Q lr C hH hS h0 hI hL hR)
theorem v_dup2 {va vb : Value} (hd : x_d F.1 1 pc .dup2 pc') (hc : va.category = 1) (hc2 : vb.category = 1) (kk : x_V F K pc' ls (va :: vb :: va :: vb :: st) S P I J n cs sl) : x_V F K pc ls (va :: vb :: st) S P I J n cs sl := by
  intro D b base L xs p l e s m args below meth c H locs Q lr C hH hS h0 hI hL hR
  obtain ⟨hd1, rfl⟩ := hd
  exact lv_dup2_11 C.1 C.2.1 hd1 (by rw [x_tr_cat]; exact hc) (by rw [x_tr_cat]; exact hc2) (kk D b base L xs p l e s m args below meth c H locs Q lr C hH hS h0 hI hL hR)
theorem v_iload_n {k : Fin 4} {x : Int32} (hd : x_d F.1 1 pc (.iload_n k) pc') (hk : ls[(k : Nat)]? = some (some (.int x))) (kk : x_V F K pc' ls (.int x :: st) S P I J n cs sl) : x_V F K pc ls st S P I J n cs sl := by
  intro D b base L xs p l e s m args below meth c H locs Q lr C hH hS h0 hI hL hR
  obtain ⟨hd1, rfl⟩ := hd
  exact lv_iload_n C.1 C.2.1 hd1 rfl (hL.2.2 _ _ hk) (kk D b base L xs p l e s m args below meth c H locs Q lr C hH hS h0 hI hL hR)
theorem v_iload {k : Nat} {x : Int32} (hd : x_d F.1 2 pc (.iload k) pc') (hk : ls[k]? = some (some (.int x))) (kk : x_V F K pc' ls (.int x :: st) S P I J n cs sl) : x_V F K pc ls st S P I J n cs sl := by
  intro D b base L xs p l e s m args below meth c H locs Q lr C hH hS h0 hI hL hR
  obtain ⟨hd1, rfl⟩ := hd
  exact lv_iload C.1 C.2.1 hd1 (hL.2.2 _ _ hk) (kk D b base L xs p l e s m args below meth c H locs Q lr C hH hS h0 hI hL hR)
theorem v_lload_n {k : Fin 4} {x : Int64} (hd : x_d F.1 1 pc (.lload_n k) pc') (hk : ls[(k : Nat)]? = some (some (.long x))) (kk : x_V F K pc' ls (.long x :: st) S P I J n cs sl) : x_V F K pc ls st S P I J n cs sl := by
  intro D b base L xs p l e s m args below meth c H locs Q lr C hH hS h0 hI hL hR
  obtain ⟨hd1, rfl⟩ := hd
  exact lv_lload_n C.1 C.2.1 hd1 rfl (hL.2.2 _ _ hk) (kk D b base L xs p l e s m args below meth c H locs Q lr C hH hS h0 hI hL hR)
theorem v_lload {k : Nat} {x : Int64} (hd : x_d F.1 2 pc (.lload k) pc') (hk : ls[k]? = some (some (.long x))) (kk : x_V F K pc' ls (.long x :: st) S P I J n cs sl) : x_V F K pc ls st S P I J n cs sl := by
  intro D b base L xs p l e s m args below meth c H locs Q lr C hH hS h0 hI hL hR
  obtain ⟨hd1, rfl⟩ := hd
  exact lv_lload C.1 C.2.1 hd1 (hL.2.2 _ _ hk) (kk D b base L xs p l e s m args below meth c H locs Q lr C hH hS h0 hI hL hR)
theorem v_aload_n {k : Fin 4} {x : Nat} (hd : x_d F.1 1 pc (.aload_n k) pc') (hk : ls[(k : Nat)]? = some (some (.ref x))) (kk : x_V F K pc' ls (.ref x :: st) S P I J n cs sl) : x_V F K pc ls st S P I J n cs sl := by
  intro D b base L xs p l e s m args below meth c H locs Q lr C hH hS h0 hI hL hR
  obtain ⟨hd1, rfl⟩ := hd
  exact lv_aload_n C.1 C.2.1 hd1 rfl (hL.2.2 _ _ hk) (kk D b base L xs p l e s m args below meth c H locs Q lr C hH hS h0 hI hL hR)
theorem v_aload {k : Nat} {x : Nat} (hd : x_d F.1 2 pc (.aload k) pc') (hk : ls[k]? = some (some (.ref x))) (kk : x_V F K pc' ls (.ref x :: st) S P I J n cs sl) : x_V F K pc ls st S P I J n cs sl := by
  intro D b base L xs p l e s m args below meth c H locs Q lr C hH hS h0 hI hL hR
  obtain ⟨hd1, rfl⟩ := hd
  exact lv_aload C.1 C.2.1 hd1 (hL.2.2 _ _ hk) (kk D b base L xs p l e s m args below meth c H locs Q lr C hH hS h0 hI hL hR)
theorem v_aload_nN {k : Fin 4} (hd : x_d F.1 1 pc (.aload_n k) pc') (hk : ls[(k : Nat)]? = some (some .null)) (kk : x_V F K pc' ls (.null :: st) S P I J n cs sl) : x_V F K pc ls st S P I J n cs sl := by
  intro D b base L xs p l e s m args below meth c H locs Q lr C hH hS h0 hI hL hR
  obtain ⟨hd1, rfl⟩ := hd
  exact lv_aload_nN C.1 C.2.1 hd1 rfl (hL.2.2 _ _ hk) (kk D b base L xs p l e s m args below meth c H locs Q lr C hH hS h0 hI hL hR)
theorem v_aloadN {k : Nat} (hd : x_d F.1 2 pc (.aload k) pc') (hk : ls[k]? = some (some .null)) (kk : x_V F K pc' ls (.null :: st) S P I J n cs sl) : x_V F K pc ls st S P I J n cs sl := by
  intro D b base L xs p l e s m args below meth c H locs Q lr C hH hS h0 hI hL hR
  obtain ⟨hd1, rfl⟩ := hd
  exact lv_aloadN C.1 C.2.1 hd1 (hL.2.2 _ _ hk) (kk D b base L xs p l e s m args below meth c H locs Q lr C hH hS h0 hI hL hR)
theorem v_istore_n {k : Fin 4} {x : Int32} {ls' : List (Option Value)} (hd : x_d F.1 1 pc (.istore_n k) pc') (hb : (k : Nat) < F.2.1) (hl : x_s1 ls k (.int x) = ls') (kk : x_V F K pc' ls' st S P I J n cs sl) : x_V F K pc ls (.int x :: st) S P I J n cs sl := by
  intro D b base L xs p l e s m args below meth c H locs Q lr C hH hS h0 hI hL hR
  obtain ⟨hd1, rfl⟩ := hd
  exact lv_istore_n C.1 C.2.1 hd1 rfl hL.has hb rfl (fun lr' h' => kk D b base L xs p l e s m args below meth c H locs Q lr' C hH hS h0 hI (hl ▸ x_L.s1 (v := .int x) h') hR)
theorem v_istore {k : Nat} {x : Int32} {ls' : List (Option Value)} (hd : x_d F.1 2 pc (.istore k) pc') (hb : k < F.2.1) (hl : x_s1 ls k (.int x) = ls') (kk : x_V F K pc' ls' st S P I J n cs sl) : x_V F K pc ls (.int x :: st) S P I J n cs sl := by
  intro D b base L xs p l e s m args below meth c H locs Q lr C hH hS h0 hI hL hR
  obtain ⟨hd1, rfl⟩ := hd
  exact lv_istore C.1 C.2.1 hd1 hL.has hb rfl (fun lr' h' => kk D b base L xs p l e s m args below meth c H locs Q lr' C hH hS h0 hI (hl ▸ x_L.s1 (v := .int x) h') hR)
theorem v_lstore_n {k : Fin 4} {x : Int64} {ls' : List (Option Value)} (hd : x_d F.1 1 pc (.lstore_n k) pc') (hb : (k : Nat) + 1 < F.2.1) (hl : x_s2 ls k (.long x) = ls') (kk : x_V F K pc' ls' st S P I J n cs sl) : x_V F K pc ls (.long x :: st) S P I J n cs sl := by
  intro D b base L xs p l e s m args below meth c H locs Q lr C hH hS h0 hI hL hR
  obtain ⟨hd1, rfl⟩ := hd
  exact lv_lstore_n C.1 C.2.1 hd1 rfl hL.has hb rfl (fun lr' h' => kk D b base L xs p l e s m args below meth c H locs Q lr' C hH hS h0 hI (hl ▸ x_L.s2 (v := .long x) h') hR)
theorem v_lstore {k : Nat} {x : Int64} {ls' : List (Option Value)} (hd : x_d F.1 2 pc (.lstore k) pc') (hb : k + 1 < F.2.1) (hl : x_s2 ls k (.long x) = ls') (kk : x_V F K pc' ls' st S P I J n cs sl) : x_V F K pc ls (.long x :: st) S P I J n cs sl := by
  intro D b base L xs p l e s m args below meth c H locs Q lr C hH hS h0 hI hL hR
  obtain ⟨hd1, rfl⟩ := hd
  exact lv_lstore C.1 C.2.1 hd1 hL.has hb rfl (fun lr' h' => kk D b base L xs p l e s m args below meth c H locs Q lr' C hH hS h0 hI (hl ▸ x_L.s2 (v := .long x) h') hR)
theorem v_astore_n {k : Fin 4} {x : Nat} {ls' : List (Option Value)} (hd : x_d F.1 1 pc (.astore_n k) pc') (hb : (k : Nat) < F.2.1) (hl : x_s1 ls k (.ref x) = ls') (kk : x_V F K pc' ls' st S P I J n cs sl) : x_V F K pc ls (.ref x :: st) S P I J n cs sl := by
  intro D b base L xs p l e s m args below meth c H locs Q lr C hH hS h0 hI hL hR
  obtain ⟨hd1, rfl⟩ := hd
  exact lv_astore_n C.1 C.2.1 hd1 rfl hL.has hb rfl (fun lr' h' => kk D b base L xs p l e s m args below meth c H locs Q lr' C hH hS h0 hI (hl ▸ x_L.s1 (v := .ref x) h') hR)
theorem v_astore {k : Nat} {x : Nat} {ls' : List (Option Value)} (hd : x_d F.1 2 pc (.astore k) pc') (hb : k < F.2.1) (hl : x_s1 ls k (.ref x) = ls') (kk : x_V F K pc' ls' st S P I J n cs sl) : x_V F K pc ls (.ref x :: st) S P I J n cs sl := by
  intro D b base L xs p l e s m args below meth c H locs Q lr C hH hS h0 hI hL hR
  obtain ⟨hd1, rfl⟩ := hd
  exact lv_astore C.1 C.2.1 hd1 hL.has hb rfl (fun lr' h' => kk D b base L xs p l e s m args below meth c H locs Q lr' C hH hS h0 hI (hl ▸ x_L.s1 (v := .ref x) h') hR)
theorem v_astore_nN {k : Fin 4} {ls' : List (Option Value)} (hd : x_d F.1 1 pc (.astore_n k) pc') (hb : (k : Nat) < F.2.1) (hl : x_s1 ls k .null = ls') (kk : x_V F K pc' ls' st S P I J n cs sl) : x_V F K pc ls (.null :: st) S P I J n cs sl := by
  intro D b base L xs p l e s m args below meth c H locs Q lr C hH hS h0 hI hL hR
  obtain ⟨hd1, rfl⟩ := hd
  exact lv_astore_nN C.1 C.2.1 hd1 rfl hL.has hb rfl (fun lr' h' => kk D b base L xs p l e s m args below meth c H locs Q lr' C hH hS h0 hI (hl ▸ x_L.s1 (v := .null) h') hR)
theorem v_astoreN {k : Nat} {ls' : List (Option Value)} (hd : x_d F.1 2 pc (.astore k) pc') (hb : k < F.2.1) (hl : x_s1 ls k .null = ls') (kk : x_V F K pc' ls' st S P I J n cs sl) : x_V F K pc ls (.null :: st) S P I J n cs sl := by
  intro D b base L xs p l e s m args below meth c H locs Q lr C hH hS h0 hI hL hR
  obtain ⟨hd1, rfl⟩ := hd
  exact lv_astoreN C.1 C.2.1 hd1 hL.has hb rfl (fun lr' h' => kk D b base L xs p l e s m args below meth c H locs Q lr' C hH hS h0 hI (hl ▸ x_L.s1 (v := .null) h') hR)
theorem v_iinc {k : Nat} {z : Int} {x v : Int32} {ls' : List (Option Value)} (hd : x_d F.1 3 pc (.iinc k z) pc') (hk : ls[k]? = some (some (.int x))) (hv : x + Int32.ofInt z = v) (hb : k < F.2.1) (hl : x_s1 ls k (.int v) = ls') (kk : x_V F K pc' ls' st S P I J n cs sl) : x_V F K pc ls st S P I J n cs sl := by
  intro D b base L xs p l e s m args below meth c H locs Q lr C hH hS h0 hI hL hR
  obtain ⟨hd1, rfl⟩ := hd
  obtain ⟨q, hq⟩ := List.getElem?_of_mem (x_al_mem (b := b) (base := base) hk)
  exact lv_iinc C.1 C.2.1 hd1 hL.has hq hv hb rfl (fun lr' h' => kk D b base L xs p l e s m args below meth c H locs Q lr' C hH hS h0 hI (hl ▸ x_L.s1 (v := .int v) h') hR)
theorem v_goto {off : Int} {tgt : Nat} (hd : x_j F.1 pc (.goto off) off tgt pc') (kk : x_V F K tgt ls st S P I J n cs sl) : x_V F K pc ls st S P I J n cs sl := by
  intro D b base L xs p l e s m args below meth c H locs Q lr C hH hS h0 hI hL hR
  obtain ⟨hd1, ht, -⟩ := hd
  exact lv_goto C.1 C.2.1 hd1 ht (kk D b base L xs p l e s m args below meth c H locs Q lr C hH hS h0 hI hL hR)
theorem v_if_eq {x : Int32} {off : Int} {tgt : Nat} (hd : x_j F.1 pc (.ifCond .eq off) off tgt pc') (kt : x = 0 → x_V F K tgt ls st S P I J n cs sl) (kf : ¬ x = 0 → x_V F K pc' ls st S P I J n cs sl) : x_V F K pc ls (.int x :: st) S P I J n cs sl := by
  intro D b base L xs p l e s m args below meth c H locs Q lr C hH hS h0 hI hL hR
  obtain ⟨hd1, ht, rfl⟩ := hd
  exact lv_if_eq C.1 C.2.1 hd1 ht (fun h => kt h D b base L xs p l e s m args below meth c H locs Q lr C hH hS h0 hI hL hR) (fun h => kf h D b base L xs p l e s m args below meth c H locs Q lr C hH hS h0 hI hL hR)
theorem v_if_ne {x : Int32} {off : Int} {tgt : Nat} (hd : x_j F.1 pc (.ifCond .ne off) off tgt pc') (kt : ¬ x = 0 → x_V F K tgt ls st S P I J n cs sl) (kf : x = 0 → x_V F K pc' ls st S P I J n cs sl) : x_V F K pc ls (.int x :: st) S P I J n cs sl := by
  intro D b base L xs p l e s m args below meth c H locs Q lr C hH hS h0 hI hL hR
  obtain ⟨hd1, ht, rfl⟩ := hd
  exact lv_if_ne C.1 C.2.1 hd1 ht (fun h => kt h D b base L xs p l e s m args below meth c H locs Q lr C hH hS h0 hI hL hR) (fun h => kf h D b base L xs p l e s m args below meth c H locs Q lr C hH hS h0 hI hL hR)
theorem v_if_lt {x : Int32} {off : Int} {tgt : Nat} (hd : x_j F.1 pc (.ifCond .lt off) off tgt pc') (kt : x < 0 → x_V F K tgt ls st S P I J n cs sl) (kf : ¬ x < 0 → x_V F K pc' ls st S P I J n cs sl) : x_V F K pc ls (.int x :: st) S P I J n cs sl := by
  intro D b base L xs p l e s m args below meth c H locs Q lr C hH hS h0 hI hL hR
  obtain ⟨hd1, ht, rfl⟩ := hd
  exact lv_if_lt C.1 C.2.1 hd1 ht (fun h => kt h D b base L xs p l e s m args below meth c H locs Q lr C hH hS h0 hI hL hR) (fun h => kf h D b base L xs p l e s m args below meth c H locs Q lr C hH hS h0 hI hL hR)
theorem v_if_ge {x : Int32} {off : Int} {tgt : Nat} (hd : x_j F.1 pc (.ifCond .ge off) off tgt pc') (kt : 0 ≤ x → x_V F K tgt ls st S P I J n cs sl) (kf : ¬ 0 ≤ x → x_V F K pc' ls st S P I J n cs sl) : x_V F K pc ls (.int x :: st) S P I J n cs sl := by
  intro D b base L xs p l e s m args below meth c H locs Q lr C hH hS h0 hI hL hR
  obtain ⟨hd1, ht, rfl⟩ := hd
  exact lv_if_ge C.1 C.2.1 hd1 ht (fun h => kt h D b base L xs p l e s m args below meth c H locs Q lr C hH hS h0 hI hL hR) (fun h => kf h D b base L xs p l e s m args below meth c H locs Q lr C hH hS h0 hI hL hR)
theorem v_if_gt {x : Int32} {off : Int} {tgt : Nat} (hd : x_j F.1 pc (.ifCond .gt off) off tgt pc') (kt : 0 < x → x_V F K tgt ls st S P I J n cs sl) (kf : ¬ 0 < x → x_V F K pc' ls st S P I J n cs sl) : x_V F K pc ls (.int x :: st) S P I J n cs sl := by
  intro D b base L xs p l e s m args below meth c H locs Q lr C hH hS h0 hI hL hR
  obtain ⟨hd1, ht, rfl⟩ := hd
  exact lv_if_gt C.1 C.2.1 hd1 ht (fun h => kt h D b base L xs p l e s m args below meth c H locs Q lr C hH hS h0 hI hL hR) (fun h => kf h D b base L xs p l e s m args below meth c H locs Q lr C hH hS h0 hI hL hR)
theorem v_if_le {x : Int32} {off : Int} {tgt : Nat} (hd : x_j F.1 pc (.ifCond .le off) off tgt pc') (kt : x ≤ 0 → x_V F K tgt ls st S P I J n cs sl) (kf : ¬ x ≤ 0 → x_V F K pc' ls st S P I J n cs sl) : x_V F K pc ls (.int x :: st) S P I J n cs sl := by
  intro D b base L xs p l e s m args below meth c H locs Q lr C hH hS h0 hI hL hR
  obtain ⟨hd1, ht, rfl⟩ := hd
  exact lv_if_le C.1 C.2.1 hd1 ht (fun h => kt h D b base L xs p l e s m args below meth c H locs Q lr C hH hS h0 hI hL hR) (fun h => kf h D b base L xs p l e s m args below meth c H locs Q lr C hH hS h0 hI hL hR)
theorem v_icmp_eq {x y : Int32} {off : Int} {tgt : Nat} (hd : x_j F.1 pc (.if_icmp .eq off) off tgt pc') (kt : x = y → x_V F K tgt ls st S P I J n cs sl) (kf : ¬ x = y → x_V F K pc' ls st S P I J n cs sl) : x_V F K pc ls (.int y :: .int x :: st) S P I J n cs sl := by
  intro D b base L xs p l e s m args below meth c H locs Q lr C hH hS h0 hI hL hR
  obtain ⟨hd1, ht, rfl⟩ := hd
  exact lv_icmp_eq C.1 C.2.1 hd1 ht (fun h => kt h D b base L xs p l e s m args below meth c H locs Q lr C hH hS h0 hI hL hR) (fun h => kf h D b base L xs p l e s m args below meth c H locs Q lr C hH hS h0 hI hL hR)
theorem v_icmp_ne {x y : Int32} {off : Int} {tgt : Nat} (hd : x_j F.1 pc (.if_icmp .ne off) off tgt pc') (kt : ¬ x = y → x_V F K tgt ls st S P I J n cs sl) (kf : x = y → x_V F K pc' ls st S P I J n cs sl) : x_V F K pc ls (.int y :: .int x :: st) S P I J n cs sl := by
  intro D b base L xs p l e s m args below meth c H locs Q lr C hH hS h0 hI hL hR
  obtain ⟨hd1, ht, rfl⟩ := hd
  exact lv_icmp_ne C.1 C.2.1 hd1 ht (fun h => kt h D b base L xs p l e s m args below meth c H locs Q lr C hH hS h0 hI hL hR) (fun h => kf h D b base L xs p l e s m args below meth c H locs Q lr C hH hS h0 hI hL hR)
theorem v_icmp_lt {x y : Int32} {off : Int} {tgt : Nat} (hd : x_j F.1 pc (.if_icmp .lt off) off tgt pc') (kt : x < y → x_V F K tgt ls st S P I J n cs sl) (kf : ¬ x < y → x_V F K pc' ls st S P I J n cs sl) : x_V F K pc ls (.int y :: .int x :: st) S P I J n cs sl := by
  intro D b base L xs p l e s m args below meth c H locs Q lr C hH hS h0 hI hL hR
  obtain ⟨hd1, ht, rfl⟩ := hd
  exact lv_icmp_lt C.1 C.2.1 hd1 ht (fun h => kt h D b base L xs p l e s m args below meth c H locs Q lr C hH hS h0 hI hL hR) (fun h => kf h D b base L xs p l e s m args below meth c H locs Q lr C hH hS h0 hI hL hR)
theorem v_icmp_ge {x y : Int32} {off : Int} {tgt : Nat} (hd : x_j F.1 pc (.if_icmp .ge off) off tgt pc') (kt : y ≤ x → x_V F K tgt ls st S P I J n cs sl) (kf : ¬ y ≤ x → x_V F K pc' ls st S P I J n cs sl) : x_V F K pc ls (.int y :: .int x :: st) S P I J n cs sl := by
  intro D b base L xs p l e s m args below meth c H locs Q lr C hH hS h0 hI hL hR
  obtain ⟨hd1, ht, rfl⟩ := hd
  exact lv_icmp_ge C.1 C.2.1 hd1 ht (fun h => kt h D b base L xs p l e s m args below meth c H locs Q lr C hH hS h0 hI hL hR) (fun h => kf h D b base L xs p l e s m args below meth c H locs Q lr C hH hS h0 hI hL hR)
theorem v_icmp_gt {x y : Int32} {off : Int} {tgt : Nat} (hd : x_j F.1 pc (.if_icmp .gt off) off tgt pc') (kt : y < x → x_V F K tgt ls st S P I J n cs sl) (kf : ¬ y < x → x_V F K pc' ls st S P I J n cs sl) : x_V F K pc ls (.int y :: .int x :: st) S P I J n cs sl := by
  intro D b base L xs p l e s m args below meth c H locs Q lr C hH hS h0 hI hL hR
  obtain ⟨hd1, ht, rfl⟩ := hd
  exact lv_icmp_gt C.1 C.2.1 hd1 ht (fun h => kt h D b base L xs p l e s m args below meth c H locs Q lr C hH hS h0 hI hL hR) (fun h => kf h D b base L xs p l e s m args below meth c H locs Q lr C hH hS h0 hI hL hR)
theorem v_icmp_le {x y : Int32} {off : Int} {tgt : Nat} (hd : x_j F.1 pc (.if_icmp .le off) off tgt pc') (kt : x ≤ y → x_V F K tgt ls st S P I J n cs sl) (kf : ¬ x ≤ y → x_V F K pc' ls st S P I J n cs sl) : x_V F K pc ls (.int y :: .int x :: st) S P I J n cs sl := by
  intro D b base L xs p l e s m args below meth c H locs Q lr C hH hS h0 hI hL hR
  obtain ⟨hd1, ht, rfl⟩ := hd
  exact lv_icmp_le C.1 C.2.1 hd1 ht (fun h => kt h D b base L xs p l e s m args below meth c H locs Q lr C hH hS h0 hI hL hR) (fun h => kf h D b base L xs p l e s m args below meth c H locs Q lr C hH hS h0 hI hL hR)
theorem v_ifnull {x : Nat} {off : Int} {tgt : Nat} (hd : x_j F.1 pc (.ifnull off) off tgt pc') (kk : x_V F K pc' ls st S P I J n cs sl) : x_V F K pc ls (.ref x :: st) S P I J n cs sl := by
  intro D b base L xs p l e s m args below meth c H locs Q lr C hH hS h0 hI hL hR
  obtain ⟨hd1, ht, rfl⟩ := hd
  exact lv_ifnull C.1 C.2.1 hd1 (kk D b base L xs p l e s m args below meth c H locs Q lr C hH hS h0 hI hL hR)
theorem v_ifnonnull {x : Nat} {off : Int} {tgt : Nat} (hd : x_j F.1 pc (.ifnonnull off) off tgt pc') (kk : x_V F K tgt ls st S P I J n cs sl) : x_V F K pc ls (.ref x :: st) S P I J n cs sl := by
  intro D b base L xs p l e s m args below meth c H locs Q lr C hH hS h0 hI hL hR
  obtain ⟨hd1, ht, -⟩ := hd
  exact lv_ifnonnull C.1 C.2.1 hd1 ht (kk D b base L xs p l e s m args below meth c H locs Q lr C hH hS h0 hI hL hR)
theorem v_ifnullN {off : Int} {tgt : Nat} (hd : x_j F.1 pc (.ifnull off) off tgt pc') (kk : x_V F K tgt ls st S P I J n cs sl) : x_V F K pc ls (.null :: st) S P I J n cs sl := by
  intro D b base L xs p l e s m args below meth c H locs Q lr C hH hS h0 hI hL hR
  obtain ⟨hd1, ht, -⟩ := hd
  exact lv_ifnullN C.1 C.2.1 hd1 ht (kk D b base L xs p l e s m args below meth c H locs Q lr C hH hS h0 hI hL hR)
theorem v_ifnonnullN {off : Int} {tgt : Nat} (hd : x_j F.1 pc (.ifnonnull off) off tgt pc') (kk : x_V F K pc' ls st S P I J n cs sl) : x_V F K pc ls (.null :: st) S P I J n cs sl := by
  intro D b base L xs p l e s m args below meth c H locs Q lr C hH hS h0 hI hL hR
  obtain ⟨hd1, ht, rfl⟩ := hd
  exact lv_ifnonnullN C.1 C.2.1 hd1 (kk D b base L xs p l e s m args below meth c H locs Q lr C hH hS h0 hI hL hR)
theorem v_tin {dflt lo hi : Int} {offs : Array Int} {len : Nat} {x : Int32} {off : Int} {tgt : Nat} (hd : x_d F.1 len pc (.tableswitch dflt lo hi offs) pc') (h1 : ¬ x.toInt < lo) (h2 : ¬ hi < x.toInt) (ho : offs[(x.toInt - lo).toNat]? = some off) (ht : (pc : Int) + off = (tgt : Int)) (kk : x_V F K tgt ls st S P I J n cs sl) : x_V F K pc ls (.int x :: st) S P I J n cs sl := by
  intro D b base L xs p l e s m args below meth c H locs Q lr C hH hS h0 hI hL hR
  exact lv_tableIn C.1 C.2.1 hd.1 h1 h2 ho ht (kk D b base L xs p l e s m args below meth c H locs Q lr C hH hS h0 hI hL hR)
theorem v_tout {dflt lo hi : Int} {offs : Array Int} {len : Nat} {x : Int32} {tgt : Nat} (hd : x_d F.1 len pc (.tableswitch dflt lo hi offs) pc') (h : x.toInt < lo ∨ hi < x.toInt) (ht : (pc : Int) + dflt = (tgt : Int)) (kk : x_V F K tgt ls st S P I J n cs sl) : x_V F K pc ls (.int x :: st) S P I J n cs sl := by
  intro D b base L xs p l e s m args below meth c H locs Q lr C hH hS h0 hI hL hR
  exact lv_tableOut C.1 C.2.1 hd.1 h ht (kk D b base L xs p l e s m args below meth c H locs Q lr C hH hS h0 hI hL hR)
theorem v_look {dflt : Int} {ps : Array (Int × Int)} {len : Nat} {x : Int32} {off : Int} {tgt : Nat} (hd : x_d F.1 len pc (.lookupswitch dflt ps) pc') (hp : (ps.toList.zip (ps.toList.drop 1)).all (fun (a, next) => a.1 < next.1) = true) (ho : Op.lookupswitch.offset ps.toList dflt x.toInt = off) (ht : (pc : Int) + off = (tgt : Int)) (kk : x_V F K tgt ls st S P I J n cs sl) : x_V F K pc ls (.int x :: st) S P I J n cs sl := by
  intro D b base L xs p l e s m args below meth c H locs Q lr C hH hS h0 hI hL hR
  exact lv_lookup C.1 C.2.1 hd.1 hp ho ht (kk D b base L xs p l e s m args below meth c H locs Q lr C hH hS h0 hI hL hR)
theorem v_ldc2 {idx : Nat} {v : Int64} (hd : x_d F.1 3 pc (.ldc2_w idx) pc') (hw : Cond.constantLong F.2.2.1.cls idx v ∈ lw_tbl) (kk : x_V F K pc' ls (.long v :: st) S P I J n cs sl) : x_V F K pc ls st S P I J n cs sl := by
  intro D b base L xs p l e s m args below meth c H locs Q lr C hH hS h0 hI hL hR
  obtain ⟨hd1, rfl⟩ := hd
  exact lv_ldc2 C.1 C.2.1 C.2.2.2.1 (C.2.2.2.2.2.2.2.1.1 _ hw _) hd1 (kk D b base L xs p l e s m args below meth c H locs Q lr C hH hS h0 hI hL hR)
theorem v_ldcw {idx : Nat} {v : Int32} (hd : x_d F.1 3 pc (.ldc_w idx) pc') (hw : Cond.constant F.2.2.1.cls idx v ∈ lw_tbl) (kk : x_V F K pc' ls (.int v :: st) S P I J n cs sl) : x_V F K pc ls st S P I J n cs sl := by
  intro D b base L xs p l e s m args below meth c H locs Q lr C hH hS h0 hI hL hR
  obtain ⟨hd1, rfl⟩ := hd
  exact lv_ldcw C.1 C.2.1 C.2.2.2.1 (C.2.2.2.2.2.2.2.1.1 _ hw _) hd1 (kk D b base L xs p l e s m args below meth c H locs Q lr C hH hS h0 hI hL hR)
theorem v_ret {v : Option Value} {i : Instr} (hd : x_d F.1 1 pc i pc') (hv : v.toList = st) (hro : x_ro v F.2.2.2.1 i) (hc : cs ≤ F.2.2.2.2.cells) (hsl : sl ≤ F.2.2.2.2.slots) (hK : K v S P I J n) : x_V F K pc ls st S P I J n cs sl := by
  intro D b base L xs p l e s m args below meth c H locs Q lr C hH hS h0 hI hL hR
  subst hv
  exact hR v S P I J n H locs pc lr cs sl i hK hH hS h0 hI hd.1 hro hc hsl
end XRULES
