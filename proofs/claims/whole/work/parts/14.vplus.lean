/-! jumps, their conditions told in whole numbers -/
theorem x_ti {k : Nat} (h : k < 2147483648) : (nI k).toInt = (k : Int) := nI_toInt h
theorem x_tm1 : (-1 : Int32).toInt = -1 := by decide
theorem x_t0 : (0 : Int32).toInt = 0 := by decide
theorem x_tl {k : Nat} (h : k < 2147483648) : (lN k).toInt = (k : Int) := lN_toInt h
section XPLUS
variable {F : x_F} {K : x_K} {pc pc' pc'' : Nat} {ls : List (Option Value)} {st : List Value} {S : x_S} {P : x_P} {I : x_I} {J : x_J} {n cs sl : Nat}
theorem x_lt32 {a b : Int32} (h : a < b) : a.toInt < b.toInt := Int32.lt_iff_toInt_lt.mp h
theorem x_le32 {a b : Int32} (h : a ≤ b) : a.toInt ≤ b.toInt := Int32.le_iff_toInt_le.mp h
theorem x_nlt32 {a b : Int32} (h : ¬ a < b) : b.toInt ≤ a.toInt := Int.not_lt.mp fun q => h (Int32.lt_iff_toInt_lt.mpr q)
theorem x_nle32 {a b : Int32} (h : ¬ a ≤ b) : b.toInt < a.toInt := Int.not_le.mp fun q => h (Int32.le_iff_toInt_le.mpr q)
theorem x_eq32 {a b : Int32} (h : a = b) : a.toInt = b.toInt := congrArg _ h
theorem x_ne32 {a b : Int32} (h : ¬ a = b) : ¬ a.toInt = b.toInt := fun q => h (Int32.toInt_inj.mp q)
theorem w_if_eq {x : Int32} {off : Int} {tgt : Nat} (hd : x_j F.1 pc (.ifCond .eq off) off tgt pc') (kt : x.toInt = 0 → x_V F K tgt ls st S P I J n cs sl) (kf : ¬ x.toInt = 0 → x_V F K pc' ls st S P I J n cs sl) : x_V F K pc ls (.int x :: st) S P I J n cs sl :=
  v_if_eq hd (fun h => kt (by have := x_eq32 h; rw [x_t0] at this; exact this)) (fun h => kf (by have := x_ne32 h; rw [x_t0] at this; exact this))
theorem w_icmp_eq {x y : Int32} {off : Int} {tgt : Nat} (hd : x_j F.1 pc (.if_icmp .eq off) off tgt pc') (kt : x.toInt = y.toInt → x_V F K tgt ls st S P I J n cs sl) (kf : ¬ x.toInt = y.toInt → x_V F K pc' ls st S P I J n cs sl) : x_V F K pc ls (.int y :: .int x :: st) S P I J n cs sl :=
  v_icmp_eq hd (fun h => kt (x_eq32 h)) (fun h => kf (x_ne32 h))
theorem w_if_ne {x : Int32} {off : Int} {tgt : Nat} (hd : x_j F.1 pc (.ifCond .ne off) off tgt pc') (kt : ¬ x.toInt = 0 → x_V F K tgt ls st S P I J n cs sl) (kf : x.toInt = 0 → x_V F K pc' ls st S P I J n cs sl) : x_V F K pc ls (.int x :: st) S P I J n cs sl :=
  v_if_ne hd (fun h => kt (by have := x_ne32 h; rw [x_t0] at this; exact this)) (fun h => kf (by have := x_eq32 h; rw [x_t0] at this; exact this))
theorem w_icmp_ne {x y : Int32} {off : Int} {tgt : Nat} (hd : x_j F.1 pc (.if_icmp .ne off) off tgt pc') (kt : ¬ x.toInt = y.toInt → x_V F K tgt ls st S P I J n cs sl) (kf : x.toInt = y.toInt → x_V F K pc' ls st S P I J n cs sl) : x_V F K pc ls (.int y :: .int x :: st) S P I J n cs sl :=
  v_icmp_ne hd (fun h => kt (x_ne32 h)) (fun h => kf (x_eq32 h))
theorem w_if_lt {x : Int32} {off : Int} {tgt : Nat} (hd : x_j F.1 pc (.ifCond .lt off) off tgt pc') (kt : x.toInt < 0 → x_V F K tgt ls st S P I J n cs sl) (kf : 0 ≤ x.toInt → x_V F K pc' ls st S P I J n cs sl) : x_V F K pc ls (.int x :: st) S P I J n cs sl :=
  v_if_lt hd (fun h => kt (by have := x_lt32 h; rw [x_t0] at this; exact this)) (fun h => kf (by have := x_nlt32 h; rw [x_t0] at this; exact this))
theorem w_icmp_lt {x y : Int32} {off : Int} {tgt : Nat} (hd : x_j F.1 pc (.if_icmp .lt off) off tgt pc') (kt : x.toInt < y.toInt → x_V F K tgt ls st S P I J n cs sl) (kf : y.toInt ≤ x.toInt → x_V F K pc' ls st S P I J n cs sl) : x_V F K pc ls (.int y :: .int x :: st) S P I J n cs sl :=
  v_icmp_lt hd (fun h => kt (x_lt32 h)) (fun h => kf (x_nlt32 h))
theorem w_if_ge {x : Int32} {off : Int} {tgt : Nat} (hd : x_j F.1 pc (.ifCond .ge off) off tgt pc') (kt : 0 ≤ x.toInt → x_V F K tgt ls st S P I J n cs sl) (kf : x.toInt < 0 → x_V F K pc' ls st S P I J n cs sl) : x_V F K pc ls (.int x :: st) S P I J n cs sl :=
  v_if_ge hd (fun h => kt (by have := x_le32 h; rw [x_t0] at this; exact this)) (fun h => kf (by have := x_nle32 h; rw [x_t0] at this; exact this))
theorem w_icmp_ge {x y : Int32} {off : Int} {tgt : Nat} (hd : x_j F.1 pc (.if_icmp .ge off) off tgt pc') (kt : y.toInt ≤ x.toInt → x_V F K tgt ls st S P I J n cs sl) (kf : x.toInt < y.toInt → x_V F K pc' ls st S P I J n cs sl) : x_V F K pc ls (.int y :: .int x :: st) S P I J n cs sl :=
  v_icmp_ge hd (fun h => kt (x_le32 h)) (fun h => kf (x_nle32 h))
theorem w_if_gt {x : Int32} {off : Int} {tgt : Nat} (hd : x_j F.1 pc (.ifCond .gt off) off tgt pc') (kt : 0 < x.toInt → x_V F K tgt ls st S P I J n cs sl) (kf : x.toInt ≤ 0 → x_V F K pc' ls st S P I J n cs sl) : x_V F K pc ls (.int x :: st) S P I J n cs sl :=
  v_if_gt hd (fun h => kt (by have := x_lt32 h; rw [x_t0] at this; exact this)) (fun h => kf (by have := x_nlt32 h; rw [x_t0] at this; exact this))
theorem w_icmp_gt {x y : Int32} {off : Int} {tgt : Nat} (hd : x_j F.1 pc (.if_icmp .gt off) off tgt pc') (kt : y.toInt < x.toInt → x_V F K tgt ls st S P I J n cs sl) (kf : x.toInt ≤ y.toInt → x_V F K pc' ls st S P I J n cs sl) : x_V F K pc ls (.int y :: .int x :: st) S P I J n cs sl :=
  v_icmp_gt hd (fun h => kt (x_lt32 h)) (fun h => kf (x_nlt32 h))
theorem w_if_le {x : Int32} {off : Int} {tgt : Nat} (hd : x_j F.1 pc (.ifCond .le off) off tgt pc') (kt : x.toInt ≤ 0 → x_V F K tgt ls st S P I J n cs sl) (kf : 0 < x.toInt → x_V F K pc' ls st S P I J n cs sl) : x_V F K pc ls (.int x :: st) S P I J n cs sl :=
  v_if_le hd (fun h => kt (by have := x_le32 h; rw [x_t0] at this; exact this)) (fun h => kf (by have := x_nle32 h; rw [x_t0] at this; exact this))
theorem w_icmp_le {x y : Int32} {off : Int} {tgt : Nat} (hd : x_j F.1 pc (.if_icmp .le off) off tgt pc') (kt : x.toInt ≤ y.toInt → x_V F K tgt ls st S P I J n cs sl) (kf : y.toInt < x.toInt → x_V F K pc' ls st S P I J n cs sl) : x_V F K pc ls (.int y :: .int x :: st) S P I J n cs sl :=
  v_icmp_le hd (fun h => kt (x_le32 h)) (fun h => kf (x_nle32 h))
theorem x_lt64 {a b : Int64} (h : a < b) : a.toInt < b.toInt := Int64.lt_iff_toInt_lt.mp h
theorem x_le64 {a b : Int64} (h : a ≤ b) : a.toInt ≤ b.toInt := Int64.le_iff_toInt_le.mp h
theorem x_nlt64 {a b : Int64} (h : ¬ a < b) : b.toInt ≤ a.toInt := Int.not_lt.mp fun q => h (Int64.lt_iff_toInt_lt.mpr q)
theorem x_nle64 {a b : Int64} (h : ¬ a ≤ b) : b.toInt < a.toInt := Int.not_le.mp fun q => h (Int64.le_iff_toInt_le.mpr q)
theorem x_eq64 {a b : Int64} (h : a = b) : a.toInt = b.toInt := congrArg _ h
theorem x_ne64 {a b : Int64} (h : ¬ a = b) : ¬ a.toInt = b.toInt := fun q => h (Int64.toInt_inj.mp q)
theorem w_lc_eq {x y : Int64} {off : Int} {tgt : Nat} (hd0 : x_d F.1 1 pc .lcmp pc') (hd : x_j F.1 pc' (.ifCond .eq off) off tgt pc'') (kt : x.toInt = y.toInt → x_V F K tgt ls st S P I J n cs sl) (kf : ¬ x.toInt = y.toInt → x_V F K pc'' ls st S P I J n cs sl) : x_V F K pc ls (.long y :: .long x :: st) S P I J n cs sl :=
  v_lcmp hd0 (v_if_eq hd (fun h => kt (x_eq64 ((lg_cmp_eq x y).mp h))) (fun h => kf (x_ne64 (fun q => h ((lg_cmp_eq x y).mpr q)))))
theorem w_lc_ne {x y : Int64} {off : Int} {tgt : Nat} (hd0 : x_d F.1 1 pc .lcmp pc') (hd : x_j F.1 pc' (.ifCond .ne off) off tgt pc'') (kt : ¬ x.toInt = y.toInt → x_V F K tgt ls st S P I J n cs sl) (kf : x.toInt = y.toInt → x_V F K pc'' ls st S P I J n cs sl) : x_V F K pc ls (.long y :: .long x :: st) S P I J n cs sl :=
  v_lcmp hd0 (v_if_ne hd (fun h => kt (x_ne64 (fun q => h ((lg_cmp_eq x y).mpr q)))) (fun h => kf (x_eq64 ((lg_cmp_eq x y).mp h))))
theorem w_lc_lt {x y : Int64} {off : Int} {tgt : Nat} (hd0 : x_d F.1 1 pc .lcmp pc') (hd : x_j F.1 pc' (.ifCond .lt off) off tgt pc'') (kt : x.toInt < y.toInt → x_V F K tgt ls st S P I J n cs sl) (kf : y.toInt ≤ x.toInt → x_V F K pc'' ls st S P I J n cs sl) : x_V F K pc ls (.long y :: .long x :: st) S P I J n cs sl :=
  v_lcmp hd0 (v_if_lt hd (fun h => kt (x_lt64 ((lg_cmp_lt x y).mp h))) (fun h => kf (x_nlt64 (fun q => h ((lg_cmp_lt x y).mpr q)))))
theorem w_lc_ge {x y : Int64} {off : Int} {tgt : Nat} (hd0 : x_d F.1 1 pc .lcmp pc') (hd : x_j F.1 pc' (.ifCond .ge off) off tgt pc'') (kt : y.toInt ≤ x.toInt → x_V F K tgt ls st S P I J n cs sl) (kf : x.toInt < y.toInt → x_V F K pc'' ls st S P I J n cs sl) : x_V F K pc ls (.long y :: .long x :: st) S P I J n cs sl :=
  v_lcmp hd0 (v_if_ge hd (fun h => kt (x_le64 ((lg_cmp_ge x y).mp h))) (fun h => kf (x_nle64 (fun q => h ((lg_cmp_ge x y).mpr q)))))
theorem w_lc_gt {x y : Int64} {off : Int} {tgt : Nat} (hd0 : x_d F.1 1 pc .lcmp pc') (hd : x_j F.1 pc' (.ifCond .gt off) off tgt pc'') (kt : y.toInt < x.toInt → x_V F K tgt ls st S P I J n cs sl) (kf : x.toInt ≤ y.toInt → x_V F K pc'' ls st S P I J n cs sl) : x_V F K pc ls (.long y :: .long x :: st) S P I J n cs sl :=
  v_lcmp hd0 (v_if_gt hd (fun h => kt (x_lt64 ((lg_cmp_gt x y).mp h))) (fun h => kf (x_nlt64 (fun q => h ((lg_cmp_gt x y).mpr q)))))
theorem w_lc_le {x y : Int64} {off : Int} {tgt : Nat} (hd0 : x_d F.1 1 pc .lcmp pc') (hd : x_j F.1 pc' (.ifCond .le off) off tgt pc'') (kt : x.toInt ≤ y.toInt → x_V F K tgt ls st S P I J n cs sl) (kf : y.toInt < x.toInt → x_V F K pc'' ls st S P I J n cs sl) : x_V F K pc ls (.long y :: .long x :: st) S P I J n cs sl :=
  v_lcmp hd0 (v_if_le hd (fun h => kt (x_le64 ((lg_cmp_le x y).mp h))) (fun h => kf (x_nle64 (fun q => h ((lg_cmp_le x y).mpr q)))))
theorem v_gie {idx ci k a : Nat} {v : Int32} (hd : x_d F.1 3 pc (.getfield idx) pc') (hl : x_fl F.2.2.1.cls idx ci k) (ht : x_ft ci k = 0) (hs : S a = .inl ci) (hv : I a k = v) (kk : x_V F K pc' ls (.int v :: st) S P I J n cs sl) : x_V F K pc ls (.ref a :: st) S P I J n cs sl := v_gi hd hl ht hs (by rw [hv]; exact kk)
theorem v_gle {idx ci k a : Nat} {v : Int64} (hd : x_d F.1 3 pc (.getfield idx) pc') (hl : x_fl F.2.2.1.cls idx ci k) (ht : x_ft ci k = 1) (hs : S a = .inl ci) (hv : J a k = v) (kk : x_V F K pc' ls (.long v :: st) S P I J n cs sl) : x_V F K pc ls (.ref a :: st) S P I J n cs sl := v_gl hd hl ht hs (by rw [hv]; exact kk)
theorem x_V.fg1 (k : Nat) {ls' : List (Option Value)} (hl : ls.set k none = ls') (h : x_V F K pc ls' st S P I J n cs sl) : x_V F K pc ls st S P I J n cs sl := by
  intro D b base L xs p l e s m args below meth c H locs Q lr C hH hS h0 hI hL hR
  refine h D b base L xs p l e s m args below meth c H locs Q lr C hH hS h0 hI ⟨hL.1, hL.2.1, fun i v hi => hL.2.2 i v ?_⟩ hR
  subst hl
  by_cases e : k = i
  · subst e
    rw [List.getElem?_set_self'] at hi
    cases hc : ls[k]? with
    | none => rw [hc] at hi; cases hi
    | some z => rw [hc] at hi; cases hi
  · rw [List.getElem?_set_ne e] at hi; exact hi
end XPLUS
