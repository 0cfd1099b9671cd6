/-! New cells, calls, instanceof. -/
def x_z (ty : FieldType) : Value := x_fv (fun _ _ => none) (fun _ _ => 0) (fun _ _ => 0) (x_tc ty) 0 0
/-- a class link that makes an object of class ci, of N fields -/
def x_nl (own : String) (idx ci N : Nat) : Prop := ∃ (Cn : String) (T : u_T), x_CK ci Cn T N ∧ Cond.classLink own idx Cn ∈ lw_tbl ∧ Cond.instantiable Cn N ∈ lw_tbl ∧ Cond.initialized Cn ∈ lw_tbl ∧ (∀ k, k < N → defaultValue (x_tys ci k) = x_z (x_tys ci k))
theorem x_z_at {P : x_P} {I : x_I} {J : x_J} {b base a k : Nat} {ty : FieldType} : x_tr b base (x_fv (x_u1 P a (fun _ => none)) (x_u1 I a (fun _ => 0)) (x_u1 J a (fun _ => 0)) (x_tc ty) a k) = x_z ty := by
  unfold x_z x_fv
  simp only [x_u1_s]
  cases ty <;> rfl
section XNEW
variable {F : x_F} {K : x_K} {pc pc' : Nat} {ls : List (Option Value)} {st : List Value} {S : x_S} {P : x_P} {I : x_I} {J : x_J} {n cs sl a : Nat}
theorem x_xI1 {I : x_I} {a : Nat} {f : Nat → Int32} {xs : Nat → Int32} (h : I 0 = xs) (ha : 0 < a) : x_u1 I a f 0 = xs := by rw [x_u1_n _ _ (by omega)]; exact h
theorem x_xS1 {S : x_S} {a : Nat} {f z : x_Sh} (h : S 0 = z) (ha : 0 < a) : x_u1 S a f 0 = z := by rw [x_u1_n _ _ (by omega)]; exact h
theorem v_new {idx ci N : Nat} (hd : x_d F.1 3 pc (.new idx) pc') (hl : x_nl F.2.2.1.cls idx ci N) (hc : cs + 1 ≤ F.2.2.2.2.cells) (hsl : sl + N ≤ F.2.2.2.2.slots) (kk : x_V F K pc' ls (.ref (n + 1) :: st) (x_u1 S (n + 1) (.inl ci)) (x_u1 P (n + 1) (fun _ => none)) (x_u1 I (n + 1) (fun _ => 0)) (x_u1 J (n + 1) (fun _ => 0)) (n + 1) (cs + 1) (sl + N)) : x_V F K pc ls st S P I J n cs sl := by
  intro D b base L xs p l e s m args below meth c H locs Q lr C hH hS h0 hI hL hR
  obtain ⟨hd1, rfl⟩ := hd
  obtain ⟨Cn, T, ⟨hck, hin, hty, hnm⟩, hcl, hins, hini, hdv⟩ := hl
  have hW := C.2.2.2.2.2.2.2.1
  have hts : ∀ w ∈ lw_tbl, w.before args s = true := fun w hw => hW.1 w hw args
  have hKn := hW.2.1 ci _ hck
  refine W.newcK C.1 C.2.1 C.2.2.2.1 (hts _ hcl) (hts _ hins) (hts _ hini) rfl hd1 hc hsl hKn.2.1 (h := base + n) hH.1 (fun H1 kC e1 e2 e3 e4 => ?_)
  have hob := u_born (x_tys ci) hts hin hKn e1 e2 hty
  have hb := C.2.2.2.2.2.2.2.2.2.1
  refine kk D b base L xs p l e s m args below meth c H1 locs Q lr C (hH.new hb (by rw [e3, hH.1]) (fun q hq => e4 q (by rw [hH.1] at hq; exact hq)) ?_) ⟨Nat.le_trans hS.1 (by rw [e3, hH.1]; omega), fun q h1 h2 => by rw [e4 q (by have := hS.1; rw [hH.1] at this; omega)]; exact hS.2.1 q h1 h2, hS.2.2⟩ (x_xS1 h0 (by omega)) (x_xI1 hI (by omega)) hL hR
  unfold x_at
  rw [x_u1_s]
  refine ⟨_, hck, hob.to (fun k hk => ?_)⟩
  rw [hdv k hk]
  exact x_z_at.symm
theorem v_newa {at' : ArrayType} {x : Int32} {N t : Nat} (hd : x_d F.1 2 pc (.newarray at') pc') (hty : newarray.typeOf at' = x_kt t) (ht : t ≤ 2) (hw : Cond.arrayClass (x_kt t) ∈ lw_tbl) (hx : x = nI N) (hN : N < 2147483648) (hby : N * componentBytes (x_kt t) ≤ 536870912) (hc : cs + 1 ≤ F.2.2.2.2.cells) (hsl : sl + N ≤ F.2.2.2.2.slots) (kk : x_V F K pc' ls (.ref (n + 1) :: st) (x_u1 S (n + 1) (.inr (t, N))) (x_u1 P (n + 1) (fun _ => none)) (x_u1 I (n + 1) (fun _ => 0)) (x_u1 J (n + 1) (fun _ => 0)) (n + 1) (cs + 1) (sl + N)) : x_V F K pc ls (.int x :: st) S P I J n cs sl := by
  intro D b base L xs p l e s m args below meth c H locs Q lr C hH hS h0 hI hL hR
  obtain ⟨hd1, rfl⟩ := hd
  subst hx
  have hW := C.2.2.2.2.2.2.2.1
  refine W.newaK C.1 C.2.1 (by rw [hty]; exact hW.1 _ hw args) rfl hd1 rfl (nI_pos hN) (nI_clamp hN) (by rw [hty]; exact hby) hc hsl (h := base + n) hH.1 (fun H1 cA e2 e3 e4 hA => ?_)
  have hb := C.2.2.2.2.2.2.2.2.2.1
  refine kk D b base L xs p l e s m args below meth c H1 locs Q lr C (hH.new hb (by rw [e3, hH.1]) (fun q hq => e4 q (by rw [hH.1] at hq; exact hq)) ?_) ⟨Nat.le_trans hS.1 (by rw [e3, hH.1]; omega), fun q h1 h2 => by rw [e4 q (by have := hS.1; rw [hH.1] at this; omega)]; exact hS.2.1 q h1 h2, hS.2.2⟩ (x_xS1 h0 (by omega)) (x_xI1 hI (by omega)) hL hR
  unfold x_at
  rw [x_u1_s]
  refine ⟨cA, by rw [← hty]; exact hA, (fun q => by omega), ?_⟩
  show H1[base + n]? = _
  rw [e2, hty]
  congr 2
  funext j
  rcases (show t = 0 ∨ t = 1 ∨ t = 2 by omega) with rfl | rfl | rfl <;> simp [x_kt, x_kc, x_fv, x_u1_s, defaultValue, x_tr]
theorem v_anew {idx : Nat} {x : Int32} {N : Nat} (hd : x_d F.1 3 pc (.anewarray idx) pc') (hcl : Cond.classLink F.2.2.1.cls idx "BentPictures$Wall" ∈ lw_tbl) (hov : Cond.arrayOver (.object "BentPictures$Wall") ∈ lw_tbl) (hx : x = nI N) (hN : N < 2147483648) (hby : N * 4 ≤ 536870912) (hc : cs + 1 ≤ F.2.2.2.2.cells) (hsl : sl + N ≤ F.2.2.2.2.slots) (kk : x_V F K pc' ls (.ref (n + 1) :: st) (x_u1 S (n + 1) (.inr (3, N))) (x_u1 P (n + 1) (fun _ => none)) (x_u1 I (n + 1) (fun _ => 0)) (x_u1 J (n + 1) (fun _ => 0)) (n + 1) (cs + 1) (sl + N)) : x_V F K pc ls (.int x :: st) S P I J n cs sl := by
  intro D b base L xs p l e s m args below meth c H locs Q lr C hH hS h0 hI hL hR
  obtain ⟨hd1, rfl⟩ := hd
  subst hx
  have hW := C.2.2.2.2.2.2.2.1
  have hcN := nI_clamp hN
  refine W.anew C.1 C.2.1 C.2.2.2.1 (hW.1 _ hcl args) (hW.1 _ hov args) rfl hd1 rfl (nI_pos hN) (by rw [hcN]; exact hby) hc (by rw [hcN]; exact hsl) fun cA kA comp f1 f2 f3 f4 => ?_
  rw [hcN]
  generalize hH1 : H.push ({ cls := cA, slots := Array.replicate N .null, vm := .none } : Cell) = H1
  have e3 : H1.size = H.size + 1 := by rw [← hH1, Array.size_push]
  have e2 : H1[H.size]? = some (arrV cA N (fun _ => .null)) := by rw [← hH1, Array.getElem?_push_size, ← arrV_new]
  have e4 : ∀ q : Nat, q < H.size → H1[q]? = H[q]? := fun q hq => by rw [← hH1, Array.getElem?_push, if_neg (Nat.ne_of_lt hq)]
  have hAr : ArrOfT s cA (.object "BentPictures$Wall") := fun N z => ⟨(fun k h => by cases h), kA, f2, comp, f3⟩
  have hb := C.2.2.2.2.2.2.2.2.2.1
  have hV := kk D b base L xs p l e s m args below meth c H1 locs Q lr C (hH.new hb e3 e4 ?_) ⟨Nat.le_trans hS.1 (by rw [e3]; omega), fun q h1 h2 => by rw [e4 q (by have := hS.1; omega)]; exact hS.2.1 q h1 h2, hS.2.2⟩ (x_xS1 h0 (by omega)) (x_xI1 hI (by omega)) hL hR
  · have e9 : x_tr b base (.ref (n + 1)) = .ref H.size := by rw [hH.1]; rfl
    rw [List.map_cons, e9] at hV
    exact hV
  · unfold x_at
    rw [x_u1_s]
    refine ⟨cA, hAr, (fun _ => ?_), ?_⟩
    · exact ⟨kA, comp, f2, f3, f4, f1⟩
    · show H1[base + n]? = _
      rw [← hH.1, e2]
      congr 2
      funext j
      simp [x_kc, x_fv, x_u1_s, va_rf, x_tr]
end XNEW
def x_rm (F F' : x_F) : Prop := F'.2.2.2.2.frames + 1 ≤ F.2.2.2.2.frames ∧ 8 + (F'.2.1 + 11) + F'.2.2.2.2.locals ≤ F.2.2.2.2.locals
/-- what every callee needs of the tables -/
def x_lc (F' : x_F) (k : Nat) : Prop := Cond.code F'.2.2.1 F'.1 F'.2.1 F'.2.2.2.1 ∈ lw_tbl ∧ Cond.initialized F'.2.2.1.cls ∈ lw_tbl ∧ (F'.2.2.1.cls ≠ "java/lang/invoke/MethodHandle" ∧ F'.2.2.1.cls ≠ "java/lang/invoke/VarHandle") ∧ (parseMethodDescriptor F'.2.2.1.desc).map (fun d => d.parameters.length) = some k
def x_ls (own : String) (idx : Nat) (F' : x_F) (k : Nat) : Prop := x_lc F' k ∧ Cond.static F'.2.2.1 ∈ lw_tbl ∧ (Cond.methodLink own idx F'.2.2.1 ∈ lw_tbl ∨ ∃ host, Cond.methodLinkNest own idx F'.2.2.1 host ∈ lw_tbl)
def x_li (own : String) (idx : Nat) (F' : x_F) (k : Nat) : Prop := x_lc F' k ∧ Cond.instanceMethod F'.2.2.1 ∈ lw_tbl ∧ F'.2.2.1.name = "<init>" ∧ F'.2.2.2.1 = none ∧ (Cond.methodLink own idx F'.2.2.1 ∈ lw_tbl ∨ ∃ host, Cond.methodLinkNest own idx F'.2.2.1 host ∈ lw_tbl)
def x_lv (own : String) (idx ci : Nat) (F' : x_F) (k : Nat) : Prop := x_lc F' k ∧ Cond.instanceMethod F'.2.2.1 ∈ lw_tbl ∧ Cond.selects F'.2.2.1.cls F'.2.2.1 F'.2.2.1 ∈ lw_tbl ∧ Cond.methodLink own idx F'.2.2.1 ∈ lw_tbl ∧ (vwCl[ci]?).map (·.1) = some F'.2.2.1.cls
def x_lu (own : String) (idx ci : Nat) (F' : x_F) (k : Nat) : Prop := ∃ (x : MethodName) (owner Cn : String) (b0 : ByteArray) (m0 : Nat) (r0 : Option FieldType), Cond.code F'.2.2.1 F'.1 F'.2.1 F'.2.2.2.1 ∈ lw_tbl ∧ Cond.initialized F'.2.2.1.cls ∈ lw_tbl ∧ (owner ≠ "java/lang/invoke/MethodHandle" ∧ owner ≠ "java/lang/invoke/VarHandle") ∧ (parseMethodDescriptor x.desc).map (fun d => d.parameters.length) = some k ∧
  Cond.methodLink own idx x ∈ lw_tbl ∧ Cond.sameMethod x.cls owner x.name x.desc ∈ lw_tbl ∧ Cond.instanceMethod ⟨owner, x.name, x.desc⟩ ∈ lw_tbl ∧ Cond.code ⟨owner, x.name, x.desc⟩ b0 m0 r0 ∈ lw_tbl ∧ Cond.selects Cn x F'.2.2.1 ∈ lw_tbl ∧ Cond.instanceMethod F'.2.2.1 ∈ lw_tbl ∧ (vwCl[ci]?).map (·.1) = some Cn
def x_lsu (own : String) (idx : Nat) (F' : x_F) (k : Nat) : Prop := x_lc F' k ∧ Cond.methodLink own idx F'.2.2.1 ∈ lw_tbl ∧ Cond.sameMethod F'.2.2.1.cls F'.2.2.1.cls F'.2.2.1.name F'.2.2.1.desc ∈ lw_tbl ∧ Cond.superclass own F'.2.2.1.cls ∈ lw_tbl ∧ Cond.instanceMethod F'.2.2.1 ∈ lw_tbl ∧ F'.2.2.1.name ≠ "<init>"
theorem x_len {d : String} {k : Nat} (h : (parseMethodDescriptor d).map (fun d => d.parameters.length) = some k) : ∀ sig, parseMethodDescriptor d = some sig → k = sig.parameters.length := fun sig hs => by
  rw [hs] at h
  exact (Option.some.inj h).symm
theorem x_cat {b base : Nat} : ∀ rest : List Value, ((rest.map (x_tr b base)).map fun v => v.category).sum = (rest.map fun v => v.category).sum
  | [] => rfl
  | v :: vs => by
    have ih := x_cat (b := b) (base := base) vs
    simp only [List.map_cons, List.sum_cons, x_tr_cat, ih]
theorem x_code {F' : x_F} {s : State} {args : Array Value} (h : (Cond.code F'.2.2.1 F'.1 F'.2.1 F'.2.2.2.1).before args s = true) : ∀ w ∈ [Cond.code F'.2.2.1 F'.1 F'.2.1 F'.2.2.2.1], ∀ (a' : Array Value) (U : State), s.WarmedH U.vm → w.before a' U = true := by
  intro w hw a' U hW
  rw [List.mem_singleton.mp hw]
  exact word_at hW (Or.inl (by first | rfl | simp [Cond.onTables, Cond.keeps, Cond.steady])) h
section XCALL
variable {F F' : x_F} {K K' : x_K} {D : va_G} {b base L : Nat} {xs : Nat → Int32} {p : Program} {s : State} {m : MethodId} {args : Array Value} {meth : Method} {c : Code} {H : Heap} {locs : List Loc} {S : x_S} {P : x_P} {I : x_I} {J : x_J} {n a ci : Nat}
theorem x_pre (C : x_Cx F D b base L xs p s m meth c) (hH : x_H D s b base S P I J n H) (hS : va_S (x_A base) s.heap H locs) (U : State) (hU : U.heap = H) (hW : s.WarmedH U.vm) : x_Pre D b base L xs S P I J n U := by
  have hb := C.2.2.2.2.2.2.2.2.2.1
  have hbs := C.2.2.2.2.2.2.2.2.2.2
  refine ⟨by rw [hU]; exact hH.moved hW.alike, C.2.2.2.2.2.2.2.1.warm hW, ?_, hb⟩
  rw [hU]
  exact (C.2.2.2.2.2.2.2.2.1.kept (hS.2.1 b (Nat.lt_of_lt_of_le hb hbs) (show ¬ base ≤ b by omega))).moved hW.alike
theorem x_rc {q : vw_C} (C : x_Cx F D b base L xs p s m meth c) (hH : x_H D s b base S P I J n H) (h0 : S 0 = .inr (9, L)) (hs : S a = .inl ci) (hq : vwCl[ci]? = some q) : ∃ cellB : Cell, H[x_ad b base a]? = some cellB ∧ cellB.vm.isStatics = false ∧ s.vm.findClass q.1 = some cellB.cls := by
  obtain ⟨p0, p1⟩ := hH.in h0 hs (by intro q; cases q) (by intro q; cases q)
  have ha := hH.2.2 a p0 p1
  unfold x_at at ha
  rw [hs] at ha
  obtain ⟨r, h1, cell, q1, q2, q3, q4⟩ := ha
  exact ⟨cell, q1, by rw [q3]; rfl, by rw [q2]; exact (C.2.2.2.2.2.2.2.1.2.1 ci q hq).2.1⟩
end XCALL
section XCALL2
variable {F F' : x_F} {K : x_K} {pc pc' : Nat} {ls : List (Option Value)} {st as rest : List Value} {S : x_S} {P : x_P} {I : x_I} {J : x_J} {n cs sl a idx ci k : Nat}
theorem v_cs (hd : x_d F.1 3 pc (.invokestatic idx) pc') (hl : x_ls F.2.2.1.cls idx F' k) (hk : as.length = k) (hrm : x_rm F F') (hst : st = as.reverse ++ rest) (hcat : (rest.map fun v => v.category).sum ≤ 8) (hc : cs + F'.2.2.2.2.cells ≤ F.2.2.2.2.cells) (hsl : sl + F'.2.2.2.2.slots ≤ F.2.2.2.2.slots) (kk : x_Call F' as (fun v S P I J n => x_V F K pc' ls (v.toList ++ rest) S P I J n (cs + F'.2.2.2.2.cells) (sl + F'.2.2.2.2.slots)) S P I J n) : x_V F K pc ls st S P I J n cs sl := by
  intro D b base L xs p l e s m args below meth c H locs Q lr C hH hS h0 hI hL hR
  obtain ⟨hd1, rfl⟩ := hd
  subst hst
  have hts : ∀ w ∈ lw_tbl, w.before args s = true := fun w hw => C.2.2.2.2.2.2.2.1.1 w hw args
  have hfix : CallFix p m c F.1 F.2.1 s args lw_tbl F.2.2.1.cls := ⟨C.1, C.2.1, C.2.2.1, C.2.2.2.1, hts⟩
  have hrs : 2 * (F0 m pc lr ((as.reverse ++ rest).map (x_tr b base))).monitorRoom + ((rest.map (x_tr b base)).map fun v => v.category).sum ≤ 8 := lv_room (by rw [x_cat]; exact hcat)
  have goon : ∀ (v : Option Value) (S' : x_S) (P' : x_P) (I' : x_I) (J' : x_J) (n' : Nat) (H1 : Heap) (locs1 : List Loc), x_V F K (pc + 3) ls (v.toList ++ rest) S' P' I' J' n' (cs + F'.2.2.2.2.cells) (sl + F'.2.2.2.2.slots) → x_H D s b base S' P' I' J' n' H1 → va_S (x_A base) s.heap H1 locs1 → S' 0 = .inr (9, L) → I' 0 = xs → W p l e F.2.2.2.2 s m args below meth c H1 locs1 (cs + F'.2.2.2.2.cells) (sl + F'.2.2.2.2.slots) Q (F0 m (pc + 3) lr (v.toList.map (x_tr b base) ++ rest.map (x_tr b base))) := fun v S' P' I' J' n' H1 locs1 hv h1 h2 h3 h4 => by
    have := hv D b base L xs p l e s m args below meth c H1 locs1 Q lr C h1 h2 h3 h4 hL hR
    rw [List.map_append] at this
    exact this
  obtain ⟨⟨hcd, hini, hpl, hpd⟩, hstt, hlk⟩ := hl
  have hM := kk D b base L xs l h0 hI
  have hpre : PreS s H (va_Pc (as.map (x_tr b base)) (x_Pre D b base L xs S P I J n)) (as.map (x_tr b base)) := ⟨x_Pre.blind, fun U hU hW => ⟨rfl, x_pre C hH hS U hU hW⟩⟩
  have hstk : (F0 m pc lr ((as.reverse ++ rest).map (x_tr b base))).stack = (as.map (x_tr b base)).reverse ++ rest.map (x_tr b base) := by rw [← List.map_reverse, ← List.map_append]
  rcases hlk with hlk | ⟨host, hlk⟩
  · exact x_run (F := F) (va_runS (n := k) (rest := rest.map (x_tr b base)) hfix hM ⟨⟨rfl, rfl, hrm.1, hrm.2, x_code (hts _ hcd), List.mem_cons_self, hts _ hcd, hts _ hini, hpl, x_len hpd, hts _ hlk⟩, hts _ hstt⟩ hpre rfl (by rw [List.length_map]; exact hk) hL.1 hstk hrs hd1 ⟨hc, hsl⟩) hS goon
  · exact x_run (F := F) (va_runSN (n := k) (rest := rest.map (x_tr b base)) hfix hM ⟨⟨⟨rfl, rfl, hrm.1, hrm.2, x_code (hts _ hcd), List.mem_cons_self⟩, hts _ hcd, hts _ hini, hpl, x_len hpd, hts _ hlk⟩, hts _ hstt, trivial⟩ hpre rfl (by rw [List.length_map]; exact hk) hL.1 hstk hrs hd1 ⟨hc, hsl⟩) hS goon
theorem v_ci (hd : x_d F.1 3 pc (.invokespecial idx) pc') (hl : x_li F.2.2.1.cls idx F' k) (hk : as.length = k) (hrm : x_rm F F') (hst : st = as.reverse ++ Value.ref a :: rest) (hcat : (rest.map fun v => v.category).sum ≤ 8) (hc : cs + F'.2.2.2.2.cells ≤ F.2.2.2.2.cells) (hsl : sl + F'.2.2.2.2.slots ≤ F.2.2.2.2.slots) (kk : x_Call F' (.ref a :: as) (fun v S P I J n => x_V F K pc' ls (v.toList ++ rest) S P I J n (cs + F'.2.2.2.2.cells) (sl + F'.2.2.2.2.slots)) S P I J n) : x_V F K pc ls st S P I J n cs sl := by
  intro D b base L xs p l e s m args below meth c H locs Q lr C hH hS h0 hI hL hR
  obtain ⟨hd1, rfl⟩ := hd
  subst hst
  have hts : ∀ w ∈ lw_tbl, w.before args s = true := fun w hw => C.2.2.2.2.2.2.2.1.1 w hw args
  have hfix : CallFix p m c F.1 F.2.1 s args lw_tbl F.2.2.1.cls := ⟨C.1, C.2.1, C.2.2.1, C.2.2.2.1, hts⟩
  have hrs : 2 * (F0 m pc lr ((as.reverse ++ Value.ref a :: rest).map (x_tr b base))).monitorRoom + ((rest.map (x_tr b base)).map fun v => v.category).sum ≤ 8 := lv_room (by rw [x_cat]; exact hcat)
  have goon : ∀ (v : Option Value) (S' : x_S) (P' : x_P) (I' : x_I) (J' : x_J) (n' : Nat) (H1 : Heap) (locs1 : List Loc), x_V F K (pc + 3) ls (v.toList ++ rest) S' P' I' J' n' (cs + F'.2.2.2.2.cells) (sl + F'.2.2.2.2.slots) → x_H D s b base S' P' I' J' n' H1 → va_S (x_A base) s.heap H1 locs1 → S' 0 = .inr (9, L) → I' 0 = xs → W p l e F.2.2.2.2 s m args below meth c H1 locs1 (cs + F'.2.2.2.2.cells) (sl + F'.2.2.2.2.slots) Q (F0 m (pc + 3) lr (v.toList.map (x_tr b base) ++ rest.map (x_tr b base))) := fun v S' P' I' J' n' H1 locs1 hv h1 h2 h3 h4 => by
    have := hv D b base L xs p l e s m args below meth c H1 locs1 Q lr C h1 h2 h3 h4 hL hR
    rw [List.map_append] at this
    exact this
  obtain ⟨⟨hcd, hini, hpl, hpd⟩, hin, hnm, hrt, hlk⟩ := hl
  have hM := kk D b base L xs l h0 hI
  have hstk : (F0 m pc lr ((as.reverse ++ Value.ref a :: rest).map (x_tr b base))).stack = (as.map (x_tr b base)).reverse ++ .ref (x_ad b base a) :: rest.map (x_tr b base) := by rw [← List.map_reverse, List.map_append]; rfl
  have hpre : PreS s H (va_Pc ((.ref a :: as).map (x_tr b base)) (x_Pre D b base L xs S P I J n)) (.ref (x_ad b base a) :: as.map (x_tr b base)) := ⟨x_Pre.blind, fun U hU hW => ⟨rfl, x_pre C hH hS U hU hW⟩⟩
  rw [hrt] at hcd hM
  have hco : ∀ w ∈ [Cond.code F'.2.2.1 F'.1 F'.2.1 none], ∀ (a' : Array Value) (U : State), s.WarmedH U.vm → w.before a' U = true := by
    have := x_code (F' := F') (s := s) (args := args) (by rw [hrt]; exact hts _ hcd)
    rw [hrt] at this
    exact this
  rcases hlk with hlk | ⟨host, hlk⟩
  · exact x_run (F := F) (va_runI (n := k) (rest := rest.map (x_tr b base)) hfix hM ⟨⟨rfl, rfl, hrm.1, hrm.2, hco, List.mem_cons_self, hts _ hcd, hts _ hini, hpl, x_len hpd, hts _ hlk⟩, hnm, hts _ hin⟩ hpre rfl (by rw [List.length_map]; exact hk) hL.1 hstk hrs hd1 ⟨hc, hsl⟩) hS goon
  · exact x_run (F := F) (va_runIN (n := k) (rest := rest.map (x_tr b base)) hfix hM ⟨⟨⟨rfl, rfl, hrm.1, hrm.2, hco, List.mem_cons_self⟩, hts _ hcd, hts _ hini, hpl, x_len hpd, hts _ hlk⟩, hnm, hts _ hin⟩ hpre rfl (by rw [List.length_map]; exact hk) hL.1 hstk hrs hd1 ⟨hc, hsl⟩) hS goon
theorem v_cv (hd : x_d F.1 3 pc (.invokevirtual idx) pc') (hl : x_lv F.2.2.1.cls idx ci F' k) (hs : S a = .inl ci) (hk : as.length = k) (hrm : x_rm F F') (hst : st = as.reverse ++ Value.ref a :: rest) (hcat : (rest.map fun v => v.category).sum ≤ 8) (hc : cs + F'.2.2.2.2.cells ≤ F.2.2.2.2.cells) (hsl : sl + F'.2.2.2.2.slots ≤ F.2.2.2.2.slots) (kk : x_Call F' (.ref a :: as) (fun v S P I J n => x_V F K pc' ls (v.toList ++ rest) S P I J n (cs + F'.2.2.2.2.cells) (sl + F'.2.2.2.2.slots)) S P I J n) : x_V F K pc ls st S P I J n cs sl := by
  intro D b base L xs p l e s m args below meth c H locs Q lr C hH hS h0 hI hL hR
  obtain ⟨hd1, rfl⟩ := hd
  subst hst
  have hts : ∀ w ∈ lw_tbl, w.before args s = true := fun w hw => C.2.2.2.2.2.2.2.1.1 w hw args
  have hfix : CallFix p m c F.1 F.2.1 s args lw_tbl F.2.2.1.cls := ⟨C.1, C.2.1, C.2.2.1, C.2.2.2.1, hts⟩
  have hrs : 2 * (F0 m pc lr ((as.reverse ++ Value.ref a :: rest).map (x_tr b base))).monitorRoom + ((rest.map (x_tr b base)).map fun v => v.category).sum ≤ 8 := lv_room (by rw [x_cat]; exact hcat)
  have goon : ∀ (v : Option Value) (S' : x_S) (P' : x_P) (I' : x_I) (J' : x_J) (n' : Nat) (H1 : Heap) (locs1 : List Loc), x_V F K (pc + 3) ls (v.toList ++ rest) S' P' I' J' n' (cs + F'.2.2.2.2.cells) (sl + F'.2.2.2.2.slots) → x_H D s b base S' P' I' J' n' H1 → va_S (x_A base) s.heap H1 locs1 → S' 0 = .inr (9, L) → I' 0 = xs → W p l e F.2.2.2.2 s m args below meth c H1 locs1 (cs + F'.2.2.2.2.cells) (sl + F'.2.2.2.2.slots) Q (F0 m (pc + 3) lr (v.toList.map (x_tr b base) ++ rest.map (x_tr b base))) := fun v S' P' I' J' n' H1 locs1 hv h1 h2 h3 h4 => by
    have := hv D b base L xs p l e s m args below meth c H1 locs1 Q lr C h1 h2 h3 h4 hL hR
    rw [List.map_append] at this
    exact this
  obtain ⟨⟨hcd, hini, hpl, hpd⟩, hin, hse, hlk, hcl⟩ := hl
  have hM := kk D b base L xs l h0 hI
  have hstk : (F0 m pc lr ((as.reverse ++ Value.ref a :: rest).map (x_tr b base))).stack = (as.map (x_tr b base)).reverse ++ .ref (x_ad b base a) :: rest.map (x_tr b base) := by rw [← List.map_reverse, List.map_append]; rfl
  obtain ⟨q, hq, hq1⟩ := Option.map_eq_some_iff.mp hcl
  have hrc := x_rc C hH h0 hs hq
  rw [hq1] at hrc
  exact x_run (F := F) (va_runV (n := k) (rest := rest.map (x_tr b base)) hfix hM ⟨⟨rfl, rfl, hrm.1, hrm.2, x_code (hts _ hcd), List.mem_cons_self, hts _ hcd, hts _ hini, hpl, x_len hpd, hts _ hlk⟩, hts _ hin, hts _ hse⟩ ⟨x_Pre.blind, hrc, fun U hU hW => ⟨rfl, x_pre C hH hS U hU hW⟩⟩ rfl (by rw [List.length_map]; exact hk) hL.1 hstk hrs hd1 ⟨hc, hsl⟩) hS goon
theorem v_cu (hd : x_d F.1 3 pc (.invokevirtual idx) pc') (hl : x_lu F.2.2.1.cls idx ci F' k) (hs : S a = .inl ci) (hk : as.length = k) (hrm : x_rm F F') (hst : st = as.reverse ++ Value.ref a :: rest) (hcat : (rest.map fun v => v.category).sum ≤ 8) (hc : cs + F'.2.2.2.2.cells ≤ F.2.2.2.2.cells) (hsl : sl + F'.2.2.2.2.slots ≤ F.2.2.2.2.slots) (kk : x_Call F' (.ref a :: as) (fun v S P I J n => x_V F K pc' ls (v.toList ++ rest) S P I J n (cs + F'.2.2.2.2.cells) (sl + F'.2.2.2.2.slots)) S P I J n) : x_V F K pc ls st S P I J n cs sl := by
  intro D b base L xs p l e s m args below meth c H locs Q lr C hH hS h0 hI hL hR
  obtain ⟨hd1, rfl⟩ := hd
  subst hst
  have hts : ∀ w ∈ lw_tbl, w.before args s = true := fun w hw => C.2.2.2.2.2.2.2.1.1 w hw args
  have hfix : CallFix p m c F.1 F.2.1 s args lw_tbl F.2.2.1.cls := ⟨C.1, C.2.1, C.2.2.1, C.2.2.2.1, hts⟩
  have hrs : 2 * (F0 m pc lr ((as.reverse ++ Value.ref a :: rest).map (x_tr b base))).monitorRoom + ((rest.map (x_tr b base)).map fun v => v.category).sum ≤ 8 := lv_room (by rw [x_cat]; exact hcat)
  have goon : ∀ (v : Option Value) (S' : x_S) (P' : x_P) (I' : x_I) (J' : x_J) (n' : Nat) (H1 : Heap) (locs1 : List Loc), x_V F K (pc + 3) ls (v.toList ++ rest) S' P' I' J' n' (cs + F'.2.2.2.2.cells) (sl + F'.2.2.2.2.slots) → x_H D s b base S' P' I' J' n' H1 → va_S (x_A base) s.heap H1 locs1 → S' 0 = .inr (9, L) → I' 0 = xs → W p l e F.2.2.2.2 s m args below meth c H1 locs1 (cs + F'.2.2.2.2.cells) (sl + F'.2.2.2.2.slots) Q (F0 m (pc + 3) lr (v.toList.map (x_tr b base) ++ rest.map (x_tr b base))) := fun v S' P' I' J' n' H1 locs1 hv h1 h2 h3 h4 => by
    have := hv D b base L xs p l e s m args below meth c H1 locs1 Q lr C h1 h2 h3 h4 hL hR
    rw [List.map_append] at this
    exact this
  obtain ⟨x, owner, Cn, b0, m0, r0, hcd, hini, hpl, hpd, hlk, hsm, hi0, hc0, hse, hin, hcl⟩ := hl
  have hM := kk D b base L xs l h0 hI
  have hstk : (F0 m pc lr ((as.reverse ++ Value.ref a :: rest).map (x_tr b base))).stack = (as.map (x_tr b base)).reverse ++ .ref (x_ad b base a) :: rest.map (x_tr b base) := by rw [← List.map_reverse, List.map_append]; rfl
  obtain ⟨q, hq, hq1⟩ := Option.map_eq_some_iff.mp hcl
  have hrc := x_rc C hH h0 hs hq
  rw [hq1] at hrc
  exact x_run (F := F) (va_runU (n := k) (rest := rest.map (x_tr b base)) hfix hM ⟨⟨rfl, rfl, hrm.1, hrm.2, x_code (hts _ hcd), List.mem_cons_self⟩, hts _ hcd, hts _ hini, hpl, x_len hpd, hts _ hlk, hts _ hsm, va_Decl.of (hts _ hi0) (hts _ hc0), hts _ hse, hts _ hin⟩ ⟨x_Pre.blind, hrc, fun U hU hW => ⟨rfl, x_pre C hH hS U hU hW⟩⟩ rfl (by rw [List.length_map]; exact hk) hL.1 hstk hrs hd1 ⟨hc, hsl⟩) hS goon
theorem v_csu {q : vw_C} (hd : x_d F.1 3 pc (.invokespecial idx) pc') (hl : x_lsu F.2.2.1.cls idx F' k) (hs : S a = .inl ci) (hq : vwCl[ci]? = some q) (hk : as.length = k) (hrm : x_rm F F') (hst : st = as.reverse ++ Value.ref a :: rest) (hcat : (rest.map fun v => v.category).sum ≤ 8) (hc : cs + F'.2.2.2.2.cells ≤ F.2.2.2.2.cells) (hsl : sl + F'.2.2.2.2.slots ≤ F.2.2.2.2.slots) (kk : x_Call F' (.ref a :: as) (fun v S P I J n => x_V F K pc' ls (v.toList ++ rest) S P I J n (cs + F'.2.2.2.2.cells) (sl + F'.2.2.2.2.slots)) S P I J n) : x_V F K pc ls st S P I J n cs sl := by
  intro D b base L xs p l e s m args below meth c H locs Q lr C hH hS h0 hI hL hR
  obtain ⟨hd1, rfl⟩ := hd
  subst hst
  have hts : ∀ w ∈ lw_tbl, w.before args s = true := fun w hw => C.2.2.2.2.2.2.2.1.1 w hw args
  have hfix : CallFix p m c F.1 F.2.1 s args lw_tbl F.2.2.1.cls := ⟨C.1, C.2.1, C.2.2.1, C.2.2.2.1, hts⟩
  have hrs : 2 * (F0 m pc lr ((as.reverse ++ Value.ref a :: rest).map (x_tr b base))).monitorRoom + ((rest.map (x_tr b base)).map fun v => v.category).sum ≤ 8 := lv_room (by rw [x_cat]; exact hcat)
  have goon : ∀ (v : Option Value) (S' : x_S) (P' : x_P) (I' : x_I) (J' : x_J) (n' : Nat) (H1 : Heap) (locs1 : List Loc), x_V F K (pc + 3) ls (v.toList ++ rest) S' P' I' J' n' (cs + F'.2.2.2.2.cells) (sl + F'.2.2.2.2.slots) → x_H D s b base S' P' I' J' n' H1 → va_S (x_A base) s.heap H1 locs1 → S' 0 = .inr (9, L) → I' 0 = xs → W p l e F.2.2.2.2 s m args below meth c H1 locs1 (cs + F'.2.2.2.2.cells) (sl + F'.2.2.2.2.slots) Q (F0 m (pc + 3) lr (v.toList.map (x_tr b base) ++ rest.map (x_tr b base))) := fun v S' P' I' J' n' H1 locs1 hv h1 h2 h3 h4 => by
    have := hv D b base L xs p l e s m args below meth c H1 locs1 Q lr C h1 h2 h3 h4 hL hR
    rw [List.map_append] at this
    exact this
  obtain ⟨⟨hcd, hini, hpl, hpd⟩, hlk, hsm, hsu, hin, hnm⟩ := hl
  have hM := kk D b base L xs l h0 hI
  have hstk : (F0 m pc lr ((as.reverse ++ Value.ref a :: rest).map (x_tr b base))).stack = (as.map (x_tr b base)).reverse ++ .ref (x_ad b base a) :: rest.map (x_tr b base) := by rw [← List.map_reverse, List.map_append]; rfl
  have hrc := x_rc C hH h0 hs hq
  have hat := (C.2.2.2.2.2.2.2.1.2.1 ci q hq).2
  exact x_run (F := F) (va_runSU (n := k) (rest := rest.map (x_tr b base)) hat hfix hM ⟨⟨rfl, rfl, hrm.1, hrm.2, x_code (hts _ hcd), List.mem_cons_self⟩, hts _ hlk, hts _ hsm, hts _ hsu, hts _ hin, hts _ hini, hts _ hcd, hnm, x_len hpd⟩ ⟨x_Pre.blind, hrc, fun U hU hW => ⟨rfl, x_pre C hH hS U hU hW⟩⟩ rfl (by rw [List.length_map]; exact hk) hL.1 hstk hrs hd1 ⟨hc, hsl⟩) hS goon
theorem v_obj (hd : x_d F.1 3 pc (.invokespecial idx) pc') (hlk : Cond.methodLink F.2.2.1.cls idx Lib.objectInit ∈ lw_tbl) (hin : Cond.instanceMethod Lib.objectInit ∈ lw_tbl) (hcd : Cond.code Lib.objectInit ⟨#[0xb1]⟩ 1 none ∈ lw_tbl) (hf : 1 ≤ F.2.2.2.2.frames) (hlo : (st.map fun v => v.category).sum + 12 ≤ F.2.2.2.2.locals) (kk : x_V F K pc' ls st S P I J n cs sl) : x_V F K pc ls (.ref a :: st) S P I J n cs sl := by
  intro D b base L xs p l e s m args below meth c H locs Q lr C hH hS h0 hI hL hR
  obtain ⟨hd1, rfl⟩ := hd
  have hts : ∀ w ∈ lw_tbl, w.before args s = true := fun w hw => C.2.2.2.2.2.2.2.1.1 w hw args
  refine W.objInit C.1 C.2.1 C.2.2.2.1 (hts _ hlk) (hts _ hin) (hts _ hcd) rfl (by rw [C.2.2.1]; exact hL.1) rfl hd1 hf ?_ (kk D b base L xs p l e s m args below meth c H locs Q lr C hH hS h0 hI hL hR)
  rw [x_cat]
  have : (F0 m pc lr ((Value.ref a :: st).map (x_tr b base))).monitorRoom = 0 := by first | rfl | simp [JFrame.monitorRoom]
  rw [this]
  omega
theorem v_isY {q : vw_C} {nm : String} (hd : x_d F.1 3 pc (.instanceof idx) pc') (hs : S a = .inl ci) (hq : vwCl[ci]? = some q) (hlk : Cond.classLink F.2.2.1.cls idx nm ∈ lw_tbl) (hca : Cond.castable q.1 nm ∈ lw_tbl) (kk : x_V F K pc' ls (.int 1 :: st) S P I J n cs sl) : x_V F K pc ls (.ref a :: st) S P I J n cs sl := by
  intro D b base L xs p l e s m args below meth c H locs Q lr C hH hS h0 hI hL hR
  obtain ⟨hd1, rfl⟩ := hd
  have hts : ∀ w ∈ lw_tbl, w.before args s = true := fun w hw => C.2.2.2.2.2.2.2.1.1 w hw args
  exact va_instY C.1 C.2.1 C.2.2.2.1 (hts _ hlk) (va_Nw.of rfl (hts _ hca)) (x_rc C hH h0 hs hq) hd1 (kk D b base L xs p l e s m args below meth c H locs Q lr C hH hS h0 hI hL hR)
theorem v_isS {q : vw_C} (hd : x_d F.1 3 pc (.instanceof idx) pc') (hs : S a = .inl ci) (hq : vwCl[ci]? = some q) (hlk : Cond.classLink F.2.2.1.cls idx q.1 ∈ lw_tbl) (kk : x_V F K pc' ls (.int 1 :: st) S P I J n cs sl) : x_V F K pc ls (.ref a :: st) S P I J n cs sl := by
  intro D b base L xs p l e s m args below meth c H locs Q lr C hH hS h0 hI hL hR
  obtain ⟨hd1, rfl⟩ := hd
  have hts : ∀ w ∈ lw_tbl, w.before args s = true := fun w hw => C.2.2.2.2.2.2.2.1.1 w hw args
  obtain ⟨cell, r1, r2, r3⟩ := x_rc C hH h0 hs hq
  have hat := (C.2.2.2.2.2.2.2.1.2.1 ci q hq).2
  exact va_instS C.1 C.2.1 C.2.2.2.1 (hts _ hlk) hat ⟨cell, r1, r2, r3⟩ hd1 (kk D b base L xs p l e s m args below meth c H locs Q lr C hH hS h0 hI hL hR)
theorem v_isNo {q : vw_C} {nm : String} (hd : x_d F.1 3 pc (.instanceof idx) pc') (hs : S a = .inl ci) (hq : vwCl[ci]? = some q) (hlk : Cond.classLink F.2.2.1.cls idx nm ∈ lw_tbl) (hno : (q.1 = RX10 ∧ (nm = RX5 ∨ nm = RX0)) ∨ (q.1 = RX5 ∧ nm = RX0)) (kk : x_V F K pc' ls (.int 0 :: st) S P I J n cs sl) : x_V F K pc ls (.ref a :: st) S P I J n cs sl := by
  intro D b base L xs p l e s m args below meth c H locs Q lr C hH hS h0 hI hL hR
  obtain ⟨hd1, rfl⟩ := hd
  have hW := C.2.2.2.2.2.2.2.1
  have hts : ∀ w ∈ lw_tbl, w.before args s = true := fun w hw => hW.1 w hw args
  have hnc : va_Nc q.1 nm s := by
    rcases hno with ⟨e1, e2 | e2⟩ | ⟨e1, e2⟩
    · rw [e1, e2]; exact hW.2.2.1
    · rw [e1, e2]; exact hW.2.2.2.1
    · rw [e1, e2]; exact hW.2.2.2.2
  exact va_instNo C.1 C.2.1 C.2.2.2.1 (hts _ hlk) hnc (x_rc C hH h0 hs hq) hd1 (kk D b base L xs p l e s m args below meth c H locs Q lr C hH hS h0 hI hL hR)
end XCALL2
