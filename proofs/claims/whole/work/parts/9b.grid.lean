/-! An array of four rows of 64 ints, made by one instruction: a rule of my own, over the model's own words. -/
def y_o (c : ClassId) (h i : Nat) : Cell := arrV c 4 (fun j => bif Nat.blt j i then Value.ref (h + 1 + j) else Value.null)
def y_r (c : ClassId) : Cell := arrV c 64 (fun _ => Value.int 0)
def y_T (s : State) (a r : ClassId) : Nat → State
  | 0 => s.pushCell (y_o a s.heap.size 0)
  | i + 1 => ((y_T s a r i).pushCell (y_r r)).setCell s.heap.size (y_o a s.heap.size (i + 1))
theorem y_o_s (c : ClassId) (h i : Nat) : (y_o c h i).setSlot i (.ref (h + 1 + i)) = y_o c h (i + 1) := by
  unfold y_o
  rw [arrV_store]
  congr 1
  funext j
  unfold updV
  by_cases e : j = i
  · subst e
    rw [if_pos rfl, show Nat.blt j (j + 1) = true from Nat.ble_eq_true_of_le (Nat.le_refl _)]
    rfl
  · rw [if_neg e]
    show (bif Nat.blt j i then Value.ref (h + 1 + j) else Value.null) = _
    by_cases q : j < i
    · rw [show Nat.blt j i = true from Nat.ble_eq_true_of_le q, show Nat.blt j (i + 1) = true from Nat.ble_eq_true_of_le (Nat.le_of_lt (Nat.succ_lt_succ q))]
    · rw [show Nat.blt j i = false from x_blt (by omega), show Nat.blt j (i + 1) = false from x_blt (by omega)]
theorem y_T_sz (s : State) (a r : ClassId) (i : Nat) : (y_T s a r i).heap.size = s.heap.size + 1 + i := by
  induction i with
  | zero => simp [y_T]
  | succ i ih => simp [y_T, State.setCell, ih]; omega
theorem y_T_at (s : State) (a r : ClassId) (i : Nat) : (y_T s a r i).heap[s.heap.size]? = some (y_o a s.heap.size i) := by
  induction i with
  | zero => exact State.heap_pushCell_size _ _
  | succ i ih =>
    refine State.heap_setCell_self (c := y_o a s.heap.size i) ?_
    have hl : s.heap.size < (y_T s a r i).heap.size := by rw [y_T_sz]; omega
    rw [State.heap_pushCell_of_lt (h := hl)]
    exact ih
theorem y_T_vm (s : State) (a r : ClassId) (i : Nat) : (y_T s a r i).vm = s.vm := by
  induction i with
  | zero => rfl
  | succ i ih => exact ih
theorem y_T_su (s : State) (a r : ClassId) (i : Nat) : (y_T s a r i).slotsUsed = s.slotsUsed + 4 + i * 64 := by
  induction i with
  | zero => simp [y_T, y_o, arrV_size]
  | succ i ih => simp [y_T, y_r, arrV_size, ih]; omega
theorem y_T_old (s : State) (a r : ClassId) {q : Nat} (h : q < s.heap.size) (i : Nat) : (y_T s a r i).heap[q]? = s.heap[q]? := by
  induction i with
  | zero => exact State.heap_pushCell_of_lt _ _ h
  | succ i ih =>
    show (((y_T s a r i).pushCell (y_r r)).setCell s.heap.size _).heap[q]? = _
    have hl : q < (y_T s a r i).heap.size := by rw [y_T_sz]; omega
    rw [State.heap_setCell_other (Nat.ne_of_gt h), State.heap_pushCell_of_lt (h := hl)]
    exact ih
theorem y_T_row (s : State) (a r : ClassId) {j : Nat} (i : Nat) (h : j < i) : (y_T s a r i).heap[s.heap.size + 1 + j]? = some (y_r r) := by
  induction i with
  | zero => omega
  | succ i ih =>
    show (((y_T s a r i).pushCell (y_r r)).setCell s.heap.size _).heap[s.heap.size + 1 + j]? = _
    rw [State.heap_setCell_other (show s.heap.size ≠ s.heap.size + 1 + j by omega)]
    by_cases e : j = i
    · rw [e, ← y_T_sz s a r i]
      exact State.heap_pushCell_size _ _
    · have hl : s.heap.size + 1 + j < (y_T s a r i).heap.size := by rw [y_T_sz]; omega
      rw [State.heap_pushCell_of_lt (h := hl)]
      exact ih (by omega)
theorem y_T_top (s : State) (g : JFrame) (a r : ClassId) (i : Nat) : y_T (s.setTop g) a r i = (y_T s a r i).setTop g := by
  induction i with
  | zero => rfl
  | succ i ih =>
    show ((y_T (s.setTop g) a r i).pushCell (y_r r)).setCell _ _ = _
    rw [ih]; rfl
theorem y_row {E : CtlPost} {e : Env} {d : Bool} {acts : List Action} {s : State} {r cc : ClassId} {kc : Class} (hk : s.vm.classes[r]? = some kc) (hkd : kc.kind = .array cc .int) (hl : ¬ 64 > e.platform.arrayLengthLimit) (hh : ¬ 64 * componentBytes .int > e.platform.maxHeapBytes)
    (h1 : s.heap.size < e.platform.maxCells) (h2 : s.slotsUsed + 64 ≤ e.platform.maxSlots) {Q : Addr → Pre} (hq : ∀ acts', Q s.heap.size d acts' (s.pushCell (y_r r))) : wp (multianewarray.make r [nI 64]) Q E e d acts s := by
  have n64 : (nI 64).toNatClampNeg = 64 := nI_clamp (by decide)
  have p64 : ¬ nI 64 < 0 := nI_pos (by decide)
  rw [multianewarray.make]
  simp only [wp_bind', W.ite, p64, if_false, wp_pure', W.theClass, hk, hkd, Option.some.injEq, exists_eq_left', n64]
  refine W.newArray_of hk hkd hl hh h1 h2 rfl (fun acts' => ?_)
  have z := hq acts'
  unfold y_r at z
  rw [← arrV_new] at z
  exact z
theorem y_lp {E : CtlPost} {e : Env} {s : State} {a r cc : ClassId} {k kc : Class} (hk : s.vm.classes[a]? = some k) (hkd : k.kind = .array r (.array .int)) (hkc : s.vm.classes[r]? = some kc) (hkcd : kc.kind = .array cc .int)
    (hl : ¬ 64 > e.platform.arrayLengthLimit) (hh : ¬ 64 * componentBytes .int > e.platform.maxHeapBytes)
    (h1 : s.heap.size + 5 ≤ e.platform.maxCells) (h2 : s.slotsUsed + 260 ≤ e.platform.maxSlots) {Q : PUnit → Pre} (hq : ∀ d' acts', Q PUnit.unit d' acts' (y_T s a r 4)) :
    ∀ n i : Nat, i + n = 4 → ∀ (d : Bool) (acts : List Action), wp (forIn (List.range' i n 1) PUnit.unit (fun (i : Nat) (_ : PUnit) => (do
        let x ← multianewarray.make r [nI 64]
        writeLoc s.heap.size i (Value.ref x)
        Pure.pure (ForInStep.yield PUnit.unit) : Sem (ForInStep PUnit)))) Q E e d acts (y_T s a r i) := by
  intro n
  induction n with
  | zero =>
    intro i hi d acts
    have ei : i = 4 := by omega
    subst ei
    rw [List.range'_zero, List.forIn_nil]
    exact hq d acts
  | succ n ih =>
    intro i hi d acts
    rw [List.range'_succ, List.forIn_cons]
    simp only [wp_bind']
    refine y_row (by rw [y_T_vm]; exact hkc) hkcd hl hh (by rw [y_T_sz]; omega) (by rw [y_T_su]; omega) (fun acts' => ?_)
    have hlt : s.heap.size < (y_T s a r i).heap.size := by rw [y_T_sz]; omega
    simp only [wp_bind', W.writeLoc, wp_pure']
    refine ⟨y_o a s.heap.size i, by rw [State.heap_pushCell_of_lt (h := hlt)]; exact y_T_at s a r i, (fun z => by cases z), by unfold y_o; rw [arrV_size]; omega, ?_, ?_⟩
    · show ((y_T s a r i).pushCell (y_r r)).fitsSlot a .none i _ = true
      simp [State.fitsSlot, State.slotType?, y_T_vm, hk, hkd]
      rfl
    · rw [y_T_sz, y_o_s]
      exact ih (i + 1) (by omega) _ _
theorem y_make {E : CtlPost} {e : Env} {d : Bool} {acts : List Action} {s : State} {a r cc : ClassId} {k kc : Class} (hk : s.vm.classes[a]? = some k) (hkd : k.kind = .array r (.array .int)) (hkc : s.vm.classes[r]? = some kc) (hkcd : kc.kind = .array cc .int)
    (hl : ¬ 64 > e.platform.arrayLengthLimit) (hh : ¬ 64 * componentBytes .int > e.platform.maxHeapBytes) (hl4 : ¬ 4 > e.platform.arrayLengthLimit) (hh4 : ¬ 4 * componentBytes (.array .int) > e.platform.maxHeapBytes)
    (h1 : s.heap.size + 5 ≤ e.platform.maxCells) (h2 : s.slotsUsed + 260 ≤ e.platform.maxSlots) {Q : Addr → Pre} (hq : ∀ d' acts', Q s.heap.size d' acts' (y_T s a r 4)) : wp (multianewarray.make a [nI 4, nI 64]) Q E e d acts s := by
  have n4 : (nI 4).toNatClampNeg = 4 := nI_clamp (by decide)
  have p4 : ¬ nI 4 < 0 := nI_pos (by decide)
  have z4 : (nI 4 == 0) = false := by decide
  rw [multianewarray.make]
  simp only [wp_bind', W.ite, p4, if_false, wp_pure', W.theClass, hk, hkd, Option.some.injEq, exists_eq_left', n4]
  refine W.newArray_of hk hkd hl4 hh4 (by omega) (by omega) rfl (fun acts' => ?_)
  have e0 : s.pushCell { cls := a, slots := Array.replicate 4 Value.null } = y_T s a r 0 := by
    show _ = s.pushCell (y_o a s.heap.size 0)
    congr 1
  rw [e0]
  simp only [z4, Bool.false_eq_true, if_false, wp_bind', wp_pure']
  rw [Std.Legacy.Range.forIn_eq_forIn_range']
  have hsz : ([0:4] : Std.Legacy.Range).size = 4 := by decide
  rw [hsz]
  exact y_lp hk hkd hkc hkcd hl hh h1 h2 (fun d' acts'' => hq d' acts'') 4 0 rfl d acts'
theorem y_over {args : Array Value} {s : State} (h : (Cond.arrayOver (.array .int)).before args s = true) : ∃ (r a : ClassId) (k : Class), s.vm.findClass "[I" = some r ∧ s.vm.classes[a]? = some k ∧ k.kind = .array r (.array .int) ∧ s.vm.findClass "[[I" = some a := by
  have e1 : (FieldType.array .int).toString = "[I" := by decide
  have e2 : "[" ++ "[I" = "[[I" := by decide
  simp only [Cond.before, Cond.holds, Cond.value, beq_iff_eq, e1, e2] at h
  obtain ⟨r, hr, h⟩ := Option.bind_eq_some_iff.mp h
  obtain ⟨a, ha, h⟩ := Option.bind_eq_some_iff.mp h
  obtain ⟨k, hk, h⟩ := Option.map_eq_some_iff.mp h
  obtain ⟨hlt, hp, -⟩ := Array.findIdx?_eq_some_iff_getElem.mp ha
  rw [(Array.getElem?_eq_some_iff.mp hk).2] at hp
  refine ⟨r, a, k, hr, hk, ?_⟩
  revert h hp
  generalize k.kind = kd
  intro h hp
  cases kd with
  | array co ty =>
    have h2 : co = r := by simpa using hp
    have h3 : ty = .array .int ∧ s.vm.findClass "[[I" = some a := by simpa using h
    exact ⟨by rw [h2, h3.1], h3.2⟩
  | _ => cases h
theorem y_stand {p : Program} {l : Launch} {e : Env} {R : Room} {s : State} {m : MethodId} {args : Array Value} {below : List Frame} {meth : Method} {c : Code} {T : State} {locs : List Loc} {cells slots : Nat} (X : Stand p l e R s m args below meth c T locs cells slots) (a r : ClassId) (i : Nat) : Stand p l e R s m args below meth c (y_T T a r i) locs (cells + 1 + i) (slots + 4 + i * 64) := by
  induction i with
  | zero =>
    have h := X.pushed (y_o a T.heap.size 0)
    unfold y_o at h
    rw [arrV_size] at h
    rw [Nat.zero_mul]
    exact h
  | succ i ih =>
    have hlt : T.heap.size < (y_T T a r i).heap.size := by rw [y_T_sz]; omega
    have hc : ((y_T T a r i).pushCell (y_r r)).heap[T.heap.size]? = some (y_o a T.heap.size i) := by
      rw [State.heap_pushCell_of_lt (h := hlt)]; exact y_T_at T a r i
    have h := ((ih.pushed (y_r r)).stored hc i (.ref (T.heap.size + 1 + i))).dropFresh (fun x hx => by
      rw [List.mem_singleton.mp hx]; exact X.heapGrown)
    rw [y_o_s] at h
    rw [show cells + 1 + (i + 1) = cells + 1 + i + 1 by omega, show slots + 4 + (i + 1) * 64 = slots + 4 + i * 64 + 64 by omega]
    have hz : (y_r r).slots.size = 64 := arrV_size _ _ _
    rw [hz] at h
    exact h
theorem y_mna {p : Program} {l : Launch} {e : Env} {R : Room} {s : State} {m : MethodId} {args : Array Value} {below : List Frame} {meth : Method} {c : Code} {T : State} {locs : List Loc} {cells slots : Nat} (X : Stand p l e R s m args below meth c T locs cells slots) (hx : p.tables.exec = Jvm.exec) {own : String} {idx : Nat}
    (hown : s.vm.findClass own = some m.cls) (hcl : (Cond.classLink own idx "[[I").before args s = true) (hov : (Cond.arrayOver (.array .int)).before args s = true) (har : (Cond.arrayClass .int).before args s = true)
    {g : JFrame} (hg : g.method = m) (hd : decode c.code g.pc = .ok (.multianewarray idx 2, 4)) {rest : List Value} (hst : g.stack = .int (nI 64) :: .int (nI 4) :: rest) (hce : cells + 5 ≤ R.cells) (hsl : slots + 260 ≤ R.slots) :
    ∃ (vm : Vm) (a r : ClassId), ArrOfT s a (.array .int) ∧ ArrOfT s r .int ∧ Stand p l e R s m args below meth c (y_T (T.setVm vm) a r 4) locs (cells + 1 + 4) (slots + 4 + 4 * 64) ∧
      ∀ t, Steps p.tables e below ((y_T (T.setVm vm) a r 4).setTop { g with pc := g.pc + 4, stack := .ref T.heap.size :: rest }) t → Steps p.tables e below (T.setTop g) t := by
  subst hg
  obtain ⟨r, a, kA, f1, f2, f3, f4⟩ := y_over hov
  obtain ⟨r', kR, cc, q1, q2, q3⟩ := Cond.arrayClass_spec har
  have er : r' = r := by
    have z : s.vm.findClass "[I" = some r' := q1
    rw [f1] at z
    exact (Option.some.inj z).symm
  subst er
  obtain ⟨a', g1, g2⟩ := Cond.classLink_spec hown hcl e.platform (by rw [X.admits.platform])
  have ea : a' = a := by
    rw [f4] at g1
    exact (Option.some.inj g1).symm
  subst ea
  obtain ⟨w1, w2, w3⟩ := State.classEntry (e := e) X.warmed g2
  generalize T.vm.noted g.method.cls idx (.cls a') = vm at w1 w2 w3
  obtain ⟨kA1, u1, u2⟩ := w2.alike.2.2 _ _ f2
  obtain ⟨kR1, v1, v2⟩ := w2.alike.2.2 _ _ q2
  have X1 := X.noted w2
  have XF := y_stand X1 a' r' 4
  obtain ⟨b1, b2⟩ := X.roomAbove (a := 5) (b := 260) hce hsl
  refine ⟨vm, a', r', fun N z => ⟨(fun k h => by cases h), kA, f2, r', f3⟩, fun N z => ⟨(fun k h => by cases h), kR, q2, cc, q3⟩, XF, fun t ht => ?_⟩
  have lim := Launch.admits_arrayLengthLimit X.admits
  have mhb := Launch.admits_maxHeapBytes X.admits
  jvm_step X.here [hx, hd]
  unfold multianewarray.sem
  simp only [wp_bind', W.resolveClassAt_links (State.method?_setTop g X.here.top) w1]
  rw [W.popN, if_neg (show ¬ (2 : Nat) = 0 by decide)]
  refine ⟨g, State.topJava?_setTop' (s := T.setVm vm) g X.here.top, [.int (nI 4), .int (nI 64)], rest, rfl, hst, ?_⟩
  simp only [List.mapM_cons, List.mapM_nil, wp_bind', wp_pure']
  have eS : ((T.setTop g).setVm vm).setTop { g with stack := rest } = (T.setVm vm).setTop { g with stack := rest } := by
    show ((T.setVm vm).setTop g).setTop _ = _
    rw [State.setTop_setTop]
  rw [eS]
  refine y_make (s := (T.setVm vm).setTop { g with stack := rest }) (k := kA1) (kc := kR1) (cc := cc) u1 (by rw [u2]; exact f3) v1 (by rw [v2]; exact q3) (by rw [lim]; decide) (by rw [mhb]; decide) (by rw [lim]; decide) (by rw [mhb]; decide) b1 b2 (fun d' acts' => ?_)
  rw [y_T_top]
  simp only [wp_bind', W.mark, W.pushRef, State.topJava?_setTop' _ XF.here.top, Option.some.injEq, exists_eq_left', State.setTop_setTop]
  intro acts
  simp [jvm, XF.here.top]
  exact ht
def x_m4 {α : Type} (f : Nat → α) (n : Nat) (z y : α) : Nat → α := x_u1 (x_u1 (x_u1 (x_u1 (x_u1 f (n + 1) z) (n + 1 + 1) y) (n + 1 + 1 + 1) y) (n + 1 + 1 + 1 + 1) y) (n + 1 + 1 + 1 + 1 + 1) y
theorem x_m4_lo {α : Type} (f : Nat → α) (n : Nat) (z y : α) {a : Nat} (h : a ≤ n ∨ n + 5 < a) : x_m4 f n z y a = f a := by
  unfold x_m4
  rw [x_u1_n _ _ (by omega), x_u1_n _ _ (by omega), x_u1_n _ _ (by omega), x_u1_n _ _ (by omega), x_u1_n _ _ (by omega)]
theorem x_m4_o {α : Type} (f : Nat → α) (n : Nat) (z y : α) : x_m4 f n z y (n + 1) = z := by
  unfold x_m4
  rw [x_u1_n _ _ (by omega), x_u1_n _ _ (by omega), x_u1_n _ _ (by omega), x_u1_n _ _ (by omega), x_u1_s]
theorem x_m4_i {α : Type} (f : Nat → α) (n : Nat) (z y : α) {j : Nat} (h : j < 4) : x_m4 f n z y (n + 1 + 1 + j) = y := by
  unfold x_m4
  rcases (show j = 0 ∨ j = 1 ∨ j = 2 ∨ j = 3 by omega) with rfl | rfl | rfl | rfl
  · rw [x_u1_n _ _ (by omega), x_u1_n _ _ (by omega), x_u1_n _ _ (by omega)]; exact x_u1_s _ _ _
  · rw [x_u1_n _ _ (by omega), x_u1_n _ _ (by omega)]; exact x_u1_s _ _ _
  · rw [x_u1_n _ _ (by omega)]; exact x_u1_s _ _ _
  · exact x_u1_s _ _ _
theorem v_mna {F : x_F} {K : x_K} {pc pc' : Nat} {ls : List (Option Value)} {st : List Value} {S : x_S} {P : x_P} {I : x_I} {J : x_J} {n cs sl idx : Nat} (hd : x_d F.1 4 pc (.multianewarray idx 2) pc') (hcl : Cond.classLink F.2.2.1.cls idx "[[I" ∈ lw_tbl) (hc : cs + (1 + 4) ≤ F.2.2.2.2.cells) (hsl : sl + (4 + 4 * 64) ≤ F.2.2.2.2.slots)
    (kk : x_V F K pc' ls (.ref (n + 1) :: st) (x_m4 S n (.inr (4, 4)) (.inr (0, 64))) (x_m4 P n (fun j => bif Nat.blt j 4 then some (n + 1 + 1 + j) else none) (fun _ => none)) (x_m4 I n (fun _ => 0) (fun _ => 0)) (x_m4 J n (fun _ => 0) (fun _ => 0)) (n + 1 + 1 + 1 + 1 + 1) (cs + 1 + 4) (sl + 4 + 4 * 64)) : x_V F K pc ls (.int (nI 64) :: .int (nI 4) :: st) S P I J n cs sl := by
  intro D b base L xs p l e s m args below meth c H locs Q lr C hH hS h0 hI hL hR
  obtain ⟨hd1, rfl⟩ := hd
  have hW := C.2.2.2.2.2.2.2.1
  have hb := C.2.2.2.2.2.2.2.2.2.1
  intro T hT X
  obtain ⟨vm₁, cA, comp, aO, aI, X', step⟩ := y_mna X C.1 (own := F.2.2.1.cls) (idx := idx) C.2.2.2.1 (hW.1 _ hcl args) (hW.1 _ la_grid args) (hW.1 _ la_int args) (g := F0 m pc lr ((Value.int (nI 64) :: .int (nI 4) :: st).map (x_tr b base))) rfl (by rw [C.2.1]; exact hd1) (rest := st.map (x_tr b base)) rfl hc hsl
  have hTh : (T.setVm vm₁).heap = H := hT
  have f1 := y_T_sz (T.setVm vm₁) cA comp 4
  have f2 := y_T_at (T.setVm vm₁) cA comp 4
  have hold : ∀ q : Nat, q < H.size → (y_T (T.setVm vm₁) cA comp 4).heap[q]? = H[q]? := fun q hq => by
    have z := y_T_old (T.setVm vm₁) cA comp (q := q) (by rw [hTh]; exact hq) 4
    rw [hTh] at z
    exact z
  have hrow : ∀ j : Nat, j < 4 → (y_T (T.setVm vm₁) cA comp 4).heap[H.size + 1 + j]? = some (y_r comp) := fun j hj => by
    have z := y_T_row (T.setVm vm₁) cA comp 4 hj
    rw [hTh] at z
    exact z
  generalize y_T (T.setVm vm₁) cA comp 4 = G at X' step f1 f2 hold hrow
  rw [hTh] at f1 f2
  have hsz := hH.1
  have hV := kk D b base L xs p l e s m args below meth c G.heap locs Q lr C ?_ ⟨Nat.le_trans hS.1 (by rw [f1]; omega), fun q h1 h2 => by rw [hold q (by have := hS.1; omega)]; exact hS.2.1 q h1 h2, hS.2.2⟩ (by rw [x_m4_lo _ _ _ _ (Or.inl (Nat.zero_le _))]; exact h0) (by rw [x_m4_lo _ _ _ _ (Or.inl (Nat.zero_le _))]; exact hI) hL hR
  · obtain ⟨t, a1, b1⟩ := hV G rfl X'
    refine ⟨t, step t ?_, b1⟩
    have e9 : x_tr b base (.ref (n + 1)) = .ref T.heap.size := by rw [hT, hsz]; rfl
    rw [List.map_cons, e9] at a1
    exact a1
  · refine ⟨by rw [f1, hsz]; omega, fun a h1 => by rw [x_m4_lo _ _ _ _ (Or.inr (by omega))]; exact hH.2.1 a (by omega), fun a h1 h2 => ?_⟩
    by_cases q : a ≤ n
    · refine (hH.2.2 a h1 q).congr (x_m4_lo _ _ _ _ (Or.inl q)) (x_m4_lo _ _ _ _ (Or.inl q)) (x_m4_lo _ _ _ _ (Or.inl q)) (x_m4_lo _ _ _ _ (Or.inl q)) (hold _ ?_)
      rw [hsz]
      cases a with
      | zero => show b < _; omega
      | succ k => show base + k < _; omega
    · by_cases q2 : a = n + 1
      · subst q2
        unfold x_at
        rw [x_m4_o]
        refine ⟨cA, aO, (fun z => by cases z), ?_⟩
        show G.heap[base + n]? = _
        rw [← hsz, f2]
        unfold y_o
        congr 2
        funext j
        show _ = x_tr b base (va_rf (x_m4 P n _ _ (n + 1) j))
        rw [x_m4_o]
        cases hj : Nat.blt j 4 with
        | true =>
          show Value.ref (H.size + 1 + j) = Value.ref (x_ad b base (n + 1 + 1 + j))
          rw [hsz, show n + 1 + 1 + j = (n + 1 + j) + 1 by omega]
          show Value.ref (base + n + 1 + j) = Value.ref (base + (n + 1 + j))
          rw [show base + n + 1 + j = base + (n + 1 + j) by omega]
        | false => rfl
      · obtain ⟨j, rfl⟩ : ∃ j, a = n + 1 + 1 + j := ⟨a - (n + 2), by omega⟩
        have hj : j < 4 := by omega
        unfold x_at
        rw [x_m4_i _ _ _ _ hj]
        refine ⟨comp, aI, (fun z => by cases z), ?_⟩
        rw [show n + 1 + 1 + j = (n + 1 + j) + 1 by omega]
        show G.heap[base + (n + 1 + j)]? = _
        rw [show base + (n + 1 + j) = H.size + 1 + j by omega, hrow j hj]
        unfold y_r
        congr 2
        funext k
        show _ = x_tr b base (.int (x_m4 I n _ _ (n + 1 + j + 1) k))
        rw [show n + 1 + j + 1 = n + 1 + 1 + j by omega, x_m4_i _ _ _ _ hj]
        rfl
