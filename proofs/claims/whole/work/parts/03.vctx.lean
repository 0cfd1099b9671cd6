/-! The judgement x_V (the machine stands in a method, over an abstract memory), contracts x_Call, and what moves them. -/
theorem x_AOA {t : FieldType} {u U : State} {A A' : Array Value} (hvm : u.vm.Alike U.vm) (h : (Cond.arrayOver (.array t)).before A u = true) : (Cond.arrayOver (.array t)).before A' U = true := by
  simp only [Cond.before, Cond.holds, Cond.value, beq_iff_eq] at h ⊢
  cases hc : u.vm.findClass (FieldType.array t).toString with
  | none => simp [hc] at h
  | some comp =>
    simp only [hc, Option.bind_some, Option.bind_eq_some_iff, Option.map_eq_some_iff] at h
    obtain ⟨c, hi, k, hk, hb⟩ := h
    obtain ⟨k', hk', he⟩ := hvm.2.2 _ _ hk
    have hi2 : (U.vm.classes.findIdx? fun (x : Class) => match x.kind with | .array component _ => component == comp | _ => false) = some c := by
      have e0 := va_idx_bare U.vm comp
      rw [hvm.bare_eq] at e0
      exact (e0.symm.trans (va_idx_bare u.vm comp)).trans hi
    have hkind : k'.kind = k.kind := by rw [he]
    simp only [hvm.findClass, hc, Option.bind_some, Option.bind_eq_some_iff, Option.map_eq_some_iff]
    refine ⟨c, hi2, k', hk', ?_⟩
    rw [hkind]
    exact hb
def x_ok (w : Cond) : Bool := match w with
  | .fieldLinkNest _ _ _ _ _ _ => true
  | .methodLinkNest _ _ _ _ => true
  | .castable _ _ => true
  | .declares _ => true
  | .privateMethod _ => true
  | .arrayOver (.object _) => true
  | .arrayOver (.array _) => true
  | w => goodWord w
theorem x_tbl_ok : lw_tbl.all x_ok = true := by decide +kernel
theorem x_warm {w : Cond} (h : x_ok w = true) {s U : State} (hW : s.WarmedH U.vm) {a a' : Array Value} (hb : w.before a s = true) : w.before a' U = true := by
  unfold x_ok at h
  split at h
  · exact va_Nw.use rfl (va_Nw.warmF hW (va_Nw.of rfl hb))
  · exact va_Nw.use rfl (va_Nw.warmM hW (va_Nw.of rfl hb))
  · exact va_Nw.use rfl (va_Nw.warmC hW (va_Nw.of rfl hb))
  · exact va_Nw.use rfl (va_Nw.warmD hW (va_Nw.of rfl hb))
  · rename_i x
    have h2 : (Cond.privateMethod x).before a (s.setVm U.vm) = true := Cond.faceAtom_setVm hW.alike (.privateMethod x) rfl hb
    exact va_tabs (u := s.setVm U.vm) rfl rfl h2
  · exact va_AO.use (va_AO.moved hW.alike (va_AO.of hb))
  · exact x_AOA hW.alike hb
  · exact word_at hW (good_of_word h) hb
/-- what the tables say, at a state -/
def x_Wd (D : va_G) (U : State) : Prop := (∀ w ∈ lw_tbl, ∀ a : Array Value, w.before a U = true) ∧ (∀ (c : Nat) (q : vw_C), vwCl[c]? = some q → u_Kn U q.1 q.2.1 q.2.2 (D.1 c) (D.2 c)) ∧
  va_Nc RX10 RX5 U ∧ va_Nc RX10 RX0 U ∧ va_Nc RX5 RX0 U
theorem x_Wd.warm {D : va_G} {s U : State} (hW : s.WarmedH U.vm) (h : x_Wd D s) : x_Wd D U :=
  ⟨fun w hw a => x_warm (List.all_eq_true.mp x_tbl_ok w hw) hW (h.1 w hw #[]), fun c q hq => u_Kn_moved hW.alike (h.2.1 c q hq), h.2.2.1.moved hW.alike, h.2.2.2.1.moved hW.alike, h.2.2.2.2.moved hW.alike⟩
theorem x_at.moved {D : va_G} {u U : State} {b base : Nat} {S : x_S} {P : x_P} {I : x_I} {J : x_J} {a : Nat} {H : Heap} (hvm : u.vm.Alike U.vm) (h : x_at D u b base S P I J a H) : x_at D U b base S P I J a H := by
  unfold x_at at h ⊢
  split at h
  · exact h
  · obtain ⟨cA, h1, h2, h3⟩ := h
    exact ⟨cA, arrOfT_moved hvm h1, fun e => (h2 e).moved hvm, h3⟩
theorem x_H.moved {D : va_G} {u U : State} {b base : Nat} {S : x_S} {P : x_P} {I : x_I} {J : x_J} {n : Nat} {H : Heap} (hvm : u.vm.Alike U.vm) (h : x_H D u b base S P I J n H) : x_H D U b base S P I J n H :=
  ⟨h.1, h.2.1, fun a h0 h1 => (h.2.2 a h0 h1).moved hvm⟩
theorem x_at.congr {D : va_G} {U : State} {b base : Nat} {S S' : x_S} {P P' : x_P} {I I' : x_I} {J J' : x_J} {a : Nat} {H H' : Heap} (h : x_at D U b base S P I J a H) (hS : S' a = S a) (hP : P' a = P a) (hI : I' a = I a) (hJ : J' a = J a) (hH : H'[x_ad b base a]? = H[x_ad b base a]?) : x_at D U b base S' P' I' J' a H' := by
  have hv : ∀ t k, x_fv P' I' J' t a k = x_fv P I J t a k := fun t k => by
    unfold x_fv
    rw [hP, hI, hJ]
  unfold x_at at h ⊢
  rw [hS]
  split at h
  · obtain ⟨r, h1, h2⟩ := h
    exact ⟨r, h1, (h2.to (fun k _ => by rw [hv])).kept hH⟩
  · obtain ⟨cA, h1, h2, h3⟩ := h
    refine ⟨cA, h1, h2, ?_⟩
    rw [hH, h3]
    congr 2
    funext j
    rw [hv]
theorem x_H.in {D : va_G} {U : State} {b base : Nat} {S : x_S} {P : x_P} {I : x_I} {J : x_J} {n a L : Nat} {H : Heap} (h : x_H D U b base S P I J n H) (h0 : S 0 = .inr (9, L)) {z : x_Sh} (hs : S a = z) (h8 : z ≠ .inr (8, 0)) (h9 : z ≠ .inr (9, L)) : 0 < a ∧ a ≤ n := by
  refine ⟨Nat.pos_of_ne_zero fun e => ?_, Nat.not_lt.mp fun e => ?_⟩
  · subst e; exact h9 (hs.symm.trans h0)
  · exact h8 (hs.symm.trans (h.2.1 a e))
/-- one cell is written -/
theorem x_H.put {D : va_G} {U : State} {b base : Nat} {S : x_S} {P P' : x_P} {I I' : x_I} {J J' : x_J} {n a : Nat} {H H' : Heap} (hb : b < base) (h : x_H D U b base S P I J n H) (hz : H'.size = H.size) (ho : ∀ q, q ≠ x_ad b base a → H'[q]? = H[q]?) (hP : ∀ c, c ≠ a → P' c = P c) (hI : ∀ c, c ≠ a → I' c = I c) (hJ : ∀ c, c ≠ a → J' c = J c) (ha : x_at D U b base S P' I' J' a H') : x_H D U b base S P' I' J' n H' := by
  refine ⟨hz.trans h.1, h.2.1, fun c h0 h1 => ?_⟩
  by_cases e : c = a
  · subst e; exact ha
  · exact (h.2.2 c h0 h1).congr rfl (hP c e) (hI c e) (hJ c e) (ho _ fun q => e (x_ad_inj hb q))
/-- one cell is made -/
theorem x_H.new {D : va_G} {U : State} {b base : Nat} {S : x_S} {P : x_P} {I : x_I} {J : x_J} {n : Nat} {H H' : Heap} {z : x_Sh} {r : Nat → Option Nat} {f : Nat → Int32} {g : Nat → Int64} (hb : b < base) (h : x_H D U b base S P I J n H) (hz : H'.size = H.size + 1) (ho : ∀ q, q < H.size → H'[q]? = H[q]?) (ha : x_at D U b base (x_u1 S (n + 1) z) (x_u1 P (n + 1) r) (x_u1 I (n + 1) f) (x_u1 J (n + 1) g) (n + 1) H') :
    x_H D U b base (x_u1 S (n + 1) z) (x_u1 P (n + 1) r) (x_u1 I (n + 1) f) (x_u1 J (n + 1) g) (n + 1) H' := by
  refine ⟨by rw [hz, h.1]; omega, fun a h1 => ?_, fun c h0 h1 => ?_⟩
  · rw [x_u1_n _ _ (by omega)]; exact h.2.1 a (by omega)
  · by_cases e : c = n + 1
    · subst e; exact ha
    · refine (h.2.2 c h0 (by omega)).congr (x_u1_n _ _ e) (x_u1_n _ _ e) (x_u1_n _ _ e) (x_u1_n _ _ e) (ho _ ?_)
      rw [h.1]
      cases c with
      | zero => show b < _; omega
      | succ k => show base + k < _; omega
/-- inside a method -/
def x_Cx (F : x_F) (D : va_G) (b base L : Nat) (xs : Nat → Int32) (p : Program) (s : State) (m : MethodId) (meth : Method) (c : Code) : Prop :=
  p.tables.exec = Jvm.exec ∧ c.code = F.1 ∧ c.maxLocals = F.2.1 ∧ s.vm.findClass F.2.2.1.cls = some m.cls ∧ meth.locks = false ∧ meth.name = F.2.2.1.name ∧ meth.sig.returnType = F.2.2.2.1 ∧ x_Wd D s ∧ va_X b L xs s s.heap ∧ b < base ∧ base ≤ s.heap.size
def x_ro (v : Option Value) (rt : Option FieldType) (i : Instr) : Prop := match v with
  | none => i = .return_ ∧ rt = none
  | some (.int x) => i = .ireturn ∧ ∃ ty, rt = some ty ∧ narrow ty (.int x) = .int x
  | some (.long _) => i = .lreturn ∧ rt = some .long
  | some (.ref _) => i = .areturn ∧ ∃ nm, rt = some (.object nm)
  | some .null => i = .areturn ∧ ∃ nm, rt = some (.object nm)
  | _ => False
def x_A (base : Nat) : Nat → Prop := fun q => base ≤ q
def x_Rt (F : x_F) (K : x_K) (D : va_G) (b base L : Nat) (xs : Nat → Int32) (p : Program) (l : Launch) (e : Env) (s : State) (m : MethodId) (args : Array Value) (below : List Frame) (meth : Method) (c : Code) (Q : State → Prop) : Prop :=
  ∀ (v : Option Value) (S : x_S) (P : x_P) (I : x_I) (J : x_J) (n : Nat) (H : Heap) (locs : List Loc) (pc : Nat) (lr : Array Slot) (cs sl : Nat) (i : Instr), K v S P I J n → x_H D s b base S P I J n H → va_S (x_A base) s.heap H locs → S 0 = .inr (9, L) → I 0 = xs →
    decode F.1 pc = .ok (i, 1) → x_ro v F.2.2.2.1 i → cs ≤ F.2.2.2.2.cells → sl ≤ F.2.2.2.2.slots → W p l e F.2.2.2.2 s m args below meth c H locs cs sl Q (F0 m pc lr (v.toList.map (x_tr b base)))
def x_V (F : x_F) (K : x_K) (pc : Nat) (ls : List (Option Value)) (st : List Value) (S : x_S) (P : x_P) (I : x_I) (J : x_J) (n cs sl : Nat) : Prop :=
  ∀ (D : va_G) (b base L : Nat) (xs : Nat → Int32) (p : Program) (l : Launch) (e : Env) (s : State) (m : MethodId) (args : Array Value) (below : List Frame) (meth : Method) (c : Code) (H : Heap) (locs : List Loc) (Q : State → Prop) (lr : Array Slot),
    x_Cx F D b base L xs p s m meth c → x_H D s b base S P I J n H → va_S (x_A base) s.heap H locs → S 0 = .inr (9, L) → I 0 = xs → x_L b base lr F.2.1 ls → x_Rt F K D b base L xs p l e s m args below meth c Q →
    W p l e F.2.2.2.2 s m args below meth c H locs cs sl Q (F0 m pc lr (st.map (x_tr b base)))
/-- what a call needs of its start, and says of its end -/
def x_Pre (D : va_G) (b base L : Nat) (xs : Nat → Int32) (S : x_S) (P : x_P) (I : x_I) (J : x_J) (n : Nat) (U : State) : Prop := x_H D U b base S P I J n U.heap ∧ x_Wd D U ∧ va_X b L xs U U.heap ∧ b < base
def x_Q (D : va_G) (b base L : Nat) (xs : Nat → Int32) (K : x_K) : Array Value → State → Outcome → State → Prop := fun _ st oc t =>
  (∃ (v : Option Value) (S : x_S) (P : x_P) (I : x_I) (J : x_J) (n : Nat), oc = .returned (v.map (x_tr b base)) ∧ K v S P I J n ∧ x_H D t b base S P I J n t.heap ∧ S 0 = .inr (9, L) ∧ I 0 = xs) ∧ va_F (x_A base) st t
def x_Call (F : x_F) (as : List Value) (K : x_K) (S : x_S) (P : x_P) (I : x_I) (J : x_J) (n : Nat) : Prop :=
  ∀ (D : va_G) (b base L : Nat) (xs : Nat → Int32) (l : Launch), S 0 = .inr (9, L) → I 0 = xs →
    Met l F.2.2.1 [.code F.2.2.1 F.1 F.2.1 F.2.2.2.1] F.2.2.2.2 (va_Pc (as.map (x_tr b base)) (x_Pre D b base L xs S P I J n)) (x_Q D b base L xs K) F.2.2.2.2.cells F.2.2.2.2.slots (x_A base)
theorem x_Pre.blind {D : va_G} {b base L : Nat} {xs : Nat → Int32} {S : x_S} {P : x_P} {I : x_I} {J : x_J} {n : Nat} {as : List Value} : FrameBlind (va_Pc as (x_Pre D b base L xs S P I J n)) := by
  intro a U g mk h
  obtain ⟨h1, h2, h3, h4, h5⟩ := h
  exact ⟨h1, x_H.moved (u := U) (U := U.calling g mk a) (Vm.Alike.refl U.vm) h2, h3.warm (U := U.calling g mk a) (State.WarmedH.refl U), va_X.moved (u := U) (U := U.calling g mk a) (Vm.Alike.refl U.vm) h4, h5⟩
/-- a method meets its contract, if its body does from its entry -/
theorem x_intro {F : x_F} {as : List Value} {K : x_K} {S : x_S} {P : x_P} {I : x_I} {J : x_J} {n : Nat} (hy : plainName F.2.2.1.cls = true) (k : Nat) {ls : List (Option Value)} (hls : x_en as ++ List.replicate k none = ls) (hn : (x_en as).length ≤ F.2.1) (hv : x_V F K 0 ls [] S P I J n 0 0) : x_Call F as K S P I J n := by
  intro D b base L xs l h0 hI
  refine Met.ofW (cc := F.1) (maxL := F.2.1) (ret := F.2.2.2.1) hy rfl ?_
  intro p e s m args below meth c s₁ B hml hp
  obtain ⟨rfl, hH, hW, hX, hb⟩ := hp
  have hbs : base ≤ s.heap.size := by rw [hH.1]; omega
  have hlocks := B.notSynchronized
  have C : x_Cx F D b base L xs p s m meth c := ⟨B.exec, B.bytes, hml, findClass_of_methodNamed B.named, B.notSynchronized, (name_of_methodNamed B.named B.method).1, B.returns, hW, hX, hb, hbs⟩
  rw [lg_entry_eq]
  refine hv D b base L xs p l e s m _ below meth c s.heap [] _ _ C hH va_S.rf h0 hI (hls ▸ x_L.entry as k hn) ?_
  intro v S' P' I' J' n' H' locs' pc lr cs sl i hK hH' hS' h0' hI' hd hro hcs hsl
  have hq : ∀ t : State, t.heap = H' → s.WarmedH t.vm → x_Q D b base L xs K (as.map (x_tr b base)).toArray s (.returned (v.map (x_tr b base))) t := fun t ht hw =>
    ⟨⟨v, S', P', I', J', n', rfl, hK, by rw [ht]; exact hH'.moved hw.alike, h0', hI'⟩, hS'.F ht⟩
  have hf : ∀ q ∈ locs', x_A base q.base := hS'.2.2
  refine W.widen hcs hsl ?_
  unfold x_ro at hro
  split at hro
  · obtain ⟨rfl, hr⟩ := hro
    exact W.vret B.exec B.bytes (B.returns.trans hr) hq hf hd
  · obtain ⟨rfl, ty, hr, hnar⟩ := hro
    exact W.zret B.exec B.bytes (B.returns.trans hr) hnar hq hf hd
  · obtain ⟨rfl, hr⟩ := hro
    exact W.lret B.exec B.bytes (B.returns.trans hr) hq hf hd
  · obtain ⟨rfl, nm, hr⟩ := hro
    exact W.aret B.exec B.bytes (B.returns.trans hr) (Or.inl ⟨nm, rfl⟩) (Or.inr ⟨_, rfl⟩) hq hf hd
  · obtain ⟨rfl, nm, hr⟩ := hro
    exact W.aret B.exec B.bytes (B.returns.trans hr) (Or.inl ⟨nm, rfl⟩) (Or.inl rfl) hq hf hd
  · exact hro.elim
/-- a stronger end -/
theorem x_V.mono {F : x_F} {K K' : x_K} {pc : Nat} {ls : List (Option Value)} {st : List Value} {S : x_S} {P : x_P} {I : x_I} {J : x_J} {n cs sl : Nat} (h : x_V F K pc ls st S P I J n cs sl) (hK : ∀ v S P I J n, K v S P I J n → K' v S P I J n) : x_V F K' pc ls st S P I J n cs sl := by
  intro D b base L xs p l e s m args below meth c H locs Q lr C hH hS h0 hI hL hR
  exact h D b base L xs p l e s m args below meth c H locs Q lr C hH hS h0 hI hL (fun v S P I J n H locs pc lr cs sl i k => hR v S P I J n H locs pc lr cs sl i (hK v S P I J n k))
/-- behind a call -/
theorem x_run {F : x_F} {K' : x_K} {D : va_G} {b base L : Nat} {xs : Nat → Int32} {p : Program} {l : Launch} {e : Env} {R : Room} {s : State} {m : MethodId} {args : Array Value} {below : List Frame} {meth : Method} {c : Code} {H : Heap} {locs : List Loc} {cs sl mc ms pc : Nat} {lr : Array Slot} {st0 rest : List Value} {a : Array Value} {Q : State → Prop}
    (hr : va_Run p l e R s m args below meth c H locs cs sl mc ms (F0 m pc lr st0) rest (x_Q D b base L xs K' a) (x_A base)) (hS : va_S (x_A base) s.heap H locs)
    (kk : ∀ (v : Option Value) (S : x_S) (P : x_P) (I : x_I) (J : x_J) (n : Nat) (H1 : Heap) (locs1 : List Loc), K' v S P I J n → x_H D s b base S P I J n H1 → va_S (x_A base) s.heap H1 locs1 → S 0 = .inr (9, L) → I 0 = xs →
      W p l e R s m args below meth c H1 locs1 (cs + mc) (sl + ms) Q (F0 m (pc + 3) lr (v.toList.map (x_tr b base) ++ rest))) : W p l e R s m args below meth c H locs cs sl Q (F0 m pc lr st0) := by
  intro T hT X
  obtain ⟨v, st₀, t, T', L', h0, X', hL, e1, e2, ⟨⟨v', S, P, I, J, n, hv, hK, hH, hs0, hi0⟩, hz, hk⟩, st⟩ := hr T hT X
  cases hv
  rw [h0] at hz hk
  have hal : s.vm.Alike t.vm := by rw [← e2]; exact X'.warmed.alike
  obtain ⟨t2, a1, b1⟩ := kk v' S P I J n T'.heap (locs ++ L') hK (by rw [e1]; exact hH.moved hal.symm)
    ⟨Nat.le_trans hS.1 (by rw [e1]; exact hz), fun q h1 h2 => by rw [e1, hk q (Nat.lt_of_lt_of_le h1 hS.1) h2]; exact hS.2.1 q h1 h2, fun q hq => by
      rcases List.mem_append.mp hq with h | h
      · exact hS.2.2 q h
      · exact hL q h⟩ hs0 hi0 T' rfl X'
  refine ⟨t2, st t2 ?_, b1⟩
  cases v' <;> exact a1
