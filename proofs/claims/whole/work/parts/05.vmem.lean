/-! Fields, arrays, new cells. -/
/-- a class's table: its row of vwCl, its words, its types, its names -/
def x_CK (ci : Nat) (Cn : String) (T : u_T) (N : Nat) : Prop := vwCl[ci]? = some (Cn, T, N) ∧ (∀ w ∈ u_ws Cn T N, w ∈ lw_tbl) ∧ (∀ k, k < N → parseFieldDescriptor (T k).2.2.1 = some (x_tys ci k)) ∧ (∀ a, a < N → ∀ b, b < N → a ≠ b → (T a).2.1 ≠ (T b).2.1)
/-- a field link: from the class own, the pool's entry idx, to field k of class ci -/
def x_fl (own : String) (idx ci k : Nat) : Prop := ∃ (Cn : String) (T : u_T) (N : Nat) (ref : String), x_CK ci Cn T N ∧ k < N ∧
  (Cond.fieldLink own idx ref (T k).2.1 (T k).2.2.1 ∈ lw_tbl ∨ ∃ host, Cond.fieldLinkNest own idx ref (T k).2.1 (T k).2.2.1 host ∈ lw_tbl) ∧ (ref = (T k).1 ∨ Cond.sameField ref (T k).1 (T k).2.1 (T k).2.2.1 ∈ lw_tbl)
def x_pf (own name : String) (idx ci k : Nat) : Prop := ∃ (Cn : String) (T : u_T) (N : Nat) (ref : String), x_CK ci Cn T N ∧ k < N ∧
  Cond.fieldLink own idx ref (T k).2.1 (T k).2.2.1 ∈ lw_tbl ∧ (ref = (T k).1 ∨ Cond.sameField ref (T k).1 (T k).2.1 (T k).2.2.1 ∈ lw_tbl) ∧ ((T k).2.2.2 = false ∨ ((T k).2.2.2 = true ∧ name = "<init>" ∧ (T k).1 = own))
section XMEM
variable {F : x_F} {K : x_K} {D : va_G} {b base L : Nat} {xs : Nat → Int32} {p : Program} {l : Launch} {e : Env} {s : State} {m : MethodId} {args : Array Value} {below : List Frame} {meth : Method} {c : Code} {H : Heap} {locs : List Loc} {Q : State → Prop} {lr : Array Slot}
variable {S : x_S} {P P' : x_P} {I I' : x_I} {J J' : x_J} {n cs sl pc a : Nat} {rest : List Value} {R : Room}
theorem x_same {ref o nm ds : String} (hW : x_Wd D s) (h : ref = o ∨ Cond.sameField ref o nm ds ∈ lw_tbl) (x : ClassId × Class × Nat × Field) (hx : s.fieldFound? o nm ds = some x) : s.fieldFound? ref nm ds = some x := by
  rcases h with rfl | h
  · exact hx
  · exact u_same (hW.1 _ h #[]) x hx
theorem x_getf {idx ci k : Nat} (C : x_Cx F D b base L xs p s m meth c) (hH : x_H D s b base S P I J n H) (h0 : S 0 = .inr (9, L)) (hl : x_fl F.2.2.1.cls idx ci k) (hs : S a = .inl ci) (hdg : decode F.1 pc = .ok (.getfield idx, 3))
    (kk : W p l e R s m args below meth c H locs cs sl Q (F0 m (pc + 3) lr (x_tr b base (x_fv P I J (x_ft ci k) a k) :: rest))) : W p l e R s m args below meth c H locs cs sl Q (F0 m pc lr (.ref (x_ad b base a) :: rest)) := by
  obtain ⟨Cn, T, N, ref, ⟨hc, hin, hty, hnm⟩, hk, hlk, hsm⟩ := hl
  obtain ⟨p0, p1⟩ := hH.in h0 hs (by intro q; cases q) (by intro q; cases q)
  have ha := hH.2.2 a p0 p1
  unfold x_at at ha
  rw [hs] at ha
  obtain ⟨r, h1, cell, q1, q2, q3, q4⟩ := ha
  have hr : r = (Cn, T, N) := Option.some.inj (h1.symm.trans hc)
  subst hr
  have hW := C.2.2.2.2.2.2.2.1
  have hts : ∀ w ∈ lw_tbl, w.before args s = true := fun w hw => hW.1 w hw args
  obtain ⟨hS, hfc, kC, hkC, hkind⟩ := hW.2.1 ci _ hc
  obtain ⟨cf, kf, fi, f, hi, hsl⟩ := hS k hk
  have hst := (u_facts hfc hkC (u_lays hts hin hk) hi).1
  rcases hlk with hlk | ⟨host, hlk⟩
  · refine W.getf C.1 C.2.1 C.2.2.2.1 (hts _ hlk) (x_same hW hsm _ hi) hst q1 (by rw [q3]; exact fun h => by cases h) (v := x_tr b base (x_fv P I J (x_ft ci k) a k)) ?_ rfl rfl hdg kk
    rw [hsl, q4 k hk]
  · refine va_Wgetf C.1 C.2.1 C.2.2.2.1 (hts _ hlk) (x_same hW hsm _ hi) hst q1 (by rw [q3]; exact fun h => by cases h) (v := x_tr b base (x_fv P I J (x_ft ci k) a k)) ?_ rfl rfl hdg kk
    rw [hsl, q4 k hk]
theorem x_ad_A {b base a : Nat} (h : 0 < a) : x_A base (x_ad b base a) := by
  cases a with
  | zero => omega
  | succ k => show base ≤ base + k; omega
theorem x_putf {idx ci k : Nat} {v : Value} (C : x_Cx F D b base L xs p s m meth c) (hH : x_H D s b base S P I J n H) (hSv : va_S (x_A base) s.heap H locs) (h0 : S 0 = .inr (9, L)) (hl : x_pf F.2.2.1.cls F.2.2.1.name idx ci k) (hs : S a = .inl ci)
    (hn : narrow (x_tys ci k) (x_tr b base v) = x_tr b base v) (hfit : fits (x_tys ci k) (x_tr b base v) = true) (hP : ∀ c, c ≠ a → P' c = P c) (hI : ∀ c, c ≠ a → I' c = I c) (hJ : ∀ c, c ≠ a → J' c = J c)
    (hv : ∀ j, x_fv P' I' J' (x_ft ci j) a j = if j = k then v else x_fv P I J (x_ft ci j) a j) (hdg : decode F.1 pc = .ok (.putfield idx, 3))
    (kk : ∀ (H1 : Heap) (locs1 : List Loc), x_H D s b base S P' I' J' n H1 → va_S (x_A base) s.heap H1 locs1 → W p l e R s m args below meth c H1 locs1 cs sl Q (F0 m (pc + 3) lr rest)) : W p l e R s m args below meth c H locs cs sl Q (F0 m pc lr (x_tr b base v :: .ref (x_ad b base a) :: rest)) := by
  obtain ⟨Cn, T, N, ref, ⟨hc, hin, hty, hnm⟩, hk, hlk, hsm, hfin⟩ := hl
  obtain ⟨p0, p1⟩ := hH.in h0 hs (by intro q; cases q) (by intro q; cases q)
  have ha := hH.2.2 a p0 p1
  unfold x_at at ha
  rw [hs] at ha
  obtain ⟨r, h1, cell, q1, q2, q3, q4⟩ := ha
  have hr : r = (Cn, T, N) := Option.some.inj (h1.symm.trans hc)
  subst hr
  have hW := C.2.2.2.2.2.2.2.1
  have hts : ∀ w ∈ lw_tbl, w.before args s = true := fun w hw => hW.1 w hw args
  obtain ⟨hS, hfc, kC, hkC, hkind⟩ := hW.2.1 ci _ hc
  obtain ⟨cf, kf, fi, f, hi, hsl⟩ := hS k hk
  have hst := (u_facts hfc hkC (u_lays hts hin hk) hi).1
  have hap : ∀ x y, x < N → y < N → x ≠ y → (D.2 ci) x ≠ (D.2 ci) y := by
    intro x y hx hy hne
    obtain ⟨_, _, _, fa, hia, ea⟩ := hS x hx
    obtain ⟨_, _, _, fb, hib, eb⟩ := hS y hy
    rw [← ea, ← eb]
    refine u_apart (u_lays hts hin hx) (u_lays hts hin hy) hia hib ?_
    rw [(State.fieldFound?_type hia (hty x hx)).1, (State.fieldFound?_type hib (hty y hy)).1]
    exact hnm x hx y hy hne
  have hlay := hts _ (hin _ (u_in_lay hk))
  unfold u_lay at hlay
  have fin : ∀ H' : Heap, H'[x_ad b base a]? = some (cell.setSlot (D.2 ci k) (x_tr b base v)) → H'.size = H.size → (∀ q, q ≠ x_ad b base a → H'[q]? = H[q]?) → W p l e R s m args below meth c H' (locs ++ [⟨x_ad b base a, D.2 ci k⟩]) cs sl Q (F0 m (pc + 3) lr rest) := by
    intro H' e1 e2 e3
    refine kk H' _ (hH.put C.2.2.2.2.2.2.2.2.2.1 e2 e3 hP hI hJ ?_) (hSv.put e2 e3 (x_ad_A p0))
    unfold x_at
    rw [hs]
    refine ⟨_, hc, _, e1, q2, q3, fun j hj => ?_⟩
    rw [t_set q4 hap hk (x_tr b base v) j hj]
    show some (updV _ k (x_tr b base v) j) = some (x_tr b base (x_fv P' I' J' (x_ft ci j) a j))
    rw [hv j]
    unfold updV
    by_cases hjk : j = k
    · rw [if_pos hjk, if_pos hjk]
    · rw [if_neg hjk, if_neg hjk]
  rcases hfin with hfin | ⟨hfin, hin2, hdecl⟩
  · rw [if_neg (by rw [hfin]; decide)] at hlay
    have h6 := u_store hfc hkC hkind hlay hi (hty k hk) hn hfit
    refine W.putK C.1 C.2.1 (f := f) ⟨C.2.2.2.1, hts _ hlk, ⟨_, _, _, x_same hW hsm _ hi⟩, hst⟩ (by rw [q2]; exact h6) q1 q3 (by rw [hsl]; exact k2_hasslot (q4 k hk)) rfl rfl hdg fun H' e1 e2 e3 => ?_
    rw [hsl] at e1 ⊢
    exact fin H' e1 e2 e3
  · rw [if_pos hfin] at hlay
    have hcf : m.cls = cf := by
      obtain ⟨_, _, c', _, _, _, -, -, hf', -, -, -, hown2, -⟩ := Cond.laysFinal_spec hlay
      have e1 : c' = cf := by have := hi.symm.trans hf'; simp at this; exact this.1.symm
      rw [hdecl] at hown2
      rw [← e1]; exact Option.some.inj (C.2.2.2.1.symm.trans hown2)
    have h6 := u_fits hfc hkC hkind (Or.inr hlay) hi (hty k hk) hn hfit
    refine W.putFinK C.1 C.2.1 C.2.2.2.1 (hts _ hlk) (x_same hW hsm _ hi) hst hcf (C.2.2.2.2.2.1.trans hin2) (by rw [q2]; exact h6) q1 q3 (by rw [hsl]; exact k2_hasslot (q4 k hk)) rfl rfl hdg fun H' e1 e2 e3 => ?_
    rw [hsl] at e1 ⊢
    exact fin H' e1 e2 e3
end XMEM
section XMEM2
variable {F : x_F} {K : x_K} {pc pc' : Nat} {ls : List (Option Value)} {st : List Value} {S : x_S} {P : x_P} {I : x_I} {J : x_J} {n cs sl a : Nat}
theorem x_xI {I : x_I} {a k : Nat} {v : Int32} {xs : Nat → Int32} (h : I 0 = xs) (ha : 0 < a) : x_u2 I a k v 0 = xs := by rw [x_u2_nr _ _ _ (by omega)]; exact h
theorem v_gi {idx ci k : Nat} (hd : x_d F.1 3 pc (.getfield idx) pc') (hl : x_fl F.2.2.1.cls idx ci k) (ht : x_ft ci k = 0) (hs : S a = .inl ci) (kk : x_V F K pc' ls (.int (I a k) :: st) S P I J n cs sl) : x_V F K pc ls (.ref a :: st) S P I J n cs sl := by
  intro D b base L xs p l e s m args below meth c H locs Q lr C hH hS h0 hI hL hR
  obtain ⟨hd1, rfl⟩ := hd
  refine x_getf C hH h0 hl hs hd1 ?_
  rw [ht]
  exact kk D b base L xs p l e s m args below meth c H locs Q lr C hH hS h0 hI hL hR
theorem v_gl {idx ci k : Nat} (hd : x_d F.1 3 pc (.getfield idx) pc') (hl : x_fl F.2.2.1.cls idx ci k) (ht : x_ft ci k = 1) (hs : S a = .inl ci) (kk : x_V F K pc' ls (.long (J a k) :: st) S P I J n cs sl) : x_V F K pc ls (.ref a :: st) S P I J n cs sl := by
  intro D b base L xs p l e s m args below meth c H locs Q lr C hH hS h0 hI hL hR
  obtain ⟨hd1, rfl⟩ := hd
  refine x_getf C hH h0 hl hs hd1 ?_
  rw [ht]
  exact kk D b base L xs p l e s m args below meth c H locs Q lr C hH hS h0 hI hL hR
theorem v_gr {idx ci k r : Nat} (hd : x_d F.1 3 pc (.getfield idx) pc') (hl : x_fl F.2.2.1.cls idx ci k) (ht : x_ft ci k = 2) (hs : S a = .inl ci) (hr : P a k = some r) (kk : x_V F K pc' ls (.ref r :: st) S P I J n cs sl) : x_V F K pc ls (.ref a :: st) S P I J n cs sl := by
  intro D b base L xs p l e s m args below meth c H locs Q lr C hH hS h0 hI hL hR
  obtain ⟨hd1, rfl⟩ := hd
  refine x_getf C hH h0 hl hs hd1 ?_
  rw [ht]
  simp only [x_fv, hr]
  exact kk D b base L xs p l e s m args below meth c H locs Q lr C hH hS h0 hI hL hR
theorem v_gn {idx ci k : Nat} (hd : x_d F.1 3 pc (.getfield idx) pc') (hl : x_fl F.2.2.1.cls idx ci k) (ht : x_ft ci k = 2) (hs : S a = .inl ci) (hr : P a k = none) (kk : x_V F K pc' ls (.null :: st) S P I J n cs sl) : x_V F K pc ls (.ref a :: st) S P I J n cs sl := by
  intro D b base L xs p l e s m args below meth c H locs Q lr C hH hS h0 hI hL hR
  obtain ⟨hd1, rfl⟩ := hd
  refine x_getf C hH h0 hl hs hd1 ?_
  rw [ht]
  simp only [x_fv, hr]
  exact kk D b base L xs p l e s m args below meth c H locs Q lr C hH hS h0 hI hL hR
theorem v_pi {idx ci k : Nat} {x : Int32} (hd : x_d F.1 3 pc (.putfield idx) pc') (hl : x_pf F.2.2.1.cls F.2.2.1.name idx ci k) (ht : x_ft ci k = 0) (hs : S a = .inl ci) (hn : narrow (x_tys ci k) (.int x) = .int x) (hf : fits (x_tys ci k) (.int x) = true) (kk : x_V F K pc' ls st S P (x_u2 I a k x) J n cs sl) : x_V F K pc ls (.int x :: .ref a :: st) S P I J n cs sl := by
  intro D b base L xs p l e s m args below meth c H locs Q lr C hH hS h0 hI hL hR
  obtain ⟨hd1, rfl⟩ := hd
  obtain ⟨p0, -⟩ := hH.in h0 hs (by intro q; cases q) (by intro q; cases q)
  refine x_putf (v := .int x) (P' := P) (I' := x_u2 I a k x) (J' := J) C hH hS h0 hl hs hn hf (fun _ _ => rfl) (fun q hq => x_u2_nr _ _ _ hq) (fun _ _ => rfl) (fun j => ?_) hd1 (fun H1 locs1 hH1 hS1 => kk D b base L xs p l e s m args below meth c H1 locs1 Q lr C hH1 hS1 h0 (x_xI hI p0) hL hR)
  by_cases hj : j = k
  · subst hj; rw [ht, if_pos rfl]; simp only [x_fv, x_u2_s]
  · rw [if_neg hj]; unfold x_fv; simp only [x_u2_nk _ _ _ _ hj]
theorem v_pl {idx ci k : Nat} {x : Int64} (hd : x_d F.1 3 pc (.putfield idx) pc') (hl : x_pf F.2.2.1.cls F.2.2.1.name idx ci k) (ht : x_ft ci k = 1) (hs : S a = .inl ci) (hn : narrow (x_tys ci k) (.long x) = .long x) (hf : fits (x_tys ci k) (.long x) = true) (kk : x_V F K pc' ls st S P I (x_u2 J a k x) n cs sl) : x_V F K pc ls (.long x :: .ref a :: st) S P I J n cs sl := by
  intro D b base L xs p l e s m args below meth c H locs Q lr C hH hS h0 hI hL hR
  obtain ⟨hd1, rfl⟩ := hd
  refine x_putf (v := .long x) (P' := P) (I' := I) (J' := x_u2 J a k x) C hH hS h0 hl hs hn hf (fun _ _ => rfl) (fun _ _ => rfl) (fun q hq => x_u2_nr _ _ _ hq) (fun j => ?_) hd1 (fun H1 locs1 hH1 hS1 => kk D b base L xs p l e s m args below meth c H1 locs1 Q lr C hH1 hS1 h0 hI hL hR)
  by_cases hj : j = k
  · subst hj; rw [ht, if_pos rfl]; simp only [x_fv, x_u2_s]
  · rw [if_neg hj]; unfold x_fv; simp only [x_u2_nk _ _ _ _ hj]
theorem v_pr {idx ci k r : Nat} (hd : x_d F.1 3 pc (.putfield idx) pc') (hl : x_pf F.2.2.1.cls F.2.2.1.name idx ci k) (ht : x_ft ci k = 2) (hs : S a = .inl ci) (hn : ∀ z, narrow (x_tys ci k) (.ref z) = .ref z) (hf : ∀ z, fits (x_tys ci k) (.ref z) = true) (kk : x_V F K pc' ls st S (x_u2 P a k (some r)) I J n cs sl) : x_V F K pc ls (.ref r :: .ref a :: st) S P I J n cs sl := by
  intro D b base L xs p l e s m args below meth c H locs Q lr C hH hS h0 hI hL hR
  obtain ⟨hd1, rfl⟩ := hd
  refine x_putf (v := .ref r) (P' := x_u2 P a k (some r)) (I' := I) (J' := J) C hH hS h0 hl hs (hn _) (hf _) (fun q hq => x_u2_nr _ _ _ hq) (fun _ _ => rfl) (fun _ _ => rfl) (fun j => ?_) hd1 (fun H1 locs1 hH1 hS1 => kk D b base L xs p l e s m args below meth c H1 locs1 Q lr C hH1 hS1 h0 hI hL hR)
  by_cases hj : j = k
  · subst hj; rw [ht, if_pos rfl]; simp only [x_fv, x_u2_s]; rfl
  · rw [if_neg hj]; unfold x_fv; simp only [x_u2_nk _ _ _ _ hj]
theorem v_pn {idx ci k : Nat} (hd : x_d F.1 3 pc (.putfield idx) pc') (hl : x_pf F.2.2.1.cls F.2.2.1.name idx ci k) (ht : x_ft ci k = 2) (hs : S a = .inl ci) (hn : narrow (x_tys ci k) .null = .null) (hf : fits (x_tys ci k) .null = true) (kk : x_V F K pc' ls st S (x_u2 P a k none) I J n cs sl) : x_V F K pc ls (.null :: .ref a :: st) S P I J n cs sl := by
  intro D b base L xs p l e s m args below meth c H locs Q lr C hH hS h0 hI hL hR
  obtain ⟨hd1, rfl⟩ := hd
  refine x_putf (v := .null) (P' := x_u2 P a k none) (I' := I) (J' := J) C hH hS h0 hl hs hn hf (fun q hq => x_u2_nr _ _ _ hq) (fun _ _ => rfl) (fun _ _ => rfl) (fun j => ?_) hd1 (fun H1 locs1 hH1 hS1 => kk D b base L xs p l e s m args below meth c H1 locs1 Q lr C hH1 hS1 h0 hI hL hR)
  by_cases hj : j = k
  · subst hj; rw [ht, if_pos rfl]; simp only [x_fv, x_u2_s]; rfl
  · rw [if_neg hj]; unfold x_fv; simp only [x_u2_nk _ _ _ _ hj]
/-- a place of an array: j below N, both small -/
def x_in (j N : Nat) : Prop := j < N ∧ j < 2147483648
theorem x_in.not {i : Int32} {j N : Nat} (h : x_in j N) (hi : i = nI j) : ¬ (i < 0 ∨ N ≤ i.toNatClampNeg) := by
  subst hi
  intro q
  rcases q with q | q
  · exact nI_pos h.2 q
  · rw [nI_clamp h.2] at q; have := h.1; omega
theorem v_iald {i : Int32} {N : Nat} (j : Nat) (hd : x_d F.1 1 pc .iaload pc') (hi : i = nI j) (hs : S a = .inr (0, N)) (hj : x_in j N) {v : Int32} (hv : I a j = v) (kk : x_V F K pc' ls (.int v :: st) S P I J n cs sl) : x_V F K pc ls (.int i :: .ref a :: st) S P I J n cs sl := by
  intro D b base L xs p l e s m args below meth c H locs Q lr C hH hS h0 hI hL hR
  obtain ⟨hd1, rfl⟩ := hd
  obtain ⟨p0, p1⟩ := hH.in h0 hs (by intro q; cases q) (by intro q; cases q)
  have ha := hH.2.2 a p0 p1
  unfold x_at at ha
  rw [hs] at ha
  obtain ⟨cA, hA, -, hc⟩ := ha
  subst hv
  refine W.iald C.1 C.2.1 hc (hA N _) (fun q => by cases q) (by rw [arrV_size]; exact hj.not hi) (v := .int (I a j)) ?_ rfl rfl hd1 (kk D b base L xs p l e s m args below meth c H locs Q lr C hH hS h0 hI hL hR)
  rw [hi, nI_clamp hj.2]
  exact arrV_read _ _ hj.1
theorem v_zald {i : Int32} {N : Nat} (j : Nat) (hd : x_d F.1 1 pc .baload pc') (hi : i = nI j) (hs : S a = .inr (2, N)) (hj : x_in j N) {v : Int32} (hv : I a j = v) (kk : x_V F K pc' ls (.int v :: st) S P I J n cs sl) : x_V F K pc ls (.int i :: .ref a :: st) S P I J n cs sl := by
  intro D b base L xs p l e s m args below meth c H locs Q lr C hH hS h0 hI hL hR
  obtain ⟨hd1, rfl⟩ := hd
  obtain ⟨p0, p1⟩ := hH.in h0 hs (by intro q; cases q) (by intro q; cases q)
  have ha := hH.2.2 a p0 p1
  unfold x_at at ha
  rw [hs] at ha
  obtain ⟨cA, hA, -, hc⟩ := ha
  subst hv
  refine W.zald C.1 C.2.1 hc (hA N _) (fun q => by cases q) (by rw [arrV_size]; exact hj.not hi) (v := .int (I a j)) ?_ rfl rfl hd1 (kk D b base L xs p l e s m args below meth c H locs Q lr C hH hS h0 hI hL hR)
  rw [hi, nI_clamp hj.2]
  exact arrV_read _ _ hj.1
theorem v_lald {i : Int32} {N : Nat} (j : Nat) (hd : x_d F.1 1 pc .laload pc') (hi : i = nI j) (hs : S a = .inr (1, N)) (hj : x_in j N) {v : Int64} (hv : J a j = v) (kk : x_V F K pc' ls (.long v :: st) S P I J n cs sl) : x_V F K pc ls (.int i :: .ref a :: st) S P I J n cs sl := by
  intro D b base L xs p l e s m args below meth c H locs Q lr C hH hS h0 hI hL hR
  obtain ⟨hd1, rfl⟩ := hd
  obtain ⟨p0, p1⟩ := hH.in h0 hs (by intro q; cases q) (by intro q; cases q)
  have ha := hH.2.2 a p0 p1
  unfold x_at at ha
  rw [hs] at ha
  obtain ⟨cA, hA, -, hc⟩ := ha
  subst hv
  refine W.lald C.1 C.2.1 hc (hA N _) (fun q => by cases q) (by rw [arrV_size]; exact hj.not hi) (v := .long (J a j)) ?_ rfl rfl hd1 (kk D b base L xs p l e s m args below meth c H locs Q lr C hH hS h0 hI hL hR)
  rw [hi, nI_clamp hj.2]
  exact arrV_read _ _ hj.1
/-- kinds 3 (Wall[]) and 4 (int[][]) -/
theorem v_aald {i : Int32} {t N r : Nat} (j : Nat) (hd : x_d F.1 1 pc .aaload pc') (hi : i = nI j) (hs : S a = .inr (t, N)) (ht : t = 3 ∨ t = 4) (hj : x_in j N) (hr : P a j = some r) (kk : x_V F K pc' ls (.ref r :: st) S P I J n cs sl) : x_V F K pc ls (.int i :: .ref a :: st) S P I J n cs sl := by
  intro D b base L xs p l e s m args below meth c H locs Q lr C hH hS h0 hI hL hR
  obtain ⟨hd1, rfl⟩ := hd
  obtain ⟨p0, p1⟩ := hH.in h0 hs (by rcases ht with rfl | rfl <;> (intro q; cases q)) (by rcases ht with rfl | rfl <;> (intro q; cases q))
  have ha := hH.2.2 a p0 p1
  unfold x_at at ha
  rw [hs] at ha
  obtain ⟨cA, hA, -, hc⟩ := ha
  have hk : x_fv P I J (x_kc t) a j = .ref r := by rcases ht with rfl | rfl <;> simp only [x_kc, x_fv, hr] <;> rfl
  refine W.aald C.1 C.2.1 hc (hA N _) (by rcases ht with rfl | rfl <;> rfl) (fun q => by cases q) (by rw [arrV_size]; exact hj.not hi) (v := x_tr b base (.ref r)) ?_ rfl rfl hd1 (kk D b base L xs p l e s m args below meth c H locs Q lr C hH hS h0 hI hL hR)
  rw [hi, nI_clamp hj.2, ← hk]
  exact arrV_read _ _ hj.1
theorem v_aaldN {i : Int32} {N : Nat} (j : Nat) (hd : x_d F.1 1 pc .aaload pc') (hi : i = nI j) (hs : S a = .inr (3, N)) (hj : x_in j N) (hr : P a j = none) (kk : x_V F K pc' ls (.null :: st) S P I J n cs sl) : x_V F K pc ls (.int i :: .ref a :: st) S P I J n cs sl := by
  intro D b base L xs p l e s m args below meth c H locs Q lr C hH hS h0 hI hL hR
  obtain ⟨hd1, rfl⟩ := hd
  obtain ⟨p0, p1⟩ := hH.in h0 hs (by intro q; cases q) (by intro q; cases q)
  have ha := hH.2.2 a p0 p1
  unfold x_at at ha
  rw [hs] at ha
  obtain ⟨cA, hA, -, hc⟩ := ha
  have hk : x_fv P I J (x_kc 3) a j = .null := by simp only [x_kc, x_fv, hr]; rfl
  refine W.aald C.1 C.2.1 hc (hA N _) rfl (fun q => by cases q) (by rw [arrV_size]; exact hj.not hi) (v := x_tr b base .null) ?_ rfl rfl hd1 (kk D b base L xs p l e s m args below meth c H locs Q lr C hH hS h0 hI hL hR)
  rw [hi, nI_clamp hj.2, ← hk]
  exact arrV_read _ _ hj.1
theorem v_alen {N t : Nat} (hd : x_d F.1 1 pc .arraylength pc') (hs : S a = .inr (t, N)) (ht : t ≤ 4) (kk : x_V F K pc' ls (.int (nI N) :: st) S P I J n cs sl) : x_V F K pc ls (.ref a :: st) S P I J n cs sl := by
  intro D b base L xs p l e s m args below meth c H locs Q lr C hH hS h0 hI hL hR
  obtain ⟨hd1, rfl⟩ := hd
  obtain ⟨p0, p1⟩ := hH.in h0 hs (by intro q; cases q; omega) (by intro q; cases q; omega)
  have ha := hH.2.2 a p0 p1
  unfold x_at at ha
  rw [hs] at ha
  obtain ⟨cA, hA, -, hc⟩ := ha
  exact W.alen C.1 C.2.1 hc (hA N _) (by rw [arrV_size]; rfl) rfl rfl hd1 (kk D b base L xs p l e s m args below meth c H locs Q lr C hH hS h0 hI hL hR)
theorem v_sld {i : Int32} {N : Nat} (j : Nat) (hd : x_d F.1 1 pc .iaload pc') (hi : i = nI j) (hs : S 0 = .inr (9, N)) (hj : x_in j N) (kk : x_V F K pc' ls (.int (I 0 j) :: st) S P I J n cs sl) : x_V F K pc ls (.int i :: .ref 0 :: st) S P I J n cs sl := by
  intro D b base L xs p l e s m args below meth c H locs Q lr C hH hS h0 hI hL hR
  obtain ⟨hd1, rfl⟩ := hd
  have hLN : L = N := by have := h0.symm.trans hs; cases this; rfl
  subst hLN
  have hb := C.2.2.2.2.2.2.2.2.2.1
  have hX := C.2.2.2.2.2.2.2.2.1
  have hbs := C.2.2.2.2.2.2.2.2.2.2
  refine va_sld C.1 C.2.1 hX (Nat.lt_of_lt_of_le hb hbs) (show ¬ base ≤ b by omega) hS (hj.not hi) hd1 ?_
  rw [hi, nI_clamp hj.2, ← hI]
  exact kk D b base L xs p l e s m args below meth c H locs Q lr C hH hS h0 hI hL hR
theorem v_slen {N : Nat} (hd : x_d F.1 1 pc .arraylength pc') (hs : S 0 = .inr (9, N)) (kk : x_V F K pc' ls (.int (nI N) :: st) S P I J n cs sl) : x_V F K pc ls (.ref 0 :: st) S P I J n cs sl := by
  intro D b base L xs p l e s m args below meth c H locs Q lr C hH hS h0 hI hL hR
  obtain ⟨hd1, rfl⟩ := hd
  have hLN : L = N := by have := h0.symm.trans hs; cases this; rfl
  subst hLN
  have hb := C.2.2.2.2.2.2.2.2.2.1
  exact va_slen C.1 C.2.1 C.2.2.2.2.2.2.2.2.1 (Nat.lt_of_lt_of_le hb C.2.2.2.2.2.2.2.2.2.2) (show ¬ base ≤ b by omega) hS hd1 (kk D b base L xs p l e s m args below meth c H locs Q lr C hH hS h0 hI hL hR)
theorem v_iast {i x : Int32} {N : Nat} (j : Nat) (hd : x_d F.1 1 pc .iastore pc') (hi : i = nI j) (hs : S a = .inr (0, N)) (hj : x_in j N) (kk : x_V F K pc' ls st S P (x_u2 I a j x) J n cs sl) : x_V F K pc ls (.int x :: .int i :: .ref a :: st) S P I J n cs sl := by
  intro D b base L xs p l e s m args below meth c H locs Q lr C hH hS h0 hI hL hR
  obtain ⟨hd1, rfl⟩ := hd
  obtain ⟨p0, p1⟩ := hH.in h0 hs (by intro q; cases q) (by intro q; cases q)
  have ha := hH.2.2 a p0 p1
  unfold x_at at ha
  rw [hs] at ha
  obtain ⟨cA, hA, -, hc⟩ := ha
  refine W.iast C.1 C.2.1 hc (hA N _) (fun q => by cases q) (by rw [arrV_size]; exact hj.not hi) rfl rfl hd1 (fun H1 e1 e2 e3 => ?_)
  refine kk D b base L xs p l e s m args below meth c H1 _ Q lr C (hH.put C.2.2.2.2.2.2.2.2.2.1 e2 e3 (fun _ _ => rfl) (fun q hq => x_u2_nr _ _ _ hq) (fun _ _ => rfl) ?_) (hS.put e2 e3 (x_ad_A p0)) h0 (x_xI hI p0) hL hR
  unfold x_at
  rw [hs]
  refine ⟨cA, hA, (fun q => by cases q), ?_⟩
  rw [e1, arrV_store, hi, nI_clamp hj.2]
  congr 2
  funext q
  unfold updV
  by_cases hq : q = j
  · subst hq; simp [x_kc, x_fv, x_tr, x_u2_s]
  · simp [x_kc, x_fv, x_tr, hq, x_u2_nk _ _ _ _ hq]
theorem v_zast {i x : Int32} {N : Nat} (j : Nat) (hd : x_d F.1 1 pc .bastore pc') (hi : i = nI j) (hs : S a = .inr (2, N)) (hj : x_in j N) (hx : narrow .boolean (.int x) = .int x) (kk : x_V F K pc' ls st S P (x_u2 I a j x) J n cs sl) : x_V F K pc ls (.int x :: .int i :: .ref a :: st) S P I J n cs sl := by
  intro D b base L xs p l e s m args below meth c H locs Q lr C hH hS h0 hI hL hR
  obtain ⟨hd1, rfl⟩ := hd
  obtain ⟨p0, p1⟩ := hH.in h0 hs (by intro q; cases q) (by intro q; cases q)
  have ha := hH.2.2 a p0 p1
  unfold x_at at ha
  rw [hs] at ha
  obtain ⟨cA, hA, -, hc⟩ := ha
  refine W.zast C.1 C.2.1 hc (hA N _) (fun q => by cases q) (by rw [arrV_size]; exact hj.not hi) rfl rfl hd1 (fun H1 e1 e2 e3 => ?_)
  refine kk D b base L xs p l e s m args below meth c H1 _ Q lr C (hH.put C.2.2.2.2.2.2.2.2.2.1 e2 e3 (fun _ _ => rfl) (fun q hq => x_u2_nr _ _ _ hq) (fun _ _ => rfl) ?_) (hS.put e2 e3 (x_ad_A p0)) h0 (x_xI hI p0) hL hR
  unfold x_at
  rw [hs]
  refine ⟨cA, hA, (fun q => by cases q), ?_⟩
  rw [e1, hx, arrV_store, hi, nI_clamp hj.2]
  congr 2
  funext q
  unfold updV
  by_cases hq : q = j
  · subst hq; simp [x_kc, x_fv, x_tr, x_u2_s]
  · simp [x_kc, x_fv, x_tr, hq, x_u2_nk _ _ _ _ hq]
theorem v_last {i : Int32} {x : Int64} {N : Nat} (j : Nat) (hd : x_d F.1 1 pc .lastore pc') (hi : i = nI j) (hs : S a = .inr (1, N)) (hj : x_in j N) (kk : x_V F K pc' ls st S P I (x_u2 J a j x) n cs sl) : x_V F K pc ls (.long x :: .int i :: .ref a :: st) S P I J n cs sl := by
  intro D b base L xs p l e s m args below meth c H locs Q lr C hH hS h0 hI hL hR
  obtain ⟨hd1, rfl⟩ := hd
  obtain ⟨p0, p1⟩ := hH.in h0 hs (by intro q; cases q) (by intro q; cases q)
  have ha := hH.2.2 a p0 p1
  unfold x_at at ha
  rw [hs] at ha
  obtain ⟨cA, hA, -, hc⟩ := ha
  refine W.last C.1 C.2.1 hc (hA N _) (fun q => by cases q) (by rw [arrV_size]; exact hj.not hi) rfl rfl hd1 (fun H1 e1 e2 e3 => ?_)
  refine kk D b base L xs p l e s m args below meth c H1 _ Q lr C (hH.put C.2.2.2.2.2.2.2.2.2.1 e2 e3 (fun _ _ => rfl) (fun _ _ => rfl) (fun q hq => x_u2_nr _ _ _ hq) ?_) (hS.put e2 e3 (x_ad_A p0)) h0 hI hL hR
  unfold x_at
  rw [hs]
  refine ⟨cA, hA, (fun q => by cases q), ?_⟩
  rw [e1, arrV_store, hi, nI_clamp hj.2]
  congr 2
  funext q
  unfold updV
  by_cases hq : q = j
  · subst hq; simp [x_kc, x_fv, x_tr, x_u2_s]
  · simp [x_kc, x_fv, x_tr, hq, x_u2_nk _ _ _ _ hq]
/-- a Wall, a Mirror or a Faint into the Wall[] -/
theorem v_aast {i : Int32} {N r cj : Nat} {q : vw_C} (j : Nat) (hd : x_d F.1 1 pc .aastore pc') (hi : i = nI j) (hs : S a = .inr (3, N)) (hj : x_in j N) (hr : S r = .inl cj) (hq : vwCl[cj]? = some q) (hca : q.1 = RX10 ∨ Cond.castable q.1 RX10 ∈ lw_tbl) (kk : x_V F K pc' ls st S (x_u2 P a j (some r)) I J n cs sl) : x_V F K pc ls (.ref r :: .int i :: .ref a :: st) S P I J n cs sl := by
  intro D b base L xs p l e s m args below meth c H locs Q lr C hH hS h0 hI hL hR
  obtain ⟨hd1, rfl⟩ := hd
  obtain ⟨p0, p1⟩ := hH.in h0 hs (by intro q; cases q) (by intro q; cases q)
  obtain ⟨r0, r1⟩ := hH.in h0 hr (by intro q; cases q) (by intro q; cases q)
  have ha := hH.2.2 a p0 p1
  unfold x_at at ha
  rw [hs] at ha
  obtain ⟨cA, hA, hRA, hc⟩ := ha
  have hra := hH.2.2 r r0 r1
  unfold x_at at hra
  rw [hr] at hra
  obtain ⟨q', hq', cellV, g1, g2, g3, -⟩ := hra
  have hW := C.2.2.2.2.2.2.2.1
  obtain ⟨kA, comp, k1, k2, k3, -⟩ := hRA rfl
  have hcw := (hW.2.1 10 _ (show vwCl[10]? = some (RX10, TX10, 3) from rfl)).2
  have hcv := (hW.2.1 cj q hq).2
  have hcomp : comp = D.1 10 := Option.some.inj (k3.symm.trans hcw.1)
  subst hcomp
  obtain ⟨kC, hkC, -⟩ := hcw.2
  obtain ⟨kV, hkV, -⟩ := hcv.2
  have hass : s.vm.assignable (D.1 cj) (D.1 10) = true := by
    rcases hca with e | hca
    · have e2 : D.1 cj = D.1 10 := Option.some.inj (hcv.1.symm.trans (by rw [e]; exact hcw.1))
      rw [e2]
      exact va_assign hcw
    · obtain ⟨c1, c2, w1, w2, w3⟩ := Cond.castable_spec (hW.1 _ hca #[])
      rw [Option.some.inj (w1.symm.trans hcv.1), Option.some.inj (w2.symm.trans hcw.1)] at w3
      exact w3
  refine W.aast C.1 C.2.1 hc (fun q h => by cases h) (fun h => by cases h) k1 k2 rfl hkC ⟨fun z => hj.not hi (Or.inl z), by rw [arrV_size, hi, nI_clamp hj.2]; exact hj.1⟩ g1 (fun q h => by rw [g3] at h; cases h) (by rw [g2]; exact hkV) (by rw [g2]; exact hass) rfl rfl hd1 (fun H1 e1 e2 e3 => ?_)
  refine kk D b base L xs p l e s m args below meth c H1 _ Q lr C (hH.put C.2.2.2.2.2.2.2.2.2.1 e2 e3 (fun q hq => x_u2_nr _ _ _ hq) (fun _ _ => rfl) (fun _ _ => rfl) ?_) (hS.put e2 e3 (x_ad_A p0)) h0 hI hL hR
  unfold x_at
  rw [hs]
  refine ⟨cA, hA, hRA, ?_⟩
  rw [e1, arrV_store, hi, nI_clamp hj.2]
  congr 2
  funext q
  unfold updV
  by_cases hq : q = j
  · subst hq; simp [x_kc, x_fv, x_tr, x_u2_s, va_rf]
  · simp [x_kc, x_fv, x_tr, hq, x_u2_nk _ _ _ _ hq]
end XMEM2
