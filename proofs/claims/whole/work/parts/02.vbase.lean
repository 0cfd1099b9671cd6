/-! The abstract memory: shapes S (a class, or an array's kind and length), references P, ints I, longs J, by address and place.
Address 0 is the script; address a + 1 is the real cell base + a. -/
abbrev x_Sh : Type := Nat ⊕ (Nat × Nat)
abbrev x_S : Type := Nat → x_Sh
abbrev x_P : Type := Nat → Nat → Option Nat
abbrev x_I : Type := Nat → Nat → Int32
abbrev x_J : Type := Nat → Nat → Int64
abbrev x_K : Type := Option Value → x_S → x_P → x_I → x_J → Nat → Prop
/-- a method: its code, its locals, its name, its answer's type, its room -/
abbrev x_F : Type := ByteArray × Nat × MethodName × Option FieldType × Room
def x_u1 {α : Type} (f : Nat → α) (a : Nat) (v : α) : Nat → α := fun b => bif Nat.beq b a then v else f b
def x_u2 {α : Type} (f : Nat → Nat → α) (a k : Nat) (v : α) : Nat → Nat → α := fun b j => bif (Nat.beq b a && Nat.beq j k) then v else f b j
theorem x_bq (b a : Nat) : Nat.beq b a = decide (b = a) := by
  by_cases h : b = a
  · subst h; rw [decide_eq_true rfl]; exact Nat.beq_refl b
  · rw [decide_eq_false h]
    cases hc : Nat.beq b a with
    | true => exact absurd (Nat.eq_of_beq_eq_true hc) h
    | false => rfl
theorem x_u1_at {α : Type} (f : Nat → α) (a : Nat) (v : α) (b : Nat) : x_u1 f a v b = if b = a then v else f b := by
  unfold x_u1
  rw [x_bq]
  by_cases h : b = a <;> simp [h]
theorem x_u2_at {α : Type} (f : Nat → Nat → α) (a k : Nat) (v : α) (b j : Nat) : x_u2 f a k v b j = if b = a ∧ j = k then v else f b j := by
  unfold x_u2
  rw [x_bq, x_bq]
  by_cases h : b = a <;> by_cases h2 : j = k <;> simp [h, h2]
theorem x_u1_s {α : Type} (f : Nat → α) (a : Nat) (v : α) : x_u1 f a v a = v := by simp [x_u1_at]
theorem x_u1_n {α : Type} (f : Nat → α) {a : Nat} (v : α) {b : Nat} (h : b ≠ a) : x_u1 f a v b = f b := by simp [x_u1_at, h]
theorem x_u2_s {α : Type} (f : Nat → Nat → α) (a k : Nat) (v : α) : x_u2 f a k v a k = v := by simp [x_u2_at]
theorem x_u2_na {α : Type} (f : Nat → Nat → α) {a : Nat} (k : Nat) (v : α) {b : Nat} (j : Nat) (h : b ≠ a) : x_u2 f a k v b j = f b j := by simp [x_u2_at, h]
theorem x_u2_nr {α : Type} (f : Nat → Nat → α) {a : Nat} (k : Nat) (v : α) {b : Nat} (h : b ≠ a) : x_u2 f a k v b = f b := by funext j; simp [x_u2_at, h]
theorem x_u2_nk {α : Type} (f : Nat → Nat → α) (a : Nat) {k : Nat} (v : α) (b : Nat) {j : Nat} (h : j ≠ k) : x_u2 f a k v b j = f b j := by simp [x_u2_at, h]
/-- what a field or a place holds, by its code: 0 an int, 1 a long, 2 a reference -/
def x_fv (P : x_P) (I : x_I) (J : x_J) (t a k : Nat) : Value := match t with
  | 0 => .int (I a k)
  | 1 => .long (J a k)
  | _ => va_rf (P a k)
def x_kt (t : Nat) : FieldType := match t with
  | 0 => .int
  | 1 => .long
  | 2 => .boolean
  | 3 => .object "BentPictures$Wall"
  | _ => .array .int
def x_kc (t : Nat) : Nat := match t with
  | 0 => 0
  | 1 => 1
  | 2 => 0
  | _ => 2
def x_ad (b base a : Nat) : Nat := match a with
  | 0 => b
  | n + 1 => base + n
def x_tr (b base : Nat) (v : Value) : Value := match v with
  | .ref a => .ref (x_ad b base a)
  | w => w
theorem x_tr_cat (b base : Nat) (v : Value) : (x_tr b base v).category = v.category := by cases v <;> rfl
theorem x_ad_inj {b base a c : Nat} (hb : b < base) (h : x_ad b base a = x_ad b base c) : a = c := by
  cases a <;> cases c <;> simp [x_ad] at h <;> omega
/-- types of fields by class and place -/
def x_tc (ty : FieldType) : Nat := match ty with
  | .long => 1
  | .object _ => 2
  | .array _ => 2
  | _ => 0
def x_tys (ci : Nat) : Nat → FieldType := match ci with
  | 0 => tyX0 | 1 => tyX1 | 2 => tyX2 | 3 => tyX3 | 4 => tyX4 | 5 => tyX5 | 6 => tyX6 | 7 => tyX7 | 8 => tyX8 | 9 => tyX9 | 10 => tyX10 | 11 => tyX11 | _ => tyX12
def x_ft (ci k : Nat) : Nat := x_tc (x_tys ci k)
/-- one cell -/
def x_at (D : va_G) (U : State) (b base : Nat) (S : x_S) (P : x_P) (I : x_I) (J : x_J) (a : Nat) (H : Heap) : Prop := match S a with
  | .inl ci => ∃ r : vw_C, vwCl[ci]? = some r ∧ t_OB (x_ad b base a) (D.1 ci) r.2.2 (D.2 ci) H (fun k => x_tr b base (x_fv P I J (x_ft ci k) a k))
  | .inr (t, n) => ∃ cA : ClassId, ArrOfT U cA (x_kt t) ∧ (t = 3 → va_RA U cA (x_kt t)) ∧ H[x_ad b base a]? = some (arrV cA n (fun j => x_tr b base (x_fv P I J (x_kc t) a j)))
def x_H (D : va_G) (U : State) (b base : Nat) (S : x_S) (P : x_P) (I : x_I) (J : x_J) (n : Nat) (H : Heap) : Prop :=
  H.size = base + n ∧ (∀ a, n < a → S a = .inr (8, 0)) ∧ ∀ a, 0 < a → a ≤ n → x_at D U b base S P I J a H
/-- the locals -/
def x_L (b base : Nat) (lr : Array Slot) (nL : Nat) (ls : List (Option Value)) : Prop := lr.size = nL ∧ lv_wf lr ∧ ∀ (i : Nat) (v : Value), ls[i]? = some (some v) → lr[i]? = some (.val (x_tr b base v))
def x_c2 (v : Option Value) : Bool := match v with
  | some (.long _) => true
  | some (.double _) => true
  | _ => false
def x_kl (ls : List (Option Value)) (i : Nat) : List (Option Value) := match i with
  | 0 => ls
  | j + 1 => bif x_c2 (ls.getD j none) then ls.set j none else ls
def x_s1 (ls : List (Option Value)) (i : Nat) (v : Value) : List (Option Value) := (x_kl ls i).set i (some v)
def x_s2 (ls : List (Option Value)) (i : Nat) (v : Value) : List (Option Value) := ((x_kl ls i).set i (some v)).set (i + 1) none
def x_al (b base : Nat) (ls : List (Option Value)) : List (Nat × Value) := (List.range ls.length).filterMap (fun i => match ls[i]? with
  | some (some v) => some (i, x_tr b base v)
  | _ => none)
theorem x_al_mem {b base : Nat} {ls : List (Option Value)} {i : Nat} {v : Value} (h : ls[i]? = some (some v)) : (i, x_tr b base v) ∈ x_al b base ls := by
  refine List.mem_filterMap.mpr ⟨i, List.mem_range.mpr (List.getElem?_eq_some_iff.mp h).1, ?_⟩
  rw [h]
theorem x_al_of {b base : Nat} {ls : List (Option Value)} {q : Nat × Value} (h : q ∈ x_al b base ls) : ∃ v, ls[q.1]? = some (some v) ∧ q.2 = x_tr b base v := by
  obtain ⟨i, -, hi⟩ := List.mem_filterMap.mp h
  split at hi
  · rename_i v hv
    cases hi
    exact ⟨v, hv, rfl⟩
  · cases hi
theorem x_L.has {b base : Nat} {lr : Array Slot} {nL : Nat} {ls : List (Option Value)} (h : x_L b base lr nL ls) : lv_has lr nL (x_al b base ls) := by
  refine ⟨h.1, h.2.1, fun q hq => ?_⟩
  obtain ⟨v, h1, h2⟩ := x_al_of hq
  rw [h2]
  exact h.2.2 _ _ h1
theorem x_kl_of {ls : List (Option Value)} {i j : Nat} {w : Value} (h : (x_kl ls i)[j]? = some (some w)) : ls[j]? = some (some w) ∧ ¬ (j + 1 = i ∧ w.category = 2) := by
  cases i with
  | zero => exact ⟨h, by omega⟩
  | succ k =>
    replace h : (bif x_c2 (ls.getD k none) then ls.set k none else ls)[j]? = some (some w) := h
    cases hc : x_c2 (ls.getD k none) with
    | true =>
      rw [hc] at h
      simp only [cond_true] at h
      by_cases e : k = j
      · subst e
        rw [List.getElem?_set_self'] at h
        cases hl : ls[k]? with
        | none => rw [hl] at h; cases h
        | some z => rw [hl] at h; cases h
      · rw [List.getElem?_set_ne e] at h
        exact ⟨h, by omega⟩
    | false =>
      rw [hc] at h
      simp only [cond_false] at h
      refine ⟨h, fun ⟨e, hw⟩ => ?_⟩
      have e2 : j = k := by omega
      subst e2
      rw [List.getD_eq_getElem?_getD, h] at hc
      cases w <;> simp [Value.category, x_c2] at hw hc
theorem x_L.s1 {b base : Nat} {lr' : Array Slot} {nL : Nat} {ls : List (Option Value)} {i : Nat} {v : Value} (h : lv_has lr' nL ((i, x_tr b base v) :: (x_al b base ls).filter (fun q => !(q.1 == i) && !(q.1 + 1 == i && q.2.category == 2)))) : x_L b base lr' nL (x_s1 ls i v) := by
  refine ⟨h.1, h.2.1, fun j w hj => ?_⟩
  unfold x_s1 at hj
  by_cases e : i = j
  · subst e
    rw [List.getElem?_set_self'] at hj
    have hw : w = v := by
      cases hl : (x_kl ls i)[i]? with
      | none => rw [hl] at hj; cases hj
      | some z => rw [hl] at hj; cases hj; rfl
    subst hw
    exact h.2.2 (i, x_tr b base w) List.mem_cons_self
  · rw [List.getElem?_set_ne e] at hj
    obtain ⟨h1, h2⟩ := x_kl_of hj
    refine h.2.2 (j, x_tr b base w) (List.mem_cons_of_mem _ (List.mem_filter.mpr ⟨x_al_mem h1, ?_⟩))
    have e3 : ¬ j = i := fun q => e q.symm
    simp only [x_tr_cat, Bool.and_eq_true, Bool.not_eq_true', beq_eq_false_iff_ne, ne_eq, e3, not_false_eq_true, true_and, Bool.and_eq_false_iff]
    by_cases e4 : j + 1 = i
    · exact Or.inr (fun q => h2 ⟨e4, q⟩)
    · exact Or.inl e4
theorem x_L.s2 {b base : Nat} {lr' : Array Slot} {nL : Nat} {ls : List (Option Value)} {i : Nat} {v : Value} (h : lv_has lr' nL ((i, x_tr b base v) :: (x_al b base ls).filter (fun q => !(q.1 == i) && (!(q.1 == i + 1) && !(q.1 + 1 == i && q.2.category == 2))))) : x_L b base lr' nL (x_s2 ls i v) := by
  refine ⟨h.1, h.2.1, fun j w hj => ?_⟩
  unfold x_s2 at hj
  by_cases e5 : i + 1 = j
  · subst e5
    rw [List.getElem?_set_self'] at hj
    cases hl : ((x_kl ls i).set i (some v))[i + 1]? with
    | none => rw [hl] at hj; cases hj
    | some z => rw [hl] at hj; cases hj
  · rw [List.getElem?_set_ne e5] at hj
    by_cases e : i = j
    · subst e
      rw [List.getElem?_set_self'] at hj
      have hw : w = v := by
        cases hl : (x_kl ls i)[i]? with
        | none => rw [hl] at hj; cases hj
        | some z => rw [hl] at hj; cases hj; rfl
      subst hw
      exact h.2.2 (i, x_tr b base w) List.mem_cons_self
    · rw [List.getElem?_set_ne e] at hj
      obtain ⟨h1, h2⟩ := x_kl_of hj
      refine h.2.2 (j, x_tr b base w) (List.mem_cons_of_mem _ (List.mem_filter.mpr ⟨x_al_mem h1, ?_⟩))
      have e3 : ¬ j = i := fun q => e q.symm
      have e6 : ¬ j = i + 1 := fun q => e5 q.symm
      simp only [x_tr_cat, Bool.and_eq_true, Bool.not_eq_true', beq_eq_false_iff_ne, ne_eq, e3, e6, not_false_eq_true, true_and, Bool.and_eq_false_iff]
      by_cases e4 : j + 1 = i
      · exact Or.inr (fun q => h2 ⟨e4, q⟩)
      · exact Or.inl e4
/-- the locals at a method's entry -/
def x_en : List Value → List (Option Value)
  | [] => []
  | .long x :: vs => some (.long x) :: none :: x_en vs
  | .double x :: vs => some (.double x) :: none :: x_en vs
  | v :: vs => some v :: x_en vs

theorem x_en_cons (v : Value) (vs : List Value) : x_en (v :: vs) = if v.category = 2 then some v :: none :: x_en vs else some v :: x_en vs := by
  cases v <;> simp [x_en, Value.category]
theorem x_en_args {b base : Nat} : ∀ (vs : List Value) (i0 j : Nat) (v : Value), (x_en vs)[j]? = some (some v) → (i0 + j, x_tr b base v) ∈ lv_args i0 (vs.map (x_tr b base))
  | [], i0, j, v, h => by simp [x_en] at h
  | u :: vs, i0, j, v, h => by
    rw [x_en_cons] at h
    rw [List.map_cons]
    unfold lv_args
    rw [x_tr_cat]
    by_cases hc : u.category = 2
    · rw [if_pos hc] at h ⊢
      match j, h with
      | 0, h => cases h; exact List.mem_cons_self
      | 1, h => cases h
      | k + 2, h =>
        have := x_en_args (b := b) (base := base) vs (i0 + 2) k v h
        rw [show i0 + (k + 2) = i0 + 2 + k by omega]
        exact List.mem_cons_of_mem _ this
    · rw [if_neg hc] at h ⊢
      match j, h with
      | 0, h => cases h; exact List.mem_cons_self
      | k + 1, h =>
        have := x_en_args (b := b) (base := base) vs (i0 + 1) k v h
        rw [show i0 + (k + 1) = i0 + 1 + k by omega]
        exact List.mem_cons_of_mem _ this
theorem x_sl_len (b base : Nat) : ∀ vs : List Value, (lg_sl (vs.map (x_tr b base))).length = (x_en vs).length
  | [] => rfl
  | u :: vs => by
    have ih := x_sl_len b base vs
    unfold lg_sl at ih ⊢
    rw [List.map_cons, List.flatMap_cons, x_en_cons, x_tr_cat, List.length_append, ih]
    by_cases hc : u.category = 2
    · rw [if_pos hc, if_pos hc]; simp; omega
    · rw [if_neg hc, if_neg hc]; simp; omega
theorem x_L.entry {b base n : Nat} (vs : List Value) (k : Nat) (h : (x_en vs).length ≤ n) : x_L b base ((lg_sl (vs.map (x_tr b base)) ++ List.replicate (n - (lg_sl (vs.map (x_tr b base))).length) Slot.unset).toArray) n (x_en vs ++ List.replicate k none) := by
  have h1 := lv_entry (vs.map (x_tr b base)) (n := n) (by rw [x_sl_len]; exact h)
  refine ⟨h1.1, h1.2.1, fun i v hi => ?_⟩
  by_cases hl : i < (x_en vs).length
  · rw [List.getElem?_append_left hl] at hi
    have := x_en_args (b := b) (base := base) vs 0 i v hi
    rw [Nat.zero_add] at this
    exact h1.2.2 _ this
  · rw [List.getElem?_append_right (by omega)] at hi
    have := List.mem_of_getElem? hi
    have := (List.mem_replicate.mp this).2
    cases this
