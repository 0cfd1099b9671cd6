theorem if_out {c : Prop} {f g Z : x_I} {b j : Nat} (hf : f b j = Z b j) (hg : g b j = Z b j) : x_if c f g b j = Z b j := by
  by_cases h : c
  · rw [x_if_t h]; exact hf
  · rw [x_if_f h]; exact hg
theorem u2_out {f Z : x_I} {a k b j : Nat} {v : Int32} (h : b ≠ a) (hf : f b j = Z b j) : x_u2 f a k v b j = Z b j := by rw [x_u2_na _ _ _ _ h]; exact hf
theorem fi_out {f Z : x_I} {a k l b j : Nat} {v : Int32} (h : b ≠ a) (hf : f b j = Z b j) : x_fi f a k l v b j = Z b j := by rw [x_fi_na _ _ _ _ _ h]; exact hf
theorem fg_out {f Z : x_I} {a k l b j : Nat} {v : Nat → Int32} (h : b ≠ a) (hf : f b j = Z b j) : x_fg f a k l v b j = Z b j := by
  unfold x_fg
  rw [if_neg (fun w => h w.1)]; exact hf
theorem lay_out {f Z : x_I} {s b j : Nat} {a c u v w h : Int32} (hb : b ≠ 41) (hf : f b j = Z b j) : m_lay f s a c u v w h b j = Z b j := by rw [lay_na hb]; exact hf
theorem nb_out {f Z : x_I} {b j : Nat} (h : b ≠ 41) (h2 : b ≠ 39) (hf : f b j = Z b j) : m_nb f b j = Z b j := by rw [m_nb_at f h (fun w => h2 w.1)]; exact hf
theorem wr_out {f Z : x_I} {t s i N b j : Nat} (h : b ≠ 54) (hf : f b j = Z b j) : z_wr f t s i N b j = Z b j := by rw [z_wr_na f t s i h j N]; exact hf
theorem pr_rg {b : Nat} (h : (Nat.ble 39 b && Nat.ble b 62) = false) : b < 39 ∨ 62 < b := by
  by_cases q : 39 ≤ b ∧ b ≤ 62
  · rw [Nat.ble_eq_true_of_le q.1, Nat.ble_eq_true_of_le q.2] at h; cases h
  · omega

theorem z_pic1_out (Z : x_I) (e s l m : Nat) (b0 j0 : Nat) (hb : (Nat.ble 39 b0 && Nat.ble b0 62) = false) : z_pic1 Z e s l m b0 j0 = Z b0 j0 := by
  have hr := pr_rg hb
  unfold z_pic1
  repeat' (first | exact rfl | refine if_out ?_ ?_ | refine u2_out (by omega) ?_ | refine fi_out (by omega) ?_ | refine fg_out (by omega) ?_ | refine lay_out (by omega) ?_ | refine nb_out (by omega) (by omega) ?_ | refine wr_out (by omega) ?_)
theorem z_pic2_out (Z : x_I) (e s l i : Int32) (b0 j0 : Nat) (hb : (Nat.ble 39 b0 && Nat.ble b0 62) = false) : z_pic2 Z e s l i b0 j0 = Z b0 j0 := by
  have hr := pr_rg hb
  unfold z_pic2 z_pic1
  repeat' (first | exact rfl | refine if_out ?_ ?_ | refine u2_out (by omega) ?_ | refine fi_out (by omega) ?_ | refine fg_out (by omega) ?_ | refine lay_out (by omega) ?_ | refine nb_out (by omega) (by omega) ?_ | refine wr_out (by omega) ?_)
theorem z_wan1_out (Z : x_I) (t s l m : Nat) (b0 j0 : Nat) (hb : (Nat.ble 39 b0 && Nat.ble b0 62) = false) : z_wan1 Z t s l m b0 j0 = Z b0 j0 := by
  have hr := pr_rg hb
  unfold z_wan1
  repeat' (first | exact rfl | refine if_out ?_ ?_ | refine u2_out (by omega) ?_ | refine fi_out (by omega) ?_ | refine fg_out (by omega) ?_ | refine lay_out (by omega) ?_ | refine nb_out (by omega) (by omega) ?_ | refine wr_out (by omega) ?_)
theorem z_surface_out (Z : x_I) (kd a c u v w h : Int32) (b0 j0 : Nat) (hb : (Nat.ble 39 b0 && Nat.ble b0 62) = false) : z_surface Z kd a c u v w h b0 j0 = Z b0 j0 := by
  have hr := pr_rg hb
  unfold z_surface
  repeat' (first | exact rfl | refine if_out ?_ ?_ | refine u2_out (by omega) ?_ | refine fi_out (by omega) ?_ | refine fg_out (by omega) ?_ | refine lay_out (by omega) ?_ | refine nb_out (by omega) (by omega) ?_ | refine wr_out (by omega) ?_)
theorem z_board_out (Z : x_I) (a c u v w h : Int32) (b0 j0 : Nat) (hb : (Nat.ble 39 b0 && Nat.ble b0 62) = false) : z_board Z a c u v w h b0 j0 = Z b0 j0 := by
  have hr := pr_rg hb
  unfold z_board
  repeat' (first | exact rfl | refine if_out ?_ ?_ | refine u2_out (by omega) ?_ | refine fi_out (by omega) ?_ | refine fg_out (by omega) ?_ | refine lay_out (by omega) ?_ | refine nb_out (by omega) (by omega) ?_ | refine wr_out (by omega) ?_)
theorem z_eye_out (Z : x_I) (e x y z : Int32) (b0 j0 : Nat) (hb : (Nat.ble 39 b0 && Nat.ble b0 62) = false) : z_eye Z e x y z b0 j0 = Z b0 j0 := by
  have hr := pr_rg hb
  unfold z_eye
  repeat' (first | exact rfl | refine if_out ?_ ?_ | refine u2_out (by omega) ?_ | refine fi_out (by omega) ?_ | refine fg_out (by omega) ?_ | refine lay_out (by omega) ?_ | refine nb_out (by omega) (by omega) ?_ | refine wr_out (by omega) ?_)
theorem z_wish_out (Z : x_I) (e : Int32) (b0 j0 : Nat) (hb : (Nat.ble 39 b0 && Nat.ble b0 62) = false) : z_wish Z e b0 j0 = Z b0 j0 := by
  have hr := pr_rg hb
  unfold z_wish
  repeat' (first | exact rfl | refine if_out ?_ ?_ | refine u2_out (by omega) ?_ | refine fi_out (by omega) ?_ | refine fg_out (by omega) ?_ | refine lay_out (by omega) ?_ | refine nb_out (by omega) (by omega) ?_ | refine wr_out (by omega) ?_)
theorem z_picture_out (Z : x_I) (e s l i : Int32) (b0 j0 : Nat) (hb : (Nat.ble 39 b0 && Nat.ble b0 62) = false) : z_picture Z e s l i b0 j0 = Z b0 j0 := by
  have hr := pr_rg hb
  unfold z_picture z_pic2 z_pic1
  repeat' (first | exact rfl | refine if_out ?_ ?_ | refine u2_out (by omega) ?_ | refine fi_out (by omega) ?_ | refine fg_out (by omega) ?_ | refine lay_out (by omega) ?_ | refine nb_out (by omega) (by omega) ?_ | refine wr_out (by omega) ?_)
theorem z_paint_out (Z : x_I) (s c v : Int32) (b0 j0 : Nat) (hb : (Nat.ble 39 b0 && Nat.ble b0 62) = false) : z_paint Z s c v b0 j0 = Z b0 j0 := by
  have hr := pr_rg hb
  unfold z_paint
  repeat' (first | exact rfl | refine if_out ?_ ?_ | refine u2_out (by omega) ?_ | refine fi_out (by omega) ?_ | refine fg_out (by omega) ?_ | refine lay_out (by omega) ?_ | refine nb_out (by omega) (by omega) ?_ | refine wr_out (by omega) ?_)
theorem z_sheet_out (Z : x_I) (k l m : Int32) (b0 j0 : Nat) (hb : (Nat.ble 39 b0 && Nat.ble b0 62) = false) : z_sheet Z k l m b0 j0 = Z b0 j0 := by
  have hr := pr_rg hb
  unfold z_sheet
  repeat' (first | exact rfl | refine if_out ?_ ?_ | refine u2_out (by omega) ?_ | refine fi_out (by omega) ?_ | refine fg_out (by omega) ?_ | refine lay_out (by omega) ?_ | refine nb_out (by omega) (by omega) ?_ | refine wr_out (by omega) ?_)
theorem z_lose_out (Z : x_I) (k : Int32) (b0 j0 : Nat) (hb : (Nat.ble 39 b0 && Nat.ble b0 62) = false) : z_lose Z k b0 j0 = Z b0 j0 := by
  have hr := pr_rg hb
  unfold z_lose
  repeat' (first | exact rfl | refine if_out ?_ ?_ | refine u2_out (by omega) ?_ | refine fi_out (by omega) ?_ | refine fg_out (by omega) ?_ | refine lay_out (by omega) ?_ | refine nb_out (by omega) (by omega) ?_ | refine wr_out (by omega) ?_)
theorem z_put_out (Z : x_I) (k i v : Int32) (b0 j0 : Nat) (hb : (Nat.ble 39 b0 && Nat.ble b0 62) = false) : z_put Z k i v b0 j0 = Z b0 j0 := by
  have hr := pr_rg hb
  unfold z_put
  repeat' (first | exact rfl | refine if_out ?_ ?_ | refine u2_out (by omega) ?_ | refine fi_out (by omega) ?_ | refine fg_out (by omega) ?_ | refine lay_out (by omega) ?_ | refine nb_out (by omega) (by omega) ?_ | refine wr_out (by omega) ?_)
theorem z_at_out (Z : x_I) (k i l : Int32) (b0 j0 : Nat) (hb : (Nat.ble 39 b0 && Nat.ble b0 62) = false) : z_at Z k i l b0 j0 = Z b0 j0 := by
  have hr := pr_rg hb
  unfold z_at
  repeat' (first | exact rfl | refine if_out ?_ ?_ | refine u2_out (by omega) ?_ | refine fi_out (by omega) ?_ | refine fg_out (by omega) ?_ | refine lay_out (by omega) ?_ | refine nb_out (by omega) (by omega) ?_ | refine wr_out (by omega) ?_)
theorem z_as_out (Z : x_I) (s k : Int32) (b0 j0 : Nat) (hb : (Nat.ble 39 b0 && Nat.ble b0 62) = false) : z_as Z s k b0 j0 = Z b0 j0 := by
  have hr := pr_rg hb
  unfold z_as
  repeat' (first | exact rfl | refine if_out ?_ ?_ | refine u2_out (by omega) ?_ | refine fi_out (by omega) ?_ | refine fg_out (by omega) ?_ | refine lay_out (by omega) ?_ | refine nb_out (by omega) (by omega) ?_ | refine wr_out (by omega) ?_)
theorem z_hour_out (Z : x_I) (a b c : Int32) (b0 j0 : Nat) (hb : (Nat.ble 39 b0 && Nat.ble b0 62) = false) : z_hour Z a b c b0 j0 = Z b0 j0 := by
  have hr := pr_rg hb
  unfold z_hour
  repeat' (first | exact rfl | refine if_out ?_ ?_ | refine u2_out (by omega) ?_ | refine fi_out (by omega) ?_ | refine fg_out (by omega) ?_ | refine lay_out (by omega) ?_ | refine nb_out (by omega) (by omega) ?_ | refine wr_out (by omega) ?_)
theorem z_plate_out (Z : x_I) (s : Int32) (b0 j0 : Nat) (hb : (Nat.ble 39 b0 && Nat.ble b0 62) = false) : z_plate Z s b0 j0 = Z b0 j0 := by
  have hr := pr_rg hb
  unfold z_plate
  repeat' (first | exact rfl | refine if_out ?_ ?_ | refine u2_out (by omega) ?_ | refine fi_out (by omega) ?_ | refine fg_out (by omega) ?_ | refine lay_out (by omega) ?_ | refine nb_out (by omega) (by omega) ?_ | refine wr_out (by omega) ?_)
theorem z_want_out (Z : x_I) (t s c b : Int32) (b0 j0 : Nat) (hb : (Nat.ble 39 b0 && Nat.ble b0 62) = false) : z_want Z t s c b b0 j0 = Z b0 j0 := by
  have hr := pr_rg hb
  unfold z_want
  repeat' (first | exact rfl | refine if_out ?_ ?_ | refine u2_out (by omega) ?_ | refine fi_out (by omega) ?_ | refine fg_out (by omega) ?_ | refine lay_out (by omega) ?_ | refine nb_out (by omega) (by omega) ?_ | refine wr_out (by omega) ?_)
theorem z_wanted_out (Z : x_I) (t s l i m : Int32) (b0 j0 : Nat) (hb : (Nat.ble 39 b0 && Nat.ble b0 62) = false) : z_wanted Z t s l i m b0 j0 = Z b0 j0 := by
  have hr := pr_rg hb
  unfold z_wanted z_wan1
  repeat' (first | exact rfl | refine if_out ?_ ?_ | refine u2_out (by omega) ?_ | refine fi_out (by omega) ?_ | refine fg_out (by omega) ?_ | refine lay_out (by omega) ?_ | refine nb_out (by omega) (by omega) ?_ | refine wr_out (by omega) ?_)
theorem z_many_out (Z : x_I) (w : Int32) (b0 j0 : Nat) (hb : (Nat.ble 39 b0 && Nat.ble b0 62) = false) : z_many Z w b0 j0 = Z b0 j0 := by
  have hr := pr_rg hb
  unfold z_many
  repeat' (first | exact rfl | refine if_out ?_ ?_ | refine u2_out (by omega) ?_ | refine fi_out (by omega) ?_ | refine fg_out (by omega) ?_ | refine lay_out (by omega) ?_ | refine nb_out (by omega) (by omega) ?_ | refine wr_out (by omega) ?_)
theorem z_wishes_out (Z : x_I) (s w : Int32) (b0 j0 : Nat) (hb : (Nat.ble 39 b0 && Nat.ble b0 62) = false) : z_wishes Z s w b0 j0 = Z b0 j0 := by
  have hr := pr_rg hb
  unfold z_wishes
  repeat' (first | exact rfl | refine if_out ?_ ?_ | refine u2_out (by omega) ?_ | refine fi_out (by omega) ?_ | refine fg_out (by omega) ?_ | refine lay_out (by omega) ?_ | refine nb_out (by omega) (by omega) ?_ | refine wr_out (by omega) ?_)
theorem z_painting_out (Z : x_I) (s : Int32) (b0 j0 : Nat) (hb : (Nat.ble 39 b0 && Nat.ble b0 62) = false) : z_painting Z s b0 j0 = Z b0 j0 := by
  have hr := pr_rg hb
  unfold z_painting z_pa1
  repeat' (first | exact rfl | refine if_out ?_ ?_ | refine u2_out (by omega) ?_ | refine fi_out (by omega) ?_ | refine fg_out (by omega) ?_ | refine lay_out (by omega) ?_ | refine nb_out (by omega) (by omega) ?_ | refine wr_out (by omega) ?_)
theorem z_idle_out (Z : x_I) (s : Int32) (b0 j0 : Nat) (hb : (Nat.ble 39 b0 && Nat.ble b0 62) = false) : z_idle Z s b0 j0 = Z b0 j0 := by
  have hr := pr_rg hb
  unfold z_idle
  repeat' (first | exact rfl | refine if_out ?_ ?_ | refine u2_out (by omega) ?_ | refine fi_out (by omega) ?_ | refine fg_out (by omega) ?_ | refine lay_out (by omega) ?_ | refine nb_out (by omega) (by omega) ?_ | refine wr_out (by omega) ?_)
theorem z_sway_out (Z : x_I) (e d w : Int32) (b0 j0 : Nat) (hb : (Nat.ble 39 b0 && Nat.ble b0 62) = false) : z_sway Z e d w b0 j0 = Z b0 j0 := by
  have hr := pr_rg hb
  unfold z_sway
  repeat' (first | exact rfl | refine if_out ?_ ?_ | refine u2_out (by omega) ?_ | refine fi_out (by omega) ?_ | refine fg_out (by omega) ?_ | refine lay_out (by omega) ?_ | refine nb_out (by omega) (by omega) ?_ | refine wr_out (by omega) ?_)
theorem mG_in {a k : Nat} (h : mG a k = false) : (Nat.ble 39 a && Nat.ble a 62) = true := by
  unfold mG at h
  simp only [Bool.or_eq_false_iff] at h
  have h1 : 39 ≤ a := Nat.lt_of_not_le (fun z => by rw [Nat.ble_eq_true_of_le z] at h; cases h.2.1)
  have h2 : a ≤ 62 := Nat.le_of_not_lt (fun z => by rw [Nat.ble_eq_true_of_le (show 63 ≤ a from z)] at h; cases h.2.2)
  rw [Nat.ble_eq_true_of_le h1, Nat.ble_eq_true_of_le h2]
  rfl
theorem mG_F {a k : Nat} (h : mG a k = false) : mF a k = false := by
  unfold mG at h
  simp only [Bool.or_eq_false_iff] at h
  exact h.1
theorem k_beg {fa : Nat → Nat} {bd : Nat} {S : x_S} {P : x_P} {I : x_I} {J : x_J} {n : Nat} (h : c_R fa bd I S P I J n) (mi : m_I I) : c_R fa bd (m_pr I) S P I J n ∧ m_I (m_pr I) :=
  ⟨h.cz mi.hn.2 (fun a k _ _ hG => m_pr_in I (mG_in hG) k) (fun _ _ _ _ => rfl) (fun k _ => by rw [nb_pr]; rfl), mi.cg (fun a k hG => m_pr_in I (mG_in hG) k)⟩
theorem cC_in {a k : Nat} (h : (Nat.ble 39 a && Nat.ble a 62) = true) : cC a k = false := by
  have h1 : 39 ≤ a := Nat.le_of_not_lt (fun z => by rw [x_blt z] at h; cases h)
  have h2 : a ≤ 62 := Nat.le_of_not_lt (fun z => by rw [x_blt (show 62 < a from z), Bool.and_false] at h; cases h)
  unfold cC
  rw [x_blt (show 38 < a by omega), x_blt (show a < 63 by omega), Bool.and_false]
  rfl
theorem k_mid {I I1 : x_I} {J J1 : x_J} (h : x_ex cC I I1 J J1) : m_pr I1 = m_pr I := pr_fn (fun a k ha => by rw [m_pr_in I1 ha, h.i a k (cC_in ha)]) (fun a k ha => m_pr_out I1 ha k)
theorem k_mi1 {I I1 : x_I} {J J1 : x_J} (h : x_ex cC I I1 J J1) (mi : m_I I) : m_I I1 := mi.cg (fun a k hG => h.i a k (cC_in (mG_in hG)))
theorem k_fin {z : x_I} {S : x_S} {P : x_P} {I1 I2 : x_I} {J1 J2 : x_J} {n : Nat} (hc : c_S (m_pr z) S P I1 J1 n) (mi : m_I z) (ho : ∀ a k, (Nat.ble 39 a && Nat.ble a 62) = false → z a k = I1 a k) (hx : x_ex mF z I2 J1 J2) : c_S I2 S P I2 J2 n ∧ m_I I2 := by
  obtain ⟨fa, bd, hR⟩ := hc
  have hN : x_ex cN I1 I2 J1 J2 := fun a k hk => by
    have hr : (Nat.ble 39 a && Nat.ble a 62) = false := by
      unfold cN at hk
      simp only [Bool.or_eq_false_iff] at hk
      exact hk.2
    have hF : mF a k = false := by
      have := pr_rg hr
      unfold mF
      rcases this with q | q
      · rw [x_blt (show a < 48 by omega), x_blt (show a < 55 by omega), x_bne (show a ≠ 39 by omega)]; rfl
      · rw [x_blt (show 52 < a by omega), x_blt (show 62 < a by omega), x_bne (show a ≠ 39 by omega), Bool.and_false, Bool.and_false]; rfl
    exact ⟨(hx.i a k hF).trans (ho a k hr), hx.j a k hF⟩
  have e : ∀ a k, mG a k = false → I2 a k = m_pr z a k := fun a k hG => (hx.i a k (mG_F hG)).trans (m_pr_in z (mG_in hG) k).symm
  have hR2 := hR.cg hN p_ex.rf
  refine ⟨⟨fa, bd, hR2.cz mi.hn.2 (fun a k _ _ hG => e a k hG) (fun s k _ _ => e 41 _ rfl) (fun k _ => m_nb_41 (e 39 8 rfl) (fun k => e 41 k rfl) _)⟩, mi.cg (fun a k hG => hx.i a k (mG_F hG))⟩

