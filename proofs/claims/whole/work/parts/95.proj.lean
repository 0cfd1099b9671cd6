def m_pr (Z : x_I) : x_I := fun a k => bif (Nat.ble 39 a && Nat.ble a 62) then Z a k else 0
theorem m_pr_in (Z : x_I) {a : Nat} (h : (Nat.ble 39 a && Nat.ble a 62) = true) (k : Nat) : m_pr Z a k = Z a k := by unfold m_pr; rw [h]; rfl
theorem m_pr_out (Z : x_I) {a : Nat} (h : (Nat.ble 39 a && Nat.ble a 62) = false) (k : Nat) : m_pr Z a k = 0 := by unfold m_pr; rw [h]; rfl
theorem pr_fn {F G : x_I} (h1 : ∀ a k, (Nat.ble 39 a && Nat.ble a 62) = true → F a k = G a k) (h2 : ∀ a k, (Nat.ble 39 a && Nat.ble a 62) = false → F a k = 0) : F = m_pr G := by
  funext a k
  cases h : (Nat.ble 39 a && Nat.ble a 62) with
  | true => rw [m_pr_in G h]; exact h1 a k h
  | false => rw [m_pr_out G h]; exact h2 a k h
theorem u2_pr (Z : x_I) {a : Nat} (k : Nat) (v : Int32) (h : (Nat.ble 39 a && Nat.ble a 62) = true) : x_u2 (m_pr Z) a k v = m_pr (x_u2 Z a k v) := pr_fn (fun b j hb => by rw [x_u2_at, x_u2_at, m_pr_in Z hb]) (fun b j hb => by
  rw [x_u2_at, if_neg (fun w => by rw [w.1, h] at hb; cases hb)]
  exact m_pr_out Z hb j)
theorem fi_pr (Z : x_I) {a : Nat} (lo k : Nat) (v : Int32) (h : (Nat.ble 39 a && Nat.ble a 62) = true) : x_fi (m_pr Z) a lo k v = m_pr (x_fi Z a lo k v) := pr_fn (fun b j hb => by
  by_cases e : b = a
  · subst e
    by_cases w : lo ≤ j ∧ j < lo + k
    · rw [x_fi_in _ _ w.1 w.2, x_fi_in _ _ w.1 w.2]
    · rw [x_fi_out _ _ (by omega), x_fi_out _ _ (by omega), m_pr_in Z hb]
  · rw [x_fi_na _ _ _ _ _ e, x_fi_na _ _ _ _ _ e, m_pr_in Z hb]) (fun b j hb => by
  rw [x_fi_na _ _ _ _ _ (fun w => by rw [w, h] at hb; cases hb)]
  exact m_pr_out Z hb j)
theorem fg_pr (Z : x_I) {a : Nat} (lo k : Nat) (g : Nat → Int32) (h : (Nat.ble 39 a && Nat.ble a 62) = true) : x_fg (m_pr Z) a lo k g = m_pr (x_fg Z a lo k g) := pr_fn (fun b j hb => by unfold x_fg; rw [m_pr_in Z hb]) (fun b j hb => by
  unfold x_fg
  rw [if_neg (fun w => by rw [w.1, h] at hb; cases hb)]
  exact m_pr_out Z hb j)
theorem if_pr {c : Prop} (f g : x_I) : x_if c (m_pr f) (m_pr g) = m_pr (x_if c f g) := by
  by_cases h : c
  · rw [x_if_t h, x_if_t h]
  · rw [x_if_f h, x_if_f h]

theorem u2_pr39 (Z : x_I) (k : Nat) (v : Int32) : x_u2 (m_pr Z) 39 k v = m_pr (x_u2 Z 39 k v) := u2_pr Z k v rfl
theorem u2_pr40 (Z : x_I) (k : Nat) (v : Int32) : x_u2 (m_pr Z) 40 k v = m_pr (x_u2 Z 40 k v) := u2_pr Z k v rfl
theorem u2_pr41 (Z : x_I) (k : Nat) (v : Int32) : x_u2 (m_pr Z) 41 k v = m_pr (x_u2 Z 41 k v) := u2_pr Z k v rfl
theorem u2_pr42 (Z : x_I) (k : Nat) (v : Int32) : x_u2 (m_pr Z) 42 k v = m_pr (x_u2 Z 42 k v) := u2_pr Z k v rfl
theorem u2_pr43 (Z : x_I) (k : Nat) (v : Int32) : x_u2 (m_pr Z) 43 k v = m_pr (x_u2 Z 43 k v) := u2_pr Z k v rfl
theorem u2_pr44 (Z : x_I) (k : Nat) (v : Int32) : x_u2 (m_pr Z) 44 k v = m_pr (x_u2 Z 44 k v) := u2_pr Z k v rfl
theorem u2_pr45 (Z : x_I) (k : Nat) (v : Int32) : x_u2 (m_pr Z) 45 k v = m_pr (x_u2 Z 45 k v) := u2_pr Z k v rfl
theorem u2_pr46 (Z : x_I) (k : Nat) (v : Int32) : x_u2 (m_pr Z) 46 k v = m_pr (x_u2 Z 46 k v) := u2_pr Z k v rfl
theorem u2_pr47 (Z : x_I) (k : Nat) (v : Int32) : x_u2 (m_pr Z) 47 k v = m_pr (x_u2 Z 47 k v) := u2_pr Z k v rfl
theorem u2_pr53 (Z : x_I) (k : Nat) (v : Int32) : x_u2 (m_pr Z) 53 k v = m_pr (x_u2 Z 53 k v) := u2_pr Z k v rfl
theorem u2_pr54 (Z : x_I) (k : Nat) (v : Int32) : x_u2 (m_pr Z) 54 k v = m_pr (x_u2 Z 54 k v) := u2_pr Z k v rfl
theorem fi_pr42 (Z : x_I) (lo k : Nat) (v : Int32) : x_fi (m_pr Z) 42 lo k v = m_pr (x_fi Z 42 lo k v) := fi_pr Z lo k v rfl
theorem fi_pr44 (Z : x_I) (lo k : Nat) (v : Int32) : x_fi (m_pr Z) 44 lo k v = m_pr (x_fi Z 44 lo k v) := fi_pr Z lo k v rfl
theorem fi_pr47 (Z : x_I) (lo k : Nat) (v : Int32) : x_fi (m_pr Z) 47 lo k v = m_pr (x_fi Z 47 lo k v) := fi_pr Z lo k v rfl
theorem fi_pr54 (Z : x_I) (lo k : Nat) (v : Int32) : x_fi (m_pr Z) 54 lo k v = m_pr (x_fi Z 54 lo k v) := fi_pr Z lo k v rfl
theorem fg_pr42 (Z : x_I) (lo k : Nat) (g : Nat → Int32) : x_fg (m_pr Z) 42 lo k g = m_pr (x_fg Z 42 lo k g) := fg_pr Z lo k g rfl
theorem fg_pr44 (Z : x_I) (lo k : Nat) (g : Nat → Int32) : x_fg (m_pr Z) 44 lo k g = m_pr (x_fg Z 44 lo k g) := fg_pr Z lo k g rfl
theorem lay_pr (Z : x_I) (s : Nat) (a c u v w h : Int32) : m_lay (m_pr Z) s a c u v w h = m_pr (m_lay Z s a c u v w h) := by
  unfold m_lay
  simp only [u2_pr41]
theorem nb_pr (Z : x_I) : m_nb (m_pr Z) = m_pr (m_nb Z) := by
  unfold m_nb
  by_cases h : Z 39 8 = 0
  · rw [if_pos (show m_pr Z 39 8 = 0 from h), if_pos h, u2_pr39, lay_pr]
  · rw [if_neg (show ¬ m_pr Z 39 8 = 0 from h), if_neg h]
theorem pa1_pr (Z : x_I) : z_pa1 (m_pr Z) = m_pr (z_pa1 Z) := by unfold z_pa1; rw [fi_pr42, nb_pr]

theorem r_best_pr (Z : x_I) : r_best (m_pr Z) = r_best Z := by
  funext fine p q lu ld w n
  exact r_best_cg (Z := Z) (Z' := m_pr Z) (fun _ => rfl) fine p q lu ld w n
theorem r_end_pr (Z : x_I) (fine w : Int) : ∀ k, r_end (m_pr Z) fine w k = r_end Z fine w k := by
  intro k
  induction k with
  | zero =>
    funext p q lu ld
    unfold r_end
    rw [r_best_pr]
    rfl
  | succ k ih =>
    funext p q lu ld
    unfold r_end
    rw [r_best_pr]
    simp only [ih]
    rfl
theorem r_ray_pr (Z : x_I) : r_ray (m_pr Z) = r_ray Z := by
  funext fine w x y z a b c
  unfold r_ray
  rw [r_end_pr]
theorem r_seen_pr (Z : x_I) : r_seen (m_pr Z) = r_seen Z := by
  funext x y z j
  unfold r_seen
  rw [r_ray_pr]
  rfl
theorem r_sby_pr (Z : x_I) : r_sby (m_pr Z) = r_sby Z := by
  funext e j
  unfold r_sby
  rw [r_seen_pr]
  rfl
theorem r_lit_pr (Z : x_I) : r_lit (m_pr Z) = r_lit Z := by
  funext p t c
  unfold r_lit
  rw [r_end_pr]
  rfl
theorem r_may1_pr (Z : x_I) : r_may1 (m_pr Z) = r_may1 Z := by
  funext p c t
  unfold r_may1
  rw [r_lit_pr]
  rfl
theorem r_may_pr (Z : x_I) : r_may (m_pr Z) = r_may Z := by
  funext p c
  unfold r_may
  simp only [r_may1_pr]
  rfl
theorem h_mb_pr (Z : x_I) : h_mb (m_pr Z) = h_mb Z := by
  funext p c
  by_cases h : r_may Z p c
  · rw [h_mb_t h, h_mb_t (by rw [r_may_pr]; exact h)]
  · rw [h_mb_f h, h_mb_f (by rw [r_may_pr]; exact h)]
theorem h_ho_pr (Z : x_I) : h_ho (m_pr Z) = h_ho Z := by
  funext p c
  unfold h_ho
  rw [h_mb_pr]
theorem h_m_pr (Z : x_I) : h_m (m_pr Z) = h_m Z := by
  funext p
  unfold h_m
  rw [h_mb_pr]
  rfl
theorem h_L_pr (Z : x_I) : h_L (m_pr Z) = h_L Z := by
  funext p j t
  unfold h_L h_pl
  rw [h_ho_pr, r_lit_pr]
theorem q_fst_pr (Z : x_I) : q_fst (m_pr Z) = q_fst Z := by
  funext p
  unfold q_fst
  rw [h_m_pr, h_L_pr]
  rfl
theorem w_p1_pr (Z : x_I) : w_p1 (m_pr Z) = w_p1 Z := by
  funext e j
  unfold w_p1
  rw [r_sby_pr]
  rfl
theorem w_p2_pr (Z : x_I) : w_p2 (m_pr Z) = w_p2 Z := by
  funext e j
  unfold w_p2
  rw [r_sby_pr]
  rfl
theorem q_wishes0_pr (Z : x_I) (a b : Int32) : q_wishes0 (m_pr Z) a b = q_wishes0 Z a b := by
  unfold q_wishes0
  rw [w_p1_pr, w_p2_pr]
  rfl
theorem w_nm_pr (Z : x_I) : w_nm (m_pr Z) = w_nm Z := by
  funext e x y z j
  unfold w_nm
  rw [r_seen_pr]
  rfl
theorem s_n_pr (Z : x_I) : s_n (m_pr Z) = s_n Z := by
  funext e d k
  unfold s_n
  rw [w_nm_pr]
  rfl
theorem s_w_pr (Z : x_I) (e : Nat) (d : Int) : ∀ k, s_w (m_pr Z) e d k = s_w Z e d k := by
  intro k
  induction k with
  | zero => rfl
  | succ k ih =>
    rw [s_w, s_w, ih, s_n_pr]
    rfl
theorem v_at_pr (Z : x_I) : v_at (m_pr Z) = v_at Z := by
  funext a e j
  unfold v_at
  rw [r_sby_pr]
  rfl
theorem v_al_pr (Z : x_I) : v_al (m_pr Z) = v_al Z := by
  funext a e j
  unfold v_al
  rw [v_at_pr]
  rfl
theorem v_pa_pr (Z : x_I) : v_pa (m_pr Z) = v_pa Z := by
  funext a e
  unfold v_pa
  rw [v_al_pr]
theorem u_at_pr (Z : x_I) : u_at (m_pr Z) = u_at Z := by
  funext a e j
  unfold u_at
  rw [r_sby_pr]
  rfl
theorem u_al_pr (Z : x_I) : u_al (m_pr Z) = u_al Z := by
  funext a e j
  unfold u_al
  rw [u_at_pr]
  rfl
theorem i_row_pr (Z : x_I) : i_row (m_pr Z) = i_row Z := by
  funext a e
  unfold i_row
  rw [u_al_pr]
  rfl
theorem z_wr_pr (Z : x_I) (t s i : Nat) : ∀ j, z_wr (m_pr Z) t s i j = m_pr (z_wr Z t s i j) := by
  intro j
  induction j with
  | zero => exact fi_pr54 Z _ _ _
  | succ j ih =>
    rw [z_wr, z_wr, ih, u2_pr54]
    rfl
theorem q_wr_pr (Z : x_I) (t s i : Nat) : ∀ j, q_wr (m_pr Z) t s i j = q_wr Z t s i j := by
  intro j
  induction j with
  | zero => rfl
  | succ j ih =>
    rw [q_wr, q_wr, ih, z_wr_pr]
    rfl

set_option maxHeartbeats 400000 in
theorem q_surface_pr (Z : x_I) (kd a c u v w h : Int32) : q_surface (m_pr Z) kd a c u v w h = q_surface Z kd a c u v w h := rfl
set_option maxHeartbeats 400000 in
theorem q_about_pr (Z : x_I) (s c : Int32) : q_about (m_pr Z) s c = q_about Z s c := rfl
set_option maxHeartbeats 400000 in
theorem q_paint_pr (Z : x_I) (s c v : Int32) : q_paint (m_pr Z) s c v = q_paint Z s c v := rfl
set_option maxHeartbeats 400000 in
theorem q_colour_pr (Z : x_I) (s c : Int32) : q_colour (m_pr Z) s c = q_colour Z s c := rfl
set_option maxHeartbeats 400000 in
theorem q_lose_pr (Z : x_I) (k : Int32) : q_lose (m_pr Z) k = q_lose Z k := rfl
set_option maxHeartbeats 400000 in
theorem q_put_pr (Z : x_I) (k i v : Int32) : q_put (m_pr Z) k i v = q_put Z k i v := rfl
set_option maxHeartbeats 400000 in
theorem q_at_pr (Z : x_I) (k i v : Int32) : q_at (m_pr Z) k i v = q_at Z k i v := rfl
set_option maxHeartbeats 400000 in
theorem q_tell_pr (Z : x_I) (s : Int32) : q_tell (m_pr Z) s = q_tell Z s := rfl
set_option maxHeartbeats 400000 in
theorem q_tlt_pr (Z : x_I) (s : Int32) : q_tlt (m_pr Z) s = q_tlt Z s := rfl
set_option maxHeartbeats 400000 in
theorem q_name_pr (Z : x_I) (s : Int32) : q_name (m_pr Z) s = q_name Z s := rfl
set_option maxHeartbeats 400000 in
theorem q_nmt_pr (Z : x_I) (s : Int32) : q_nmt (m_pr Z) s = q_nmt Z s := rfl
set_option maxHeartbeats 400000 in
theorem q_as_pr (Z : x_I) (s k : Int32) : q_as (m_pr Z) s k = q_as Z s k := rfl
set_option maxHeartbeats 400000 in
theorem q_hour_pr (Z : x_I) (a b c : Int32) : q_hour (m_pr Z) a b c = q_hour Z a b c := rfl
set_option maxHeartbeats 400000 in
theorem q_plate_pr (Z : x_I) (s : Int32) : q_plate (m_pr Z) s = q_plate Z s := rfl
set_option maxHeartbeats 400000 in
theorem q_want_pr (Z : x_I) (t s c b : Int32) : q_want (m_pr Z) t s c b = q_want Z t s c b := rfl
set_option maxHeartbeats 400000 in
theorem q_few_pr (Z : x_I) (k w : Int32) : q_few (m_pr Z) k w = q_few Z k w := rfl
set_option maxHeartbeats 400000 in
theorem q_wan1_pr (Z : x_I) (t s l m : Nat) : q_wan1 (m_pr Z) t s l m = q_wan1 Z t s l m := by
  unfold q_wan1
  simp only [u2_pr39, u2_pr40, u2_pr41, u2_pr42, u2_pr43, u2_pr44, u2_pr45, u2_pr46, u2_pr47, u2_pr53, u2_pr54, fi_pr42, fi_pr44, fi_pr47, fi_pr54, fg_pr42, fg_pr44, lay_pr, nb_pr, pa1_pr, if_pr, r_ray_pr, r_sby_pr, r_lit_pr, r_may_pr, q_fst_pr, h_L_pr, h_m_pr, h_ho_pr, q_wishes0_pr, s_w_pr, v_pa_pr, i_row_pr, z_wr_pr, q_wr_pr] <;> rfl
set_option maxHeartbeats 400000 in
theorem q_wanted_pr (Z : x_I) (t s l i m : Int32) : q_wanted (m_pr Z) t s l i m = q_wanted Z t s l i m := by
  unfold q_wanted
  simp only [u2_pr39, u2_pr40, u2_pr41, u2_pr42, u2_pr43, u2_pr44, u2_pr45, u2_pr46, u2_pr47, u2_pr53, u2_pr54, fi_pr42, fi_pr44, fi_pr47, fi_pr54, fg_pr42, fg_pr44, lay_pr, nb_pr, pa1_pr, if_pr, r_ray_pr, r_sby_pr, r_lit_pr, r_may_pr, q_fst_pr, h_L_pr, h_m_pr, h_ho_pr, q_wishes0_pr, s_w_pr, v_pa_pr, i_row_pr, z_wr_pr, q_wr_pr, q_wan1_pr] <;> rfl
set_option maxHeartbeats 400000 in
theorem q_ray_pr (Z : x_I) (x y z a b c : Int32) : q_ray (m_pr Z) x y z a b c = q_ray Z x y z a b c := by
  unfold q_ray
  simp only [u2_pr39, u2_pr40, u2_pr41, u2_pr42, u2_pr43, u2_pr44, u2_pr45, u2_pr46, u2_pr47, u2_pr53, u2_pr54, fi_pr42, fi_pr44, fi_pr47, fi_pr54, fg_pr42, fg_pr44, lay_pr, nb_pr, pa1_pr, if_pr, r_ray_pr, r_sby_pr, r_lit_pr, r_may_pr, q_fst_pr, h_L_pr, h_m_pr, h_ho_pr, q_wishes0_pr, s_w_pr, v_pa_pr, i_row_pr, z_wr_pr, q_wr_pr] <;> rfl
set_option maxHeartbeats 400000 in
theorem q_bounces_pr (Z : x_I) (x y z a b c : Int32) : q_bounces (m_pr Z) x y z a b c = q_bounces Z x y z a b c := by
  unfold q_bounces
  simp only [u2_pr39, u2_pr40, u2_pr41, u2_pr42, u2_pr43, u2_pr44, u2_pr45, u2_pr46, u2_pr47, u2_pr53, u2_pr54, fi_pr42, fi_pr44, fi_pr47, fi_pr54, fg_pr42, fg_pr44, lay_pr, nb_pr, pa1_pr, if_pr, r_ray_pr, r_sby_pr, r_lit_pr, r_may_pr, q_fst_pr, h_L_pr, h_m_pr, h_ho_pr, q_wishes0_pr, s_w_pr, v_pa_pr, i_row_pr, z_wr_pr, q_wr_pr] <;> rfl
set_option maxHeartbeats 400000 in
theorem q_lit_pr (Z : x_I) (t c : Int32) : q_lit (m_pr Z) t c = q_lit Z t c := by
  unfold q_lit
  simp only [u2_pr39, u2_pr40, u2_pr41, u2_pr42, u2_pr43, u2_pr44, u2_pr45, u2_pr46, u2_pr47, u2_pr53, u2_pr54, fi_pr42, fi_pr44, fi_pr47, fi_pr54, fg_pr42, fg_pr44, lay_pr, nb_pr, pa1_pr, if_pr, r_ray_pr, r_sby_pr, r_lit_pr, r_may_pr, q_fst_pr, h_L_pr, h_m_pr, h_ho_pr, q_wishes0_pr, s_w_pr, v_pa_pr, i_row_pr, z_wr_pr, q_wr_pr] <;> rfl
set_option maxHeartbeats 400000 in
theorem q_may_pr (Z : x_I) (c : Int32) : q_may (m_pr Z) c = q_may Z c := by
  unfold q_may
  simp only [u2_pr39, u2_pr40, u2_pr41, u2_pr42, u2_pr43, u2_pr44, u2_pr45, u2_pr46, u2_pr47, u2_pr53, u2_pr54, fi_pr42, fi_pr44, fi_pr47, fi_pr54, fg_pr42, fg_pr44, lay_pr, nb_pr, pa1_pr, if_pr, r_ray_pr, r_sby_pr, r_lit_pr, r_may_pr, q_fst_pr, h_L_pr, h_m_pr, h_ho_pr, q_wishes0_pr, s_w_pr, v_pa_pr, i_row_pr, z_wr_pr, q_wr_pr] <;> rfl
set_option maxHeartbeats 400000 in
theorem q_fewest_pr (Z : x_I) : q_fewest (m_pr Z)  = q_fewest Z  := by
  unfold q_fewest
  simp only [u2_pr39, u2_pr40, u2_pr41, u2_pr42, u2_pr43, u2_pr44, u2_pr45, u2_pr46, u2_pr47, u2_pr53, u2_pr54, fi_pr42, fi_pr44, fi_pr47, fi_pr54, fg_pr42, fg_pr44, lay_pr, nb_pr, pa1_pr, if_pr, r_ray_pr, r_sby_pr, r_lit_pr, r_may_pr, q_fst_pr, h_L_pr, h_m_pr, h_ho_pr, q_wishes0_pr, s_w_pr, v_pa_pr, i_row_pr, z_wr_pr, q_wr_pr] <;> rfl
set_option maxHeartbeats 400000 in
theorem q_hole_pr (Z : x_I) (c : Int32) : q_hole (m_pr Z) c = q_hole Z c := by
  unfold q_hole
  simp only [u2_pr39, u2_pr40, u2_pr41, u2_pr42, u2_pr43, u2_pr44, u2_pr45, u2_pr46, u2_pr47, u2_pr53, u2_pr54, fi_pr42, fi_pr44, fi_pr47, fi_pr54, fg_pr42, fg_pr44, lay_pr, nb_pr, pa1_pr, if_pr, r_ray_pr, r_sby_pr, r_lit_pr, r_may_pr, q_fst_pr, h_L_pr, h_m_pr, h_ho_pr, q_wishes0_pr, s_w_pr, v_pa_pr, i_row_pr, z_wr_pr, q_wr_pr] <;> rfl
set_option maxHeartbeats 400000 in
theorem q_wish_pr (Z : x_I) (e c : Int32) : q_wish (m_pr Z) e c = q_wish Z e c := by
  unfold q_wish
  simp only [u2_pr39, u2_pr40, u2_pr41, u2_pr42, u2_pr43, u2_pr44, u2_pr45, u2_pr46, u2_pr47, u2_pr53, u2_pr54, fi_pr42, fi_pr44, fi_pr47, fi_pr54, fg_pr42, fg_pr44, lay_pr, nb_pr, pa1_pr, if_pr, r_ray_pr, r_sby_pr, r_lit_pr, r_may_pr, q_fst_pr, h_L_pr, h_m_pr, h_ho_pr, q_wishes0_pr, s_w_pr, v_pa_pr, i_row_pr, z_wr_pr, q_wr_pr] <;> rfl
set_option maxHeartbeats 400000 in
theorem q_seen_pr (Z : x_I) (e c : Int32) : q_seen (m_pr Z) e c = q_seen Z e c := by
  unfold q_seen
  simp only [u2_pr39, u2_pr40, u2_pr41, u2_pr42, u2_pr43, u2_pr44, u2_pr45, u2_pr46, u2_pr47, u2_pr53, u2_pr54, fi_pr42, fi_pr44, fi_pr47, fi_pr54, fg_pr42, fg_pr44, lay_pr, nb_pr, pa1_pr, if_pr, r_ray_pr, r_sby_pr, r_lit_pr, r_may_pr, q_fst_pr, h_L_pr, h_m_pr, h_ho_pr, q_wishes0_pr, s_w_pr, v_pa_pr, i_row_pr, z_wr_pr, q_wr_pr] <;> rfl
set_option maxHeartbeats 400000 in
theorem q_many_pr (Z : x_I) (w : Int32) : q_many (m_pr Z) w = q_many Z w := by
  unfold q_many
  simp only [u2_pr39, u2_pr40, u2_pr41, u2_pr42, u2_pr43, u2_pr44, u2_pr45, u2_pr46, u2_pr47, u2_pr53, u2_pr54, fi_pr42, fi_pr44, fi_pr47, fi_pr54, fg_pr42, fg_pr44, lay_pr, nb_pr, pa1_pr, if_pr, r_ray_pr, r_sby_pr, r_lit_pr, r_may_pr, q_fst_pr, h_L_pr, h_m_pr, h_ho_pr, q_wishes0_pr, s_w_pr, v_pa_pr, i_row_pr, z_wr_pr, q_wr_pr] <;> rfl
set_option maxHeartbeats 400000 in
theorem q_picture_pr (Z : x_I) (e s l i : Int32) : q_picture (m_pr Z) e s l i = q_picture Z e s l i := by
  unfold q_picture
  simp only [u2_pr39, u2_pr40, u2_pr41, u2_pr42, u2_pr43, u2_pr44, u2_pr45, u2_pr46, u2_pr47, u2_pr53, u2_pr54, fi_pr42, fi_pr44, fi_pr47, fi_pr54, fg_pr42, fg_pr44, lay_pr, nb_pr, pa1_pr, if_pr, r_ray_pr, r_sby_pr, r_lit_pr, r_may_pr, q_fst_pr, h_L_pr, h_m_pr, h_ho_pr, q_wishes0_pr, s_w_pr, v_pa_pr, i_row_pr, z_wr_pr, q_wr_pr] <;> rfl
set_option maxHeartbeats 400000 in
theorem q_wishes_pr (Z : x_I) (s w : Int32) : q_wishes (m_pr Z) s w = q_wishes Z s w := by
  unfold q_wishes
  simp only [u2_pr39, u2_pr40, u2_pr41, u2_pr42, u2_pr43, u2_pr44, u2_pr45, u2_pr46, u2_pr47, u2_pr53, u2_pr54, fi_pr42, fi_pr44, fi_pr47, fi_pr54, fg_pr42, fg_pr44, lay_pr, nb_pr, pa1_pr, if_pr, r_ray_pr, r_sby_pr, r_lit_pr, r_may_pr, q_fst_pr, h_L_pr, h_m_pr, h_ho_pr, q_wishes0_pr, s_w_pr, v_pa_pr, i_row_pr, z_wr_pr, q_wr_pr] <;> rfl
set_option maxHeartbeats 400000 in
theorem q_sway_pr (Z : x_I) (e d w : Int32) : q_sway (m_pr Z) e d w = q_sway Z e d w := by
  unfold q_sway
  simp only [u2_pr39, u2_pr40, u2_pr41, u2_pr42, u2_pr43, u2_pr44, u2_pr45, u2_pr46, u2_pr47, u2_pr53, u2_pr54, fi_pr42, fi_pr44, fi_pr47, fi_pr54, fg_pr42, fg_pr44, lay_pr, nb_pr, pa1_pr, if_pr, r_ray_pr, r_sby_pr, r_lit_pr, r_may_pr, q_fst_pr, h_L_pr, h_m_pr, h_ho_pr, q_wishes0_pr, s_w_pr, v_pa_pr, i_row_pr, z_wr_pr, q_wr_pr] <;> rfl
set_option maxHeartbeats 400000 in
theorem q_idle_pr (Z : x_I) (s : Int32) : q_idle (m_pr Z) s = q_idle Z s := by
  unfold q_idle
  simp only [u2_pr39, u2_pr40, u2_pr41, u2_pr42, u2_pr43, u2_pr44, u2_pr45, u2_pr46, u2_pr47, u2_pr53, u2_pr54, fi_pr42, fi_pr44, fi_pr47, fi_pr54, fg_pr42, fg_pr44, lay_pr, nb_pr, pa1_pr, if_pr, r_ray_pr, r_sby_pr, r_lit_pr, r_may_pr, q_fst_pr, h_L_pr, h_m_pr, h_ho_pr, q_wishes0_pr, s_w_pr, v_pa_pr, i_row_pr, z_wr_pr, q_wr_pr] <;> rfl
set_option maxHeartbeats 400000 in
theorem z_pic1_pr (Z : x_I) (e s l m : Nat) : z_pic1 (m_pr Z) e s l m = m_pr (z_pic1 Z e s l m) := by
  unfold z_pic1
  simp only [u2_pr39, u2_pr40, u2_pr41, u2_pr42, u2_pr43, u2_pr44, u2_pr45, u2_pr46, u2_pr47, u2_pr53, u2_pr54, fi_pr42, fi_pr44, fi_pr47, fi_pr54, fg_pr42, fg_pr44, lay_pr, nb_pr, pa1_pr, if_pr, r_ray_pr, r_sby_pr, r_lit_pr, r_may_pr, q_fst_pr, h_L_pr, h_m_pr, h_ho_pr, q_wishes0_pr, s_w_pr, v_pa_pr, i_row_pr, z_wr_pr, q_wr_pr] <;> rfl
set_option maxHeartbeats 400000 in
theorem z_pic2_pr (Z : x_I) (e s l i : Int32) : z_pic2 (m_pr Z) e s l i = m_pr (z_pic2 Z e s l i) := by
  unfold z_pic2
  simp only [u2_pr39, u2_pr40, u2_pr41, u2_pr42, u2_pr43, u2_pr44, u2_pr45, u2_pr46, u2_pr47, u2_pr53, u2_pr54, fi_pr42, fi_pr44, fi_pr47, fi_pr54, fg_pr42, fg_pr44, lay_pr, nb_pr, pa1_pr, if_pr, r_ray_pr, r_sby_pr, r_lit_pr, r_may_pr, q_fst_pr, h_L_pr, h_m_pr, h_ho_pr, q_wishes0_pr, s_w_pr, v_pa_pr, i_row_pr, z_wr_pr, q_wr_pr, z_pic1_pr] <;> rfl
set_option maxHeartbeats 400000 in
theorem z_wan1_pr (Z : x_I) (t s l m : Nat) : z_wan1 (m_pr Z) t s l m = m_pr (z_wan1 Z t s l m) := by
  unfold z_wan1
  simp only [u2_pr39, u2_pr40, u2_pr41, u2_pr42, u2_pr43, u2_pr44, u2_pr45, u2_pr46, u2_pr47, u2_pr53, u2_pr54, fi_pr42, fi_pr44, fi_pr47, fi_pr54, fg_pr42, fg_pr44, lay_pr, nb_pr, pa1_pr, if_pr, r_ray_pr, r_sby_pr, r_lit_pr, r_may_pr, q_fst_pr, h_L_pr, h_m_pr, h_ho_pr, q_wishes0_pr, s_w_pr, v_pa_pr, i_row_pr, z_wr_pr, q_wr_pr] <;> rfl
set_option maxHeartbeats 400000 in
theorem z_surface_pr (Z : x_I) (kd a c u v w h : Int32) : z_surface (m_pr Z) kd a c u v w h = m_pr (z_surface Z kd a c u v w h) := by
  unfold z_surface
  simp only [u2_pr39, u2_pr40, u2_pr41, u2_pr42, u2_pr43, u2_pr44, u2_pr45, u2_pr46, u2_pr47, u2_pr53, u2_pr54, fi_pr42, fi_pr44, fi_pr47, fi_pr54, fg_pr42, fg_pr44, lay_pr, nb_pr, pa1_pr, if_pr, r_ray_pr, r_sby_pr, r_lit_pr, r_may_pr, q_fst_pr, h_L_pr, h_m_pr, h_ho_pr, q_wishes0_pr, s_w_pr, v_pa_pr, i_row_pr, z_wr_pr, q_wr_pr] <;> rfl
set_option maxHeartbeats 400000 in
theorem z_board_pr (Z : x_I) (a c u v w h : Int32) : z_board (m_pr Z) a c u v w h = m_pr (z_board Z a c u v w h) := by
  unfold z_board
  simp only [u2_pr39, u2_pr40, u2_pr41, u2_pr42, u2_pr43, u2_pr44, u2_pr45, u2_pr46, u2_pr47, u2_pr53, u2_pr54, fi_pr42, fi_pr44, fi_pr47, fi_pr54, fg_pr42, fg_pr44, lay_pr, nb_pr, pa1_pr, if_pr, r_ray_pr, r_sby_pr, r_lit_pr, r_may_pr, q_fst_pr, h_L_pr, h_m_pr, h_ho_pr, q_wishes0_pr, s_w_pr, v_pa_pr, i_row_pr, z_wr_pr, q_wr_pr] <;> rfl
set_option maxHeartbeats 400000 in
theorem z_eye_pr (Z : x_I) (e x y z : Int32) : z_eye (m_pr Z) e x y z = m_pr (z_eye Z e x y z) := by
  unfold z_eye
  simp only [u2_pr39, u2_pr40, u2_pr41, u2_pr42, u2_pr43, u2_pr44, u2_pr45, u2_pr46, u2_pr47, u2_pr53, u2_pr54, fi_pr42, fi_pr44, fi_pr47, fi_pr54, fg_pr42, fg_pr44, lay_pr, nb_pr, pa1_pr, if_pr, r_ray_pr, r_sby_pr, r_lit_pr, r_may_pr, q_fst_pr, h_L_pr, h_m_pr, h_ho_pr, q_wishes0_pr, s_w_pr, v_pa_pr, i_row_pr, z_wr_pr, q_wr_pr] <;> rfl
set_option maxHeartbeats 400000 in
theorem z_wish_pr (Z : x_I) (e : Int32) : z_wish (m_pr Z) e = m_pr (z_wish Z e) := by
  unfold z_wish
  simp only [u2_pr39, u2_pr40, u2_pr41, u2_pr42, u2_pr43, u2_pr44, u2_pr45, u2_pr46, u2_pr47, u2_pr53, u2_pr54, fi_pr42, fi_pr44, fi_pr47, fi_pr54, fg_pr42, fg_pr44, lay_pr, nb_pr, pa1_pr, if_pr, r_ray_pr, r_sby_pr, r_lit_pr, r_may_pr, q_fst_pr, h_L_pr, h_m_pr, h_ho_pr, q_wishes0_pr, s_w_pr, v_pa_pr, i_row_pr, z_wr_pr, q_wr_pr] <;> rfl
set_option maxHeartbeats 400000 in
theorem z_picture_pr (Z : x_I) (e s l i : Int32) : z_picture (m_pr Z) e s l i = m_pr (z_picture Z e s l i) := by
  unfold z_picture
  simp only [u2_pr39, u2_pr40, u2_pr41, u2_pr42, u2_pr43, u2_pr44, u2_pr45, u2_pr46, u2_pr47, u2_pr53, u2_pr54, fi_pr42, fi_pr44, fi_pr47, fi_pr54, fg_pr42, fg_pr44, lay_pr, nb_pr, pa1_pr, if_pr, r_ray_pr, r_sby_pr, r_lit_pr, r_may_pr, q_fst_pr, h_L_pr, h_m_pr, h_ho_pr, q_wishes0_pr, s_w_pr, v_pa_pr, i_row_pr, z_wr_pr, q_wr_pr, z_pic2_pr] <;> rfl
set_option maxHeartbeats 400000 in
theorem z_paint_pr (Z : x_I) (s c v : Int32) : z_paint (m_pr Z) s c v = m_pr (z_paint Z s c v) := by
  unfold z_paint
  simp only [u2_pr39, u2_pr40, u2_pr41, u2_pr42, u2_pr43, u2_pr44, u2_pr45, u2_pr46, u2_pr47, u2_pr53, u2_pr54, fi_pr42, fi_pr44, fi_pr47, fi_pr54, fg_pr42, fg_pr44, lay_pr, nb_pr, pa1_pr, if_pr, r_ray_pr, r_sby_pr, r_lit_pr, r_may_pr, q_fst_pr, h_L_pr, h_m_pr, h_ho_pr, q_wishes0_pr, s_w_pr, v_pa_pr, i_row_pr, z_wr_pr, q_wr_pr] <;> rfl
set_option maxHeartbeats 400000 in
theorem z_sheet_pr (Z : x_I) (k l m : Int32) : z_sheet (m_pr Z) k l m = m_pr (z_sheet Z k l m) := by
  unfold z_sheet
  simp only [u2_pr39, u2_pr40, u2_pr41, u2_pr42, u2_pr43, u2_pr44, u2_pr45, u2_pr46, u2_pr47, u2_pr53, u2_pr54, fi_pr42, fi_pr44, fi_pr47, fi_pr54, fg_pr42, fg_pr44, lay_pr, nb_pr, pa1_pr, if_pr, r_ray_pr, r_sby_pr, r_lit_pr, r_may_pr, q_fst_pr, h_L_pr, h_m_pr, h_ho_pr, q_wishes0_pr, s_w_pr, v_pa_pr, i_row_pr, z_wr_pr, q_wr_pr] <;> rfl
set_option maxHeartbeats 400000 in
theorem z_lose_pr (Z : x_I) (k : Int32) : z_lose (m_pr Z) k = m_pr (z_lose Z k) := by
  unfold z_lose
  simp only [u2_pr39, u2_pr40, u2_pr41, u2_pr42, u2_pr43, u2_pr44, u2_pr45, u2_pr46, u2_pr47, u2_pr53, u2_pr54, fi_pr42, fi_pr44, fi_pr47, fi_pr54, fg_pr42, fg_pr44, lay_pr, nb_pr, pa1_pr, if_pr, r_ray_pr, r_sby_pr, r_lit_pr, r_may_pr, q_fst_pr, h_L_pr, h_m_pr, h_ho_pr, q_wishes0_pr, s_w_pr, v_pa_pr, i_row_pr, z_wr_pr, q_wr_pr] <;> rfl
set_option maxHeartbeats 400000 in
theorem z_put_pr (Z : x_I) (k i v : Int32) : z_put (m_pr Z) k i v = m_pr (z_put Z k i v) := by
  unfold z_put
  simp only [u2_pr39, u2_pr40, u2_pr41, u2_pr42, u2_pr43, u2_pr44, u2_pr45, u2_pr46, u2_pr47, u2_pr53, u2_pr54, fi_pr42, fi_pr44, fi_pr47, fi_pr54, fg_pr42, fg_pr44, lay_pr, nb_pr, pa1_pr, if_pr, r_ray_pr, r_sby_pr, r_lit_pr, r_may_pr, q_fst_pr, h_L_pr, h_m_pr, h_ho_pr, q_wishes0_pr, s_w_pr, v_pa_pr, i_row_pr, z_wr_pr, q_wr_pr] <;> rfl
set_option maxHeartbeats 400000 in
theorem z_at_pr (Z : x_I) (k i l : Int32) : z_at (m_pr Z) k i l = m_pr (z_at Z k i l) := by
  unfold z_at
  simp only [u2_pr39, u2_pr40, u2_pr41, u2_pr42, u2_pr43, u2_pr44, u2_pr45, u2_pr46, u2_pr47, u2_pr53, u2_pr54, fi_pr42, fi_pr44, fi_pr47, fi_pr54, fg_pr42, fg_pr44, lay_pr, nb_pr, pa1_pr, if_pr, r_ray_pr, r_sby_pr, r_lit_pr, r_may_pr, q_fst_pr, h_L_pr, h_m_pr, h_ho_pr, q_wishes0_pr, s_w_pr, v_pa_pr, i_row_pr, z_wr_pr, q_wr_pr] <;> rfl
set_option maxHeartbeats 400000 in
theorem z_as_pr (Z : x_I) (s k : Int32) : z_as (m_pr Z) s k = m_pr (z_as Z s k) := by
  unfold z_as
  simp only [u2_pr39, u2_pr40, u2_pr41, u2_pr42, u2_pr43, u2_pr44, u2_pr45, u2_pr46, u2_pr47, u2_pr53, u2_pr54, fi_pr42, fi_pr44, fi_pr47, fi_pr54, fg_pr42, fg_pr44, lay_pr, nb_pr, pa1_pr, if_pr, r_ray_pr, r_sby_pr, r_lit_pr, r_may_pr, q_fst_pr, h_L_pr, h_m_pr, h_ho_pr, q_wishes0_pr, s_w_pr, v_pa_pr, i_row_pr, z_wr_pr, q_wr_pr] <;> rfl
set_option maxHeartbeats 400000 in
theorem z_hour_pr (Z : x_I) (a b c : Int32) : z_hour (m_pr Z) a b c = m_pr (z_hour Z a b c) := by
  unfold z_hour
  simp only [u2_pr39, u2_pr40, u2_pr41, u2_pr42, u2_pr43, u2_pr44, u2_pr45, u2_pr46, u2_pr47, u2_pr53, u2_pr54, fi_pr42, fi_pr44, fi_pr47, fi_pr54, fg_pr42, fg_pr44, lay_pr, nb_pr, pa1_pr, if_pr, r_ray_pr, r_sby_pr, r_lit_pr, r_may_pr, q_fst_pr, h_L_pr, h_m_pr, h_ho_pr, q_wishes0_pr, s_w_pr, v_pa_pr, i_row_pr, z_wr_pr, q_wr_pr] <;> rfl
set_option maxHeartbeats 400000 in
theorem z_plate_pr (Z : x_I) (s : Int32) : z_plate (m_pr Z) s = m_pr (z_plate Z s) := by
  unfold z_plate
  simp only [u2_pr39, u2_pr40, u2_pr41, u2_pr42, u2_pr43, u2_pr44, u2_pr45, u2_pr46, u2_pr47, u2_pr53, u2_pr54, fi_pr42, fi_pr44, fi_pr47, fi_pr54, fg_pr42, fg_pr44, lay_pr, nb_pr, pa1_pr, if_pr, r_ray_pr, r_sby_pr, r_lit_pr, r_may_pr, q_fst_pr, h_L_pr, h_m_pr, h_ho_pr, q_wishes0_pr, s_w_pr, v_pa_pr, i_row_pr, z_wr_pr, q_wr_pr] <;> rfl
set_option maxHeartbeats 400000 in
theorem z_want_pr (Z : x_I) (t s c b : Int32) : z_want (m_pr Z) t s c b = m_pr (z_want Z t s c b) := by
  unfold z_want
  simp only [u2_pr39, u2_pr40, u2_pr41, u2_pr42, u2_pr43, u2_pr44, u2_pr45, u2_pr46, u2_pr47, u2_pr53, u2_pr54, fi_pr42, fi_pr44, fi_pr47, fi_pr54, fg_pr42, fg_pr44, lay_pr, nb_pr, pa1_pr, if_pr, r_ray_pr, r_sby_pr, r_lit_pr, r_may_pr, q_fst_pr, h_L_pr, h_m_pr, h_ho_pr, q_wishes0_pr, s_w_pr, v_pa_pr, i_row_pr, z_wr_pr, q_wr_pr] <;> rfl
set_option maxHeartbeats 400000 in
theorem z_wanted_pr (Z : x_I) (t s l i m : Int32) : z_wanted (m_pr Z) t s l i m = m_pr (z_wanted Z t s l i m) := by
  unfold z_wanted
  simp only [u2_pr39, u2_pr40, u2_pr41, u2_pr42, u2_pr43, u2_pr44, u2_pr45, u2_pr46, u2_pr47, u2_pr53, u2_pr54, fi_pr42, fi_pr44, fi_pr47, fi_pr54, fg_pr42, fg_pr44, lay_pr, nb_pr, pa1_pr, if_pr, r_ray_pr, r_sby_pr, r_lit_pr, r_may_pr, q_fst_pr, h_L_pr, h_m_pr, h_ho_pr, q_wishes0_pr, s_w_pr, v_pa_pr, i_row_pr, z_wr_pr, q_wr_pr, z_wan1_pr] <;> rfl
set_option maxHeartbeats 400000 in
theorem z_many_pr (Z : x_I) (w : Int32) : z_many (m_pr Z) w = m_pr (z_many Z w) := by
  unfold z_many
  simp only [u2_pr39, u2_pr40, u2_pr41, u2_pr42, u2_pr43, u2_pr44, u2_pr45, u2_pr46, u2_pr47, u2_pr53, u2_pr54, fi_pr42, fi_pr44, fi_pr47, fi_pr54, fg_pr42, fg_pr44, lay_pr, nb_pr, pa1_pr, if_pr, r_ray_pr, r_sby_pr, r_lit_pr, r_may_pr, q_fst_pr, h_L_pr, h_m_pr, h_ho_pr, q_wishes0_pr, s_w_pr, v_pa_pr, i_row_pr, z_wr_pr, q_wr_pr] <;> rfl
set_option maxHeartbeats 400000 in
theorem z_wishes_pr (Z : x_I) (s w : Int32) : z_wishes (m_pr Z) s w = m_pr (z_wishes Z s w) := by
  unfold z_wishes
  simp only [u2_pr39, u2_pr40, u2_pr41, u2_pr42, u2_pr43, u2_pr44, u2_pr45, u2_pr46, u2_pr47, u2_pr53, u2_pr54, fi_pr42, fi_pr44, fi_pr47, fi_pr54, fg_pr42, fg_pr44, lay_pr, nb_pr, pa1_pr, if_pr, r_ray_pr, r_sby_pr, r_lit_pr, r_may_pr, q_fst_pr, h_L_pr, h_m_pr, h_ho_pr, q_wishes0_pr, s_w_pr, v_pa_pr, i_row_pr, z_wr_pr, q_wr_pr] <;> rfl
set_option maxHeartbeats 400000 in
theorem z_painting_pr (Z : x_I) (s : Int32) : z_painting (m_pr Z) s = m_pr (z_painting Z s) := by
  unfold z_painting
  simp only [u2_pr39, u2_pr40, u2_pr41, u2_pr42, u2_pr43, u2_pr44, u2_pr45, u2_pr46, u2_pr47, u2_pr53, u2_pr54, fi_pr42, fi_pr44, fi_pr47, fi_pr54, fg_pr42, fg_pr44, lay_pr, nb_pr, pa1_pr, if_pr, r_ray_pr, r_sby_pr, r_lit_pr, r_may_pr, q_fst_pr, h_L_pr, h_m_pr, h_ho_pr, q_wishes0_pr, s_w_pr, v_pa_pr, i_row_pr, z_wr_pr, q_wr_pr] <;> rfl
set_option maxHeartbeats 400000 in
theorem z_idle_pr (Z : x_I) (s : Int32) : z_idle (m_pr Z) s = m_pr (z_idle Z s) := by
  unfold z_idle
  simp only [u2_pr39, u2_pr40, u2_pr41, u2_pr42, u2_pr43, u2_pr44, u2_pr45, u2_pr46, u2_pr47, u2_pr53, u2_pr54, fi_pr42, fi_pr44, fi_pr47, fi_pr54, fg_pr42, fg_pr44, lay_pr, nb_pr, pa1_pr, if_pr, r_ray_pr, r_sby_pr, r_lit_pr, r_may_pr, q_fst_pr, h_L_pr, h_m_pr, h_ho_pr, q_wishes0_pr, s_w_pr, v_pa_pr, i_row_pr, z_wr_pr, q_wr_pr] <;> rfl
set_option maxHeartbeats 400000 in
theorem z_sway_pr (Z : x_I) (e d w : Int32) : z_sway (m_pr Z) e d w = m_pr (z_sway Z e d w) := by
  unfold z_sway
  simp only [u2_pr39, u2_pr40, u2_pr41, u2_pr42, u2_pr43, u2_pr44, u2_pr45, u2_pr46, u2_pr47, u2_pr53, u2_pr54, fi_pr42, fi_pr44, fi_pr47, fi_pr54, fg_pr42, fg_pr44, lay_pr, nb_pr, pa1_pr, if_pr, r_ray_pr, r_sby_pr, r_lit_pr, r_may_pr, q_fst_pr, h_L_pr, h_m_pr, h_ho_pr, q_wishes0_pr, s_w_pr, v_pa_pr, i_row_pr, z_wr_pr, q_wr_pr] <;> rfl
theorem q_painting_pr (Z : x_I) (s : Int32) : q_painting (m_pr Z) s = q_painting Z s := by
  unfold q_painting
  rw [z_painting_pr]
  rfl
