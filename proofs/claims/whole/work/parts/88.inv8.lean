section VVJ8
variable {S : SP} {N : Nat}
theorem j2_slit {x : Int32} (J : J2 S) : J2 (op_slit S x).2.2 := by
  unfold op_slit; repeat' split
  all_goals first | exact J | exact J.te rfl rfl rfl
theorem j2_air {x : Int32} (J : J2 S) : J2 (op_air S x).2.2 := by
  unfold op_air; repeat' split
  all_goals first | exact J | exact J.te rfl rfl rfl
theorem j2_scrape {x a : Int32} (J : J2 S) : J2 (op_scrape S x a).2.2 := by
  unfold op_scrape; repeat' split
  all_goals first | exact J | exact J.te rfl rfl rfl
theorem j2_pad {x a : Int32} (J : J2 S) : J2 (op_pad S x a).2.2 := by
  unfold op_pad; repeat' split
  all_goals first | exact J | exact J.te rfl rfl rfl
theorem j2_press {x w mi wa : Int32} (J : J2 S) : J2 (op_press S x w mi wa).2.2 := by
  unfold op_press; repeat' split
  all_goals first | exact J | exact J.te rfl rfl rfl
theorem j2_sand {x fd dg sc : Int32} (J : J2 S) : J2 (op_sand S x fd dg sc).2.2 := by
  unfold op_sand; repeat' split
  all_goals first | exact J | exact J.te rfl rfl rfl
theorem j2_rest (J : J2 S) : J2 (op_rest S).2 := J.te (rs_te S (by decide) _).2.1 (by show (rs_ S _).2.1 5 = _; rw [rs_2]) (by show (rs_ S _).2.2 = _; rw [rs_2])
theorem j2_draw {x a b m c : Int32} {pp ii : Nat} (J : J2 S) : J2 (op_draw S x a b m c pp ii).2.2 := by
  unfold op_draw; repeat' split
  all_goals first | exact J | exact J.te (dp_te _ _ _ _ (by decide) _).2.1 ((c_ne (by omega)).trans (c_ne (by omega))) rfl
theorem j2_log {a b c d : Int32} (J : J2 S) : J2 (op_log S a b c d).2.2 := by
  unfold op_log; repeat' split
  all_goals first | exact J | exact J.te (nw_log_te S _ _ _ _ (by decide)).2.1 (c_ne (by decide)) rfl
theorem j2_panel {a b c d : Int32} (J : J2 S) (z : nn_ S 2 ≤ 8) : J2 (op_panel S a b c d).2.2 := by
  unfold op_panel; repeat' split
  all_goals first | exact J | exact J.te (nw_pan_te S _ _ _ _ (by decide)).2.1 ((c_ne (by omega)).trans (c_ne (by decide))) rfl
theorem j2_slice {x way t : Int32} (J : J2 S) : J2 (op_slice S x way t).2.2 := by
  unfold op_slice; repeat' split
  all_goals first | exact J | exact J.te (nw_fl_te S _ _ _ (by decide) (by decide) (by decide)).2.1 (c_ne (by decide)) rfl
theorem j2_picture (J : J2 S) : J2 (op_picture S).2.2 := by
  unfold op_picture; repeat' split
  all_goals first | exact J | exact J.te (nw_pic_te S (by decide) (by decide) (by decide)).2.1 ((c_ne (by omega)).trans ((c_ne (by omega)).trans (c_ne (by decide)))) rfl
/-- the first state -/
def s_0 : SP := ((fun _ _ => false, fun _ _ => 0, fun t _ k => if t = 40 ∧ k = 11 then 8 else 0, fun _ _ _ => (0, 0), fun _ _ _ => 0, fun _ _ _ => 0), fun _ => 0, fun _ => 0)
theorem iv_0 : Iv s_0 0 :=
  ⟨⟨Nat.zero_le _, rfl, Nat.zero_le _, Nat.zero_le _, Nat.zero_le _, Nat.le_refl _⟩, fun i h => absurd h (Nat.not_lt_zero i), fun i h => absurd h (Nat.not_lt_zero i), fun i h => absurd h (Nat.not_lt_zero i), fun i h => absurd h (Nat.not_lt_zero i), ⟨fun _ _ => rfl, fun _ _ => ⟨rfl, rfl⟩, fun _ _ => ⟨rfl, rfl, rfl⟩, fun _ _ => ⟨rfl, rfl, rfl, rfl⟩, fun _ _ => rfl, fun k h => absurd h (Nat.not_lt_zero k)⟩, by show (0 : Int32) = _; rfl, fun f l h => absurd h (Nat.not_lt_zero f)⟩
theorem j2_0 : J2 s_0 := fun k h => absurd h (Nat.not_lt_zero k)
/-- a new list in a new object's slot -/
theorem q_l.nw {h : PH} {o i t ta : Nat} {f : Nat → RN} (h10 : 10 ≤ t) (ht : ta ≠ t) (hto : t ≠ o) (h5 : hp_al h 5 0 = true) (h50 : hp_ln h 5 0 = 0) (hfr : fr_t h ta) (t5 : t ≠ 5) : q_l (nl_ h o i t) t ta 0 f := by
  refine ⟨0, ?_⟩
  have L : is_L (hp_setr (hp_seti (hp_new h t 0 0) t 0 0 0) t 0 1 (5, 0)) t 0 ta 0 0 f := is_L.init h10 ht (if_pos ⟨rfl, rfl⟩) (if_pos ⟨rfl, rfl⟩) ((if_neg (fun z => t5 z.1.symm)).trans h5) ((if_neg (fun z => t5 z.1.symm)).trans h50) (fr_t.n (n := 0) hfr)
  obtain ⟨a1, a2, a3, ⟨a, j, b1, b2, b3, b4, b5⟩, a5⟩ := L
  exact ⟨a1, a2, a3, ⟨a, j, (hp_setr_ne (fun z => hto z.1)).trans b1, b2, b3, fun k hk => absurd hk (Nat.not_lt_zero k), b5⟩, a5⟩
theorem nl_te {h : PH} {o i t u : Nat} (h1 : ¬ u = o) (h2 : ¬ u = t) : hp_te h (nl_ h o i t) u := (((hp_te.n h2).tr (hp_te.i h2)).tr (hp_te.r h2)).tr (hp_te.r h1)
end VVJ8
