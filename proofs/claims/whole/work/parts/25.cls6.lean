theorem q_l.le {h : PH} {tl ta n : Nat} {f : Nat → RN} (q : q_l h tl ta n f) : n ≤ 1000 := by
  obtain ⟨cap, -, -, ⟨q1, q2⟩, -⟩ := q
  omega
set_option maxRecDepth 20000 in
theorem C_X6_logOf {G : GW} {h : PH} {Q : RS → PH → Prop} {S : SP} {x : Int32} (R0 : q1_0 S h) (RL : q1_L S h) (hE : ¬ ok_i x (nn_ S 0) → Q (.inr "java/lang/IndexOutOfBoundsException") h) (hq : ok_i x (nn_ S 0) → Q (.inl (some (pv_O (11, cl_ x)))) h) : VV G 6 1 6 yX6_logOf cX6_logOf 2 (some (.object "VeneerLoft$Log")) [] 0 (vv_en 2 [pv_O (10, 0), pv_I x]) [] h Q := by
  show VV G 6 1 6 yX6_logOf cX6_logOf 2 (some (.object "VeneerLoft$Log")) [] 0 [some (pv_O (10, 0)), some (pv_I x)] [] h Q
  have hn := RL.1.le
  obtain ⟨cap, L0⟩ := RL.1
  refine v_iload_n 1 dX6_logOf_0 rfl rfl ?_
  refine v_if_lt 15 4 dX6_logOf_1 (by decide) rfl (fun c1 => ?_) (fun c1 => ?_)
  · refine v_throw dX6_logOf_15 dX6_logOf_18 dX6_logOf_19 dX6_logOf_22 rfl th_X6_343_345 rfl (by decide) (by decide) (by decide) ?_
    exact hE (fun q => absurd q.1 (Int32.not_le.mpr c1))
  · have c1 := Int32.not_lt.mp c1
    refine v_iload_n 5 dX6_logOf_4 rfl rfl ?_
    refine v_aload_n 6 dX6_logOf_5 rfl rfl ?_
    refine v_getfr 9 dX6_logOf_6 fl_X6_10 (by first | assumption | rfl) (by rfl) rfl ?_
    rw [R0.1.2.1]
    refine v_invv (d' := 0) (k' := 0) (n' := 0) (k2 := 1) (n2 := 6) 12 [] dX6_logOf_9 mt_X6_47 mi_Jx4a65c_size_8abf5 me_Jx4a65c_size_8abf5 (by first | assumption | rfl) (by rfl) rfl rfl (of_decide_eq_true rfl) rfl (by decide) rfl rfl rfl rfl (C_Jx4a65c_size_8abf5 (tl := 20) (ta := 25) rfl rfl L0 ?_)
    refine v_icmp_lt 23 15 dX6_logOf_12 (by decide) rfl (fun c12 => ?_) (fun c12 => ?_)
    · have ho : ok_i x (nn_ S 0) := ⟨c1, c12⟩
      have hc := ho.cl (by omega)
      refine v_aload_n 24 dX6_logOf_23 rfl rfl ?_
      refine v_getfr 27 dX6_logOf_24 fl_X6_10 (by first | assumption | rfl) (by rfl) rfl ?_
      rw [R0.1.2.1]
      refine v_iload_n 28 dX6_logOf_27 rfl rfl ?_
      rw [← hc.2]
      refine v_invv (d' := 2) (k' := 0) (n' := 0) (k2 := 1) (n2 := 6) 31 [_] dX6_logOf_28 mt_X6_216 mi_Jx4a65c_get_915e3 me_Jx4a65c_get_915e3 (by first | assumption | rfl) (by rfl) rfl rfl (of_decide_eq_true rfl) rfl (by decide) rfl rfl rfl rfl (C_Jx4a65c_get_915e3 (tl := 20) (ta := 25) rfl rfl L0 hc.1 ?_)
      refine v_cast 34 dX6_logOf_31 ⟨_, _, rfl, rfl, cl_X6_54⟩ rfl ?_
      refine v_areturn dX6_logOf_34 rfl (Or.inl ⟨_, rfl⟩) ?_
      first | exact hq ho | exact hc.2 ▸ hq ho
    · refine v_throw dX6_logOf_15 dX6_logOf_18 dX6_logOf_19 dX6_logOf_22 rfl th_X6_343_345 rfl (by decide) (by decide) (by decide) ?_
      exact hE (fun q => c12 q.2)
set_option maxRecDepth 20000 in
theorem C_X6_flitchOf {G : GW} {h : PH} {Q : RS → PH → Prop} {S : SP} {x : Int32} (R0 : q1_0 S h) (RL : q1_L S h) (hE : ¬ ok_i x (nn_ S 1) → Q (.inr "java/lang/IndexOutOfBoundsException") h) (hq : ok_i x (nn_ S 1) → Q (.inl (some (pv_O (12, cl_ x)))) h) : VV G 6 1 6 yX6_flitchOf cX6_flitchOf 2 (some (.object "VeneerLoft$Flitch")) [] 0 (vv_en 2 [pv_O (10, 0), pv_I x]) [] h Q := by
  show VV G 6 1 6 yX6_flitchOf cX6_flitchOf 2 (some (.object "VeneerLoft$Flitch")) [] 0 [some (pv_O (10, 0)), some (pv_I x)] [] h Q
  have hn := RL.2.1.le
  obtain ⟨cap, L0⟩ := RL.2.1
  refine v_iload_n 1 dX6_flitchOf_0 rfl rfl ?_
  refine v_if_lt 15 4 dX6_flitchOf_1 (by decide) rfl (fun c1 => ?_) (fun c1 => ?_)
  · refine v_throw dX6_flitchOf_15 dX6_flitchOf_18 dX6_flitchOf_19 dX6_flitchOf_22 rfl th_X6_343_345 rfl (by decide) (by decide) (by decide) ?_
    exact hE (fun q => absurd q.1 (Int32.not_le.mpr c1))
  · have c1 := Int32.not_lt.mp c1
    refine v_iload_n 5 dX6_flitchOf_4 rfl rfl ?_
    refine v_aload_n 6 dX6_flitchOf_5 rfl rfl ?_
    refine v_getfr 9 dX6_flitchOf_6 fl_X6_16 (by first | assumption | rfl) (by rfl) rfl ?_
    rw [R0.1.2.2.1]
    refine v_invv (d' := 0) (k' := 0) (n' := 0) (k2 := 1) (n2 := 6) 12 [] dX6_flitchOf_9 mt_X6_47 mi_Jx4a65c_size_8abf5 me_Jx4a65c_size_8abf5 (by first | assumption | rfl) (by rfl) rfl rfl (of_decide_eq_true rfl) rfl (by decide) rfl rfl rfl rfl (C_Jx4a65c_size_8abf5 (tl := 21) (ta := 26) rfl rfl L0 ?_)
    refine v_icmp_lt 23 15 dX6_flitchOf_12 (by decide) rfl (fun c12 => ?_) (fun c12 => ?_)
    · have ho : ok_i x (nn_ S 1) := ⟨c1, c12⟩
      have hc := ho.cl (by omega)
      refine v_aload_n 24 dX6_flitchOf_23 rfl rfl ?_
      refine v_getfr 27 dX6_flitchOf_24 fl_X6_16 (by first | assumption | rfl) (by rfl) rfl ?_
      rw [R0.1.2.2.1]
      refine v_iload_n 28 dX6_flitchOf_27 rfl rfl ?_
      rw [← hc.2]
      refine v_invv (d' := 2) (k' := 0) (n' := 0) (k2 := 1) (n2 := 6) 31 [_] dX6_flitchOf_28 mt_X6_216 mi_Jx4a65c_get_915e3 me_Jx4a65c_get_915e3 (by first | assumption | rfl) (by rfl) rfl rfl (of_decide_eq_true rfl) rfl (by decide) rfl rfl rfl rfl (C_Jx4a65c_get_915e3 (tl := 21) (ta := 26) rfl rfl L0 hc.1 ?_)
      refine v_cast 34 dX6_flitchOf_31 ⟨_, _, rfl, rfl, cl_X6_76⟩ rfl ?_
      refine v_areturn dX6_flitchOf_34 rfl (Or.inl ⟨_, rfl⟩) ?_
      first | exact hq ho | exact hc.2 ▸ hq ho
    · refine v_throw dX6_flitchOf_15 dX6_flitchOf_18 dX6_flitchOf_19 dX6_flitchOf_22 rfl th_X6_343_345 rfl (by decide) (by decide) (by decide) ?_
      exact hE (fun q => c12 q.2)
set_option maxRecDepth 20000 in
theorem C_X6_panelOf {G : GW} {h : PH} {Q : RS → PH → Prop} {S : SP} {x : Int32} (R0 : q1_0 S h) (RL : q1_L S h) (hE : ¬ ok_i x (nn_ S 2) → Q (.inr "java/lang/IndexOutOfBoundsException") h) (hq : ok_i x (nn_ S 2) → Q (.inl (some (pv_O (13, cl_ x)))) h) : VV G 6 1 6 yX6_panelOf cX6_panelOf 2 (some (.object "VeneerLoft$Panel")) [] 0 (vv_en 2 [pv_O (10, 0), pv_I x]) [] h Q := by
  show VV G 6 1 6 yX6_panelOf cX6_panelOf 2 (some (.object "VeneerLoft$Panel")) [] 0 [some (pv_O (10, 0)), some (pv_I x)] [] h Q
  have hn := RL.2.2.1.le
  obtain ⟨cap, L0⟩ := RL.2.2.1
  refine v_iload_n 1 dX6_panelOf_0 rfl rfl ?_
  refine v_if_lt 15 4 dX6_panelOf_1 (by decide) rfl (fun c1 => ?_) (fun c1 => ?_)
  · refine v_throw dX6_panelOf_15 dX6_panelOf_18 dX6_panelOf_19 dX6_panelOf_22 rfl th_X6_343_345 rfl (by decide) (by decide) (by decide) ?_
    exact hE (fun q => absurd q.1 (Int32.not_le.mpr c1))
  · have c1 := Int32.not_lt.mp c1
    refine v_iload_n 5 dX6_panelOf_4 rfl rfl ?_
    refine v_aload_n 6 dX6_panelOf_5 rfl rfl ?_
    refine v_getfr 9 dX6_panelOf_6 fl_X6_19 (by first | assumption | rfl) (by rfl) rfl ?_
    rw [R0.1.2.2.2.1]
    refine v_invv (d' := 0) (k' := 0) (n' := 0) (k2 := 1) (n2 := 6) 12 [] dX6_panelOf_9 mt_X6_47 mi_Jx4a65c_size_8abf5 me_Jx4a65c_size_8abf5 (by first | assumption | rfl) (by rfl) rfl rfl (of_decide_eq_true rfl) rfl (by decide) rfl rfl rfl rfl (C_Jx4a65c_size_8abf5 (tl := 22) (ta := 27) rfl rfl L0 ?_)
    refine v_icmp_lt 23 15 dX6_panelOf_12 (by decide) rfl (fun c12 => ?_) (fun c12 => ?_)
    · have ho : ok_i x (nn_ S 2) := ⟨c1, c12⟩
      have hc := ho.cl (by omega)
      refine v_aload_n 24 dX6_panelOf_23 rfl rfl ?_
      refine v_getfr 27 dX6_panelOf_24 fl_X6_19 (by first | assumption | rfl) (by rfl) rfl ?_
      rw [R0.1.2.2.2.1]
      refine v_iload_n 28 dX6_panelOf_27 rfl rfl ?_
      rw [← hc.2]
      refine v_invv (d' := 2) (k' := 0) (n' := 0) (k2 := 1) (n2 := 6) 31 [_] dX6_panelOf_28 mt_X6_216 mi_Jx4a65c_get_915e3 me_Jx4a65c_get_915e3 (by first | assumption | rfl) (by rfl) rfl rfl (of_decide_eq_true rfl) rfl (by decide) rfl rfl rfl rfl (C_Jx4a65c_get_915e3 (tl := 22) (ta := 27) rfl rfl L0 hc.1 ?_)
      refine v_cast 34 dX6_panelOf_31 ⟨_, _, rfl, rfl, cl_X6_108⟩ rfl ?_
      refine v_areturn dX6_panelOf_34 rfl (Or.inl ⟨_, rfl⟩) ?_
      first | exact hq ho | exact hc.2 ▸ hq ho
    · refine v_throw dX6_panelOf_15 dX6_panelOf_18 dX6_panelOf_19 dX6_panelOf_22 rfl th_X6_343_345 rfl (by decide) (by decide) (by decide) ?_
      exact hE (fun q => c12 q.2)
set_option maxRecDepth 20000 in
theorem C_X6_pictureOf {G : GW} {h : PH} {Q : RS → PH → Prop} {S : SP} {x : Int32} (R0 : q1_0 S h) (RL : q1_L S h) (hE : ¬ ok_i x (nn_ S 3) → Q (.inr "java/lang/IndexOutOfBoundsException") h) (hq : ok_i x (nn_ S 3) → Q (.inl (some (pv_O (14, cl_ x)))) h) : VV G 6 1 6 yX6_pictureOf cX6_pictureOf 2 (some (.object "VeneerLoft$Picture")) [] 0 (vv_en 2 [pv_O (10, 0), pv_I x]) [] h Q := by
  show VV G 6 1 6 yX6_pictureOf cX6_pictureOf 2 (some (.object "VeneerLoft$Picture")) [] 0 [some (pv_O (10, 0)), some (pv_I x)] [] h Q
  have hn := RL.2.2.2.1.le
  obtain ⟨cap, L0⟩ := RL.2.2.2.1
  refine v_iload_n 1 dX6_pictureOf_0 rfl rfl ?_
  refine v_if_lt 15 4 dX6_pictureOf_1 (by decide) rfl (fun c1 => ?_) (fun c1 => ?_)
  · refine v_throw dX6_pictureOf_15 dX6_pictureOf_18 dX6_pictureOf_19 dX6_pictureOf_22 rfl th_X6_343_345 rfl (by decide) (by decide) (by decide) ?_
    exact hE (fun q => absurd q.1 (Int32.not_le.mpr c1))
  · have c1 := Int32.not_lt.mp c1
    refine v_iload_n 5 dX6_pictureOf_4 rfl rfl ?_
    refine v_aload_n 6 dX6_pictureOf_5 rfl rfl ?_
    refine v_getfr 9 dX6_pictureOf_6 fl_X6_22 (by first | assumption | rfl) (by rfl) rfl ?_
    rw [R0.1.2.2.2.2.1]
    refine v_invv (d' := 0) (k' := 0) (n' := 0) (k2 := 1) (n2 := 6) 12 [] dX6_pictureOf_9 mt_X6_47 mi_Jx4a65c_size_8abf5 me_Jx4a65c_size_8abf5 (by first | assumption | rfl) (by rfl) rfl rfl (of_decide_eq_true rfl) rfl (by decide) rfl rfl rfl rfl (C_Jx4a65c_size_8abf5 (tl := 23) (ta := 28) rfl rfl L0 ?_)
    refine v_icmp_lt 23 15 dX6_pictureOf_12 (by decide) rfl (fun c12 => ?_) (fun c12 => ?_)
    · have ho : ok_i x (nn_ S 3) := ⟨c1, c12⟩
      have hc := ho.cl (by omega)
      refine v_aload_n 24 dX6_pictureOf_23 rfl rfl ?_
      refine v_getfr 27 dX6_pictureOf_24 fl_X6_22 (by first | assumption | rfl) (by rfl) rfl ?_
      rw [R0.1.2.2.2.2.1]
      refine v_iload_n 28 dX6_pictureOf_27 rfl rfl ?_
      rw [← hc.2]
      refine v_invv (d' := 2) (k' := 0) (n' := 0) (k2 := 1) (n2 := 6) 31 [_] dX6_pictureOf_28 mt_X6_216 mi_Jx4a65c_get_915e3 me_Jx4a65c_get_915e3 (by first | assumption | rfl) (by rfl) rfl rfl (of_decide_eq_true rfl) rfl (by decide) rfl rfl rfl rfl (C_Jx4a65c_get_915e3 (tl := 23) (ta := 28) rfl rfl L0 hc.1 ?_)
      refine v_cast 34 dX6_pictureOf_31 ⟨_, _, rfl, rfl, cl_X6_226⟩ rfl ?_
      refine v_areturn dX6_pictureOf_34 rfl (Or.inl ⟨_, rfl⟩) ?_
      first | exact hq ho | exact hc.2 ▸ hq ho
    · refine v_throw dX6_pictureOf_15 dX6_pictureOf_18 dX6_pictureOf_19 dX6_pictureOf_22 rfl th_X6_343_345 rfl (by decide) (by decide) (by decide) ?_
      exact hE (fun q => c12 q.2)
/-- a flitch with these leaves -/
abbrev ok_r_ (S : SP) (x a m : Int32) : Prop := ok_i x (nn_ S 1) ∧ ok_i a (s_n S (cl_ x)) ∧ m ≤ nI (s_n S (cl_ x)) - a
set_option maxRecDepth 20000 in
theorem C_X6_flitchWithLeaves {G : GW} {h : PH} {Q : RS → PH → Prop} {S : SP} {x a m : Int32} (R0 : q1_0 S h) (RL : q1_L S h) (R2 : q1_2 S h) (hE : ¬ ok_r_ S x a m → Q (.inr "java/lang/IndexOutOfBoundsException") h) (hq : ok_r_ S x a m → Q (.inl (some (pv_O (12, cl_ x)))) h) : VV G 7 2 12 yX6_flitchWithLeaves cX6_flitchWithLeaves 5 (some (.object "VeneerLoft$Flitch")) [] 0 (vv_en 5 [pv_O (10, 0), pv_I x, pv_I a, pv_I m]) [] h Q := by
  show VV G 7 2 12 yX6_flitchWithLeaves cX6_flitchWithLeaves 5 (some (.object "VeneerLoft$Flitch")) [] 0 [some (pv_O (10, 0)), some (pv_I x), some (pv_I a), some (pv_I m), none] [] h Q
  have hn := RL.2.1.le
  refine v_aload_n 1 dX6_flitchWithLeaves_0 rfl rfl ?_
  refine v_iload_n 2 dX6_flitchWithLeaves_1 rfl rfl ?_
  refine v_invv (d' := 6) (k' := 1) (n' := 6) (k2 := 1) (n2 := 6) 5 [_] dX6_flitchWithLeaves_2 mt_X6_81 mi_X6_flitchOf me_X6_flitchOf (by first | assumption | rfl) (by rfl) rfl rfl (of_decide_eq_true rfl) rfl (by decide) rfl rfl rfl rfl (C_X6_flitchOf R0 RL (fun e => ?_) (fun ho => ?_))
  · exact vv_out (hE (fun q => e q.1))
  have hc := ho.cl (by omega)
  have F := R2.1 _ hc.1
  have e3 := F.2.1.2.2.2.1
  refine v_astore 7 dX6_flitchWithLeaves_5 (by decide) rfl rfl ?_
  dsimp only [List.set]
  refine v_iload_n 8 dX6_flitchWithLeaves_7 rfl rfl ?_
  refine v_if_lt 31 11 dX6_flitchWithLeaves_8 (by decide) rfl (fun c8 => ?_) (fun c8 => ?_)
  · refine v_throw dX6_flitchWithLeaves_31 dX6_flitchWithLeaves_34 dX6_flitchWithLeaves_35 dX6_flitchWithLeaves_38 rfl th_X6_343_345 rfl (by decide) (by decide) (by decide) ?_
    refine hE (fun q => ?_)
    first | exact absurd q.2.1.1 (Int32.not_le.mpr c8) | exact absurd q.2.1.2 (Int32.not_lt.mpr c17) | exact c28 q.2.2
  · have c8 := Int32.not_lt.mp c8
    refine v_iload_n 12 dX6_flitchWithLeaves_11 rfl rfl ?_
    refine v_aload 14 dX6_flitchWithLeaves_12 rfl rfl ?_
    refine v_getfi 17 dX6_flitchWithLeaves_14 fl_X6_85 (by first | assumption | rfl) (by rfl) rfl ?_
    rw [e3]
    refine v_icmp_ge 31 20 dX6_flitchWithLeaves_17 (by decide) rfl (fun c17 => ?_) (fun c17 => ?_)
    · refine v_throw dX6_flitchWithLeaves_31 dX6_flitchWithLeaves_34 dX6_flitchWithLeaves_35 dX6_flitchWithLeaves_38 rfl th_X6_343_345 rfl (by decide) (by decide) (by decide) ?_
      refine hE (fun q => ?_)
      first | exact absurd q.2.1.1 (Int32.not_le.mpr c8) | exact absurd q.2.1.2 (Int32.not_lt.mpr c17) | exact c28 q.2.2
    · refine v_iload_n 21 dX6_flitchWithLeaves_20 rfl rfl ?_
      refine v_aload 23 dX6_flitchWithLeaves_21 rfl rfl ?_
      refine v_getfi 26 dX6_flitchWithLeaves_23 fl_X6_85 (by first | assumption | rfl) (by rfl) rfl ?_
      rw [e3]
      refine v_iload_n 27 dX6_flitchWithLeaves_26 rfl rfl ?_
      refine v_isub 28 dX6_flitchWithLeaves_27 rfl ?_
      refine v_icmp_le 39 31 dX6_flitchWithLeaves_28 (by decide) rfl (fun c28 => ?_) (fun c28 => ?_)
      · refine v_aload 41 dX6_flitchWithLeaves_39 rfl rfl ?_
        refine v_areturn dX6_flitchWithLeaves_41 rfl (Or.inl ⟨_, rfl⟩) ?_
        first | exact hq ⟨ho, ⟨c8, Int32.not_le.mp c17⟩, c28⟩
      · refine v_throw dX6_flitchWithLeaves_31 dX6_flitchWithLeaves_34 dX6_flitchWithLeaves_35 dX6_flitchWithLeaves_38 rfl th_X6_343_345 rfl (by decide) (by decide) (by decide) ?_
        refine hE (fun q => ?_)
        first | exact absurd q.2.1.1 (Int32.not_le.mpr c8) | exact absurd q.2.1.2 (Int32.not_lt.mpr c17) | exact c28 q.2.2
set_option maxRecDepth 20000 in
theorem C_X6_flitchWithLeaf {G : GW} {h : PH} {Q : RS → PH → Prop} {S : SP} {x a : Int32} (R0 : q1_0 S h) (RL : q1_L S h) (R2 : q1_2 S h) (hn : ∀ f, f < nn_ S 1 → s_n S f ≤ 24) (hE : ¬ (ok_i x (nn_ S 1) ∧ ok_i a (s_n S (cl_ x))) → Q (.inr "java/lang/IndexOutOfBoundsException") h) (hq : ok_i x (nn_ S 1) ∧ ok_i a (s_n S (cl_ x)) → Q (.inl (some (pv_O (12, cl_ x)))) h) : VV G 8 2 12 yX6_flitchWithLeaf cX6_flitchWithLeaf 3 (some (.object "VeneerLoft$Flitch")) [] 0 (vv_en 3 [pv_O (10, 0), pv_I x, pv_I a]) [] h Q := by
  show VV G 8 2 12 yX6_flitchWithLeaf cX6_flitchWithLeaf 3 (some (.object "VeneerLoft$Flitch")) [] 0 [some (pv_O (10, 0)), some (pv_I x), some (pv_I a)] [] h Q
  have hn9 := RL.2.1.le
  refine v_aload_n 1 dX6_flitchWithLeaf_0 rfl rfl ?_
  refine v_iload_n 2 dX6_flitchWithLeaf_1 rfl rfl ?_
  refine v_iload_n 3 dX6_flitchWithLeaf_2 rfl rfl ?_
  refine v_iconstv (v := 1) 4 dX6_flitchWithLeaf_3 (by decide) rfl ?_
  refine v_invv (d' := 7) (k' := 2) (n' := 12) (k2 := 0) (n2 := 0) 7 [_, _, _] dX6_flitchWithLeaf_4 mt_X6_117 mi_X6_flitchWithLeaves me_X6_flitchWithLeaves (by first | assumption | rfl) (by rfl) rfl rfl (of_decide_eq_true rfl) rfl (by decide) rfl rfl rfl rfl (C_X6_flitchWithLeaves R0 RL R2 (fun e => ?_) (fun ho => ?_))
  · refine vv_out (hE (fun q => e ⟨q.1, q.2, ?_⟩))
    have h24 := hn _ (q.1.cl (by omega)).1
    obtain ⟨j, hj, e9⟩ := q.2.nat (by omega)
    rw [e9, pk_sub (by omega)]
    exact nI_le (a := 1) (by omega) (by omega)
  refine v_areturn dX6_flitchWithLeaf_7 rfl (Or.inl ⟨_, rfl⟩) ?_
  exact hq ⟨ho.1, ho.2.1⟩
set_option maxRecDepth 20000 in
theorem C_X6_pressedOnly {G : GW} {h : PH} {Q : RS → PH → Prop} {S : SP} {p : Nat} (F : pn_1 S h p) (hE : hp_vi S.1 43 p 6 = 0 → Q (.inr "java/lang/UnsupportedOperationException") h) (hq : ¬ hp_vi S.1 43 p 6 = 0 → Q (.inl (some (pv_O (13, p)))) h) : VV G 6 1 6 yX6_pressedOnly cX6_pressedOnly 1 (some (.object "VeneerLoft$Panel")) [] 0 (vv_en 1 [pv_O (13, p)]) [] h Q := by
  show VV G 6 1 6 yX6_pressedOnly cX6_pressedOnly 1 (some (.object "VeneerLoft$Panel")) [] 0 [some (pv_O (13, p))] [] h Q
  refine v_aload_n 1 dX6_pressedOnly_0 rfl rfl ?_
  refine v_getfi 4 dX6_pressedOnly_1 fl_X6_162 (by first | assumption | rfl) (by rfl) rfl ?_
  rw [F.2.2.1.2.1]
  refine v_if_ne 15 7 dX6_pressedOnly_4 (by decide) rfl (fun c4 => ?_) (fun c4 => ?_)
  · refine v_aload_n 16 dX6_pressedOnly_15 rfl rfl ?_
    refine v_areturn dX6_pressedOnly_16 rfl (Or.inl ⟨_, rfl⟩) ?_
    exact hq c4
  · refine v_throw dX6_pressedOnly_7 dX6_pressedOnly_10 dX6_pressedOnly_11 dX6_pressedOnly_14 rfl th_X6_73_75 rfl (by decide) (by decide) (by decide) ?_
    exact hE c4
set_option maxRecDepth 20000 in
theorem C_X6_pictureWithPlace {G : GW} {h : PH} {Q : RS → PH → Prop} {S : SP} {x a b : Int32} (R0 : q1_0 S h) (RL : q1_L S h) (hE : ¬ (ok_i x (nn_ S 3) ∧ ((0 ≤ a ∧ a ≤ 7) ∧ (0 ≤ b ∧ b ≤ 7))) → Q (.inr "java/lang/IndexOutOfBoundsException") h) (hq : ok_i x (nn_ S 3) ∧ ((0 ≤ a ∧ a ≤ 7) ∧ (0 ≤ b ∧ b ≤ 7)) → Q (.inl (some (pv_O (14, cl_ x)))) h) : VV G 7 2 12 yX6_pictureWithPlace cX6_pictureWithPlace 5 (some (.object "VeneerLoft$Picture")) [] 0 (vv_en 5 [pv_O (10, 0), pv_I x, pv_I a, pv_I b]) [] h Q := by
  show VV G 7 2 12 yX6_pictureWithPlace cX6_pictureWithPlace 5 (some (.object "VeneerLoft$Picture")) [] 0 [some (pv_O (10, 0)), some (pv_I x), some (pv_I a), some (pv_I b), none] [] h Q
  refine v_aload_n 1 dX6_pictureWithPlace_0 rfl rfl ?_
  refine v_iload_n 2 dX6_pictureWithPlace_1 rfl rfl ?_
  refine v_invv (d' := 6) (k' := 1) (n' := 6) (k2 := 1) (n2 := 6) 5 [_] dX6_pictureWithPlace_2 mt_X6_229 mi_X6_pictureOf me_X6_pictureOf (by first | assumption | rfl) (by rfl) rfl rfl (of_decide_eq_true rfl) rfl (by decide) rfl rfl rfl rfl (C_X6_pictureOf R0 RL (fun e => ?_) (fun ho => ?_))
  · exact vv_out (hE (fun q => e q.1))
  refine v_astore 7 dX6_pictureWithPlace_5 (by decide) rfl rfl ?_
  dsimp only [List.set]
  refine v_iload_n 8 dX6_pictureWithPlace_7 rfl rfl ?_
  refine v_iload_n 9 dX6_pictureWithPlace_8 rfl rfl ?_
  refine v_invs (d' := 1) (k' := 0) (n' := 0) (k2 := 1) (n2 := 6) 12 [_, _] dX6_pictureWithPlace_9 mt_X6_233 ms_X6_isPlace rfl rfl (of_decide_eq_true rfl) rfl (by decide) rfl rfl rfl rfl (C_X6_isPlace ?_)
  refine v_if_ne 23 15 dX6_pictureWithPlace_12 (by decide) rfl (fun c12 => ?_) (fun c12 => ?_)
  · have c12 := Decidable.not_not.mp (fun q => c12 (f1_0.mpr q))
    refine v_aload 25 dX6_pictureWithPlace_23 rfl rfl ?_
    refine v_areturn dX6_pictureWithPlace_25 rfl (Or.inl ⟨_, rfl⟩) ?_
    exact hq ⟨ho, c12⟩
  · have c12 := f1_0.mp c12
    refine v_throw dX6_pictureWithPlace_15 dX6_pictureWithPlace_18 dX6_pictureWithPlace_19 dX6_pictureWithPlace_22 rfl th_X6_343_345 rfl (by decide) (by decide) (by decide) ?_
    exact hE (fun q => c12 q.2)
set_option maxRecDepth 20000 in
theorem C_X6_packetWithCopy {G : GW} {h : PH} {Q : RS → PH → Prop} {S : SP} {p : Nat} {x : Int32} (F : pi_1 S h p) (hE : ¬ (¬ (s_pa S p).1 = 0 ∧ 0 ≤ x ∧ x < hp_vi S.1 48 p 2) → Q (.inr "java/util/NoSuchElementException") h) (hq : ¬ (s_pa S p).1 = 0 ∧ 0 ≤ x ∧ x < hp_vi S.1 48 p 2 → Q (.inl (some (pv_O (18, p)))) h) : VV G 6 1 6 yX6_packetWithCopy cX6_packetWithCopy 3 (some (.object "VeneerLoft$Packet")) [] 0 (vv_en 3 [pv_O (14, p), pv_I x]) [] h Q := by
  show VV G 6 1 6 yX6_packetWithCopy cX6_packetWithCopy 3 (some (.object "VeneerLoft$Packet")) [] 0 [some (pv_O (14, p)), some (pv_I x), none] [] h Q
  obtain ⟨⟨a0, a1, a2, a3, a4, a5⟩, a6, a7, a8, a9, e1, e2⟩ := id F
  refine v_aload_n 1 dX6_packetWithCopy_0 rfl rfl ?_
  refine v_getfr 4 dX6_packetWithCopy_1 fl_X6_241 (by first | assumption | rfl) (by rfl) rfl ?_
  refine v_astore_n 5 dX6_packetWithCopy_4 (by decide) rfl rfl ?_
  dsimp only [List.set]
  refine v_aload_n 6 dX6_packetWithCopy_5 rfl rfl ?_
  refine v_ifnull 21 9 dX6_packetWithCopy_6 (by decide) rfl (fun c6 => ?_) (fun c6 => ?_)
  · have w := ((rr_0 (by decide) a5).1 c6).1
    refine v_throw dX6_packetWithCopy_21 dX6_packetWithCopy_24 dX6_packetWithCopy_25 dX6_packetWithCopy_28 rfl th_X6_168_170 rfl (by decide) (by decide) (by decide) ?_
    refine hE (fun q => ?_)
    first | exact q.1 w | exact absurd q.2.1 (Int32.not_le.mpr c10) | exact c18 q.2.2
  · obtain ⟨w, v⟩ := (rr_0 (by decide) a5).2 c6
    refine v_iload_n 10 dX6_packetWithCopy_9 rfl rfl ?_
    refine v_if_lt 21 13 dX6_packetWithCopy_10 (by decide) rfl (fun c10 => ?_) (fun c10 => ?_)
    · refine v_throw dX6_packetWithCopy_21 dX6_packetWithCopy_24 dX6_packetWithCopy_25 dX6_packetWithCopy_28 rfl th_X6_168_170 rfl (by decide) (by decide) (by decide) ?_
      refine hE (fun q => ?_)
      first | exact q.1 w | exact absurd q.2.1 (Int32.not_le.mpr c10) | exact c18 q.2.2
    · have c10 := Int32.not_lt.mp c10
      refine v_iload_n 14 dX6_packetWithCopy_13 rfl rfl ?_
      refine v_aload_n 15 dX6_packetWithCopy_14 rfl rfl ?_
      rw [v]
      refine v_getfi 18 dX6_packetWithCopy_15 fl_X6_177 (by first | assumption | rfl) (by rfl) rfl ?_
      rw [(e2 w).2.2.2]
      refine v_icmp_lt 29 21 dX6_packetWithCopy_18 (by decide) rfl (fun c18 => ?_) (fun c18 => ?_)
      · refine v_aload_n 30 dX6_packetWithCopy_29 rfl rfl ?_
        refine v_areturn dX6_packetWithCopy_30 rfl (Or.inl ⟨_, rfl⟩) ?_
        exact hq ⟨w, c10, c18⟩
      · refine v_throw dX6_packetWithCopy_21 dX6_packetWithCopy_24 dX6_packetWithCopy_25 dX6_packetWithCopy_28 rfl th_X6_168_170 rfl (by decide) (by decide) (by decide) ?_
        refine hE (fun q => ?_)
        first | exact q.1 w | exact absurd q.2.1 (Int32.not_le.mpr c10) | exact c18 q.2.2
abbrev s_st (S : SP) (p : Nat) (m : Int32) : Int32 := (hp_vi S.1 43 p 0 + m - 1) / m
set_option maxRecDepth 20000 in
theorem C_X6_stripOf {G : GW} {h : PH} {Q : RS → PH → Prop} {S : SP} {p : Nat} {m : Int32} (F : pn_1 S h p) (hm : 0 < m) (hq : Q (.inl (some (pv_I (s_st S p m)))) h) : VV G 0 0 0 yX6_stripOf cX6_stripOf 2 (some .int) [] 0 (vv_en 2 [pv_O (13, p), pv_I m]) [] h Q := by
  show VV G 0 0 0 yX6_stripOf cX6_stripOf 2 (some .int) [] 0 [some (pv_O (13, p)), some (pv_I m)] [] h Q
  refine v_iload_n 1 dX6_stripOf_0 rfl rfl ?_
  refine v_if_gt 11 4 dX6_stripOf_1 (by decide) rfl (fun c1 => ?_) (fun c1 => ?_)
  · refine v_aload_n 12 dX6_stripOf_11 rfl rfl ?_
    refine v_getfi 15 dX6_stripOf_12 fl_X6_354 (by first | assumption | rfl) (by rfl) rfl ?_
    rw [F.2.1.1]
    refine v_iload_n 16 dX6_stripOf_15 rfl rfl ?_
    refine v_iadd 17 dX6_stripOf_16 rfl ?_
    refine v_iconstv (v := 1) 18 dX6_stripOf_17 (by decide) rfl ?_
    refine v_isub 19 dX6_stripOf_18 rfl ?_
    refine v_iload_n 20 dX6_stripOf_19 rfl rfl ?_
    refine v_idiv 21 dX6_stripOf_20 (fun e => by rw [e] at hm; exact absurd hm (by decide)) rfl ?_
    refine v_ireturn dX6_stripOf_21 rfl ?_
    exact hq
  · exact absurd hm c1
set_option maxRecDepth 20000 in
theorem C_X6_canCover {G : GW} {h : PH} {Q : RS → PH → Prop} {S : SP} {p f a m : Nat} (F : pn_1 S h p) (F2 : fl_1 S h f) (hn : s_n S f ≤ 24) (hI : ∀ l, hp_vi S.1 62 f l = 0 ∨ hp_vi S.1 62 f l = 1) (ham : a + m ≤ s_n S f) (hm : 1 ≤ m) (hq : Q (.inl (some (pv_I (if hp_vi S.1 43 p 1 ≤ hp_vi S.1 41 (s_lg S f) 2 ∧ fr_ok S f a m (s_st S p (nI m)) then 1 else 0)))) h) : VV G 2 0 0 yX6_canCover cX6_canCover 5 (some .boolean) [] 0 (vv_en 5 [pv_O (13, p), pv_O (12, f), pv_I (nI a), pv_I (nI m)]) [] h Q := by
  show VV G 2 0 0 yX6_canCover cX6_canCover 5 (some .boolean) [] 0 [some (pv_O (13, p)), some (pv_O (12, f)), some (pv_I (nI a)), some (pv_I (nI m)), none] [] h Q
  refine v_aload_n 1 dX6_canCover_0 rfl rfl ?_
  refine v_getfi 4 dX6_canCover_1 fl_X6_355 (by first | assumption | rfl) (by rfl) rfl ?_
  rw [F2.2.1.2.1]
  refine v_aload_n 5 dX6_canCover_4 rfl rfl ?_
  refine v_getfi 8 dX6_canCover_5 fl_X6_358 (by first | assumption | rfl) (by rfl) rfl ?_
  rw [F.2.1.2.1]
  refine v_icmp_lt 15 11 dX6_canCover_8 (by decide) rfl (fun c8 => ?_) (fun c8 => ?_)
  · have c8 := Int32.not_le.mpr c8
    refine v_iconstv (v := 0) 16 dX6_canCover_15 (by decide) rfl ?_
    refine v_istore 18 dX6_canCover_16 (by decide) rfl rfl ?_
    dsimp only [List.set]
    refine v_iload 20 dX6_canCover_18 rfl rfl ?_
    refine v_if_eq 41 23 dX6_canCover_20 (by decide) rfl (fun c20 => ?_) (fun c20 => ?_)
    · have c20 := c20
      refine v_iconstv (v := 0) 42 dX6_canCover_41 (by decide) rfl ?_
      refine v_zreturn (ty := .boolean) (by first | rfl | decide | exact nz_if | exact nz_fi) dX6_canCover_42 rfl ?_
      refine vq_i hq ?_
      first | exact absurd rfl c20 | exact absurd c20 (by decide) | exact if_neg (fun q => c8 q.1) | exact if_neg (fun q => f1_0.mp c34 q.2) | exact if_pos ⟨c8, Decidable.not_not.mp (fun q => c34 (f1_0.mpr q))⟩
    · exact absurd (by decide) c20
  · have c8 := Int32.not_lt.mp c8
    refine v_iconstv (v := 1) 12 dX6_canCover_11 (by decide) rfl ?_
    refine v_goto 16 dX6_canCover_12 (by decide) ?_
    refine v_istore 18 dX6_canCover_16 (by decide) rfl rfl ?_
    dsimp only [List.set]
    refine v_iload 20 dX6_canCover_18 rfl rfl ?_
    refine v_if_eq 41 23 dX6_canCover_20 (by decide) rfl (fun c20 => ?_) (fun c20 => ?_)
    · exact absurd c20 (by decide)
    · have c20 := c20
      refine v_aload_n 24 dX6_canCover_23 rfl rfl ?_
      refine v_iload_n 25 dX6_canCover_24 rfl rfl ?_
      refine v_iload_n 26 dX6_canCover_25 rfl rfl ?_
      refine v_aload_n 27 dX6_canCover_26 rfl rfl ?_
      refine v_iload_n 28 dX6_canCover_27 rfl rfl ?_
      refine v_invs (d' := 0) (k' := 0) (n' := 0) (k2 := 0) (n2 := 0) 31 [_, _] dX6_canCover_28 mt_X6_359 ms_X6_stripOf rfl rfl (of_decide_eq_true rfl) rfl (by decide) rfl rfl rfl rfl (C_X6_stripOf F (nI_lt (a := 0) (by omega) (by omega)) ?_)
      refine v_invv (d' := 1) (k' := 0) (n' := 0) (k2 := 0) (n2 := 0) 34 [_, _, _] dX6_canCover_31 mt_X6_261 mi_X0_isFree me_X0_isFree (by first | assumption | rfl) (by rfl) rfl rfl (of_decide_eq_true rfl) rfl (by decide) rfl rfl rfl rfl (C_X0_isFree F2 hn hI ham ?_)
      refine v_if_eq 41 37 dX6_canCover_34 (by decide) rfl (fun c34 => ?_) (fun c34 => ?_)
      · refine v_iconstv (v := 0) 42 dX6_canCover_41 (by decide) rfl ?_
        refine v_zreturn (ty := .boolean) (by first | rfl | decide | exact nz_if | exact nz_fi) dX6_canCover_42 rfl ?_
        refine vq_i hq ?_
        first | exact absurd rfl c20 | exact absurd c20 (by decide) | exact if_neg (fun q => c8 q.1) | exact if_neg (fun q => f1_0.mp c34 q.2) | exact if_pos ⟨c8, Decidable.not_not.mp (fun q => c34 (f1_0.mpr q))⟩
      · refine v_iconstv (v := 1) 38 dX6_canCover_37 (by decide) rfl ?_
        refine v_goto 42 dX6_canCover_38 (by decide) ?_
        refine v_zreturn (ty := .boolean) (by first | rfl | decide | exact nz_if | exact nz_fi) dX6_canCover_42 rfl ?_
        refine vq_i hq ?_
        first | exact absurd rfl c20 | exact absurd c20 (by decide) | exact if_neg (fun q => c8 q.1) | exact if_neg (fun q => f1_0.mp c34 q.2) | exact if_pos ⟨c8, Decidable.not_not.mp (fun q => c34 (f1_0.mpr q))⟩
/-- the jump of leaves that lie beside each other -/
def jp_ (S : SP) (f a : Nat) (ep s0 : Int32) : Nat → Int32
  | 0 => s0
  | k + 1 => jp_ S f a ep s0 k + (ab_ (s_f S f (nI (a + k + 1)) - s_f S f (nI (a + k))) + ep)
def s_jp (S : SP) (f a m : Nat) (mt : Int32) : Int32 := jp_ S f a (if mt = 115 then 5 else if mt = 114 then 3 else 0) (if mt = 98 then (if nI m ≤ 1 then 0 else if rm_ (nI m) 2 = 1 then 4 else 0) else 0) (m - 1)
set_option maxRecDepth 20000 in
theorem L_X6_jumpOf {G : GW} {h : PH} {Q : RS → PH → Prop} {S : SP} {f a m : Nat} {mt ep s0 : Int32} (F : fl_1 S h f) (hn : s_n S f ≤ 24) (ham : a + m ≤ s_n S f) (hm : 1 ≤ m) (hq : Q (.inl (some (pv_I (jp_ S f a ep s0 (m - 1))))) h) : ∀ fuel : Nat, ∀ (k : Nat), k ≤ m - 1 → m - 1 - k < fuel → VV G 2 0 0 yX6_jumpOf cX6_jumpOf 7 (some .int) [] 53 [some (pv_O (12, f)), some (pv_I (nI a)), some (pv_I (nI m)), some (pv_I mt), some (pv_I (jp_ S f a ep s0 k)), some (pv_I ep), some (pv_I (nI (a + k + 1)))] [] h Q := by
  intro fuel
  induction fuel with
  | zero =>
    intro k h1 h2
    omega
  | succ fuel ih =>
    intro k h1 h2
    refine v_iload 55 dX6_jumpOf_53 rfl rfl ?_
    refine v_iload_n 56 dX6_jumpOf_55 rfl rfl ?_
    refine v_iload_n 57 dX6_jumpOf_56 rfl rfl ?_
    refine v_iadd 58 dX6_jumpOf_57 rfl ?_
    rw [nI_add]
    refine v_icmp_ge 93 61 dX6_jumpOf_58 (by decide) rfl (fun c58 => ?_) (fun c58 => ?_)
    · have hkm : k = m - 1 := by
        rcases Nat.lt_or_ge (a + k + 1) (a + m) with q | q
        · exact absurd c58 (nI_ge q (by omega))
        · omega
      subst hkm
      refine v_iload 95 dX6_jumpOf_93 rfl rfl ?_
      refine v_ireturn dX6_jumpOf_95 rfl ?_
      exact hq
    · have hkm : k < m - 1 := by
        rcases Nat.lt_or_ge (a + k + 1) (a + m) with q | q
        · omega
        · exact absurd (nI_le q (by omega)) c58
      refine v_iload 63 dX6_jumpOf_61 rfl rfl ?_
      refine v_aload_n 64 dX6_jumpOf_63 rfl rfl ?_
      refine v_iload 66 dX6_jumpOf_64 rfl rfl ?_
      refine v_invv (d' := 1) (k' := 0) (n' := 0) (k2 := 0) (n2 := 0) 69 [_] dX6_jumpOf_66 mt_X6_99 mi_X0_figureOf me_X0_figureOf (by first | assumption | rfl) (by rfl) rfl rfl (of_decide_eq_true rfl) rfl (by decide) rfl rfl rfl rfl (C_X0_figureOf F hn ?_)
      rw [if_pos (ok_i.of (n := s_n S f) (by omega) (by omega))]
      refine v_aload_n 70 dX6_jumpOf_69 rfl rfl ?_
      refine v_iload 72 dX6_jumpOf_70 rfl rfl ?_
      refine v_iconstv (v := 1) 73 dX6_jumpOf_72 (by decide) rfl ?_
      refine v_isub 74 dX6_jumpOf_73 rfl ?_
      rw [show nI (a + k + 1) - 1 = nI (a + k) from pk_sub (a := a + k + 1) (b := 1) (by omega)]
      refine v_invv (d' := 1) (k' := 0) (n' := 0) (k2 := 0) (n2 := 0) 77 [_] dX6_jumpOf_74 mt_X6_99 mi_X0_figureOf me_X0_figureOf (by first | assumption | rfl) (by rfl) rfl rfl (of_decide_eq_true rfl) rfl (by decide) rfl rfl rfl rfl (C_X0_figureOf F hn ?_)
      rw [if_pos (ok_i.of (n := s_n S f) (by omega) (by omega))]
      refine v_isub 78 dX6_jumpOf_77 rfl ?_
      refine v_abs 81 dX6_jumpOf_78 ma_X6_363 ma_s_abs ma_i rfl (by decide) rfl ?_
      refine v_iload 83 dX6_jumpOf_81 rfl rfl ?_
      refine v_iadd 84 dX6_jumpOf_83 rfl ?_
      refine v_iadd 85 dX6_jumpOf_84 rfl ?_
      refine v_istore 87 dX6_jumpOf_85 (by decide) rfl rfl ?_
      dsimp only [List.set]
      refine v_iinc 90 dX6_jumpOf_87 rfl (by decide) rfl rfl ?_
      dsimp only [List.set]
      refine v_goto 53 dX6_jumpOf_90 (by decide) ?_
      rw [show nI (a + k + 1) + Int32.ofInt 1 = nI (a + (k + 1) + 1) from nI_1 (a + k + 1)]
      exact ih (k + 1) (by omega) (by omega)
set_option maxRecDepth 20000 in
theorem C_X6_jumpOf {G : GW} {h : PH} {Q : RS → PH → Prop} {S : SP} {f a m : Nat} {mt : Int32} (F : fl_1 S h f) (hn : s_n S f ≤ 24) (ham : a + m ≤ s_n S f) (hm : 1 ≤ m) (hq : Q (.inl (some (pv_I (s_jp S f a m mt)))) h) : VV G 2 0 0 yX6_jumpOf cX6_jumpOf 7 (some .int) [] 0 (vv_en 7 [pv_O (12, f), pv_I (nI a), pv_I (nI m), pv_I mt]) [] h Q := by
  show VV G 2 0 0 yX6_jumpOf cX6_jumpOf 7 (some .int) [] 0 [some (pv_O (12, f)), some (pv_I (nI a)), some (pv_I (nI m)), some (pv_I mt), none, none, none] [] h Q
  unfold s_jp at hq
  refine v_iload_n 1 dX6_jumpOf_0 rfl rfl ?_
  refine v_bipushv (v := 98) 3 dX6_jumpOf_1 (by decide) rfl ?_
  refine v_icmp_ne 22 6 dX6_jumpOf_3 (by decide) rfl (fun c3 => ?_) (fun c3 => ?_)
  · first | rw [if_pos c3] at hq | rw [if_neg c3] at hq | skip
    refine v_iconstv (v := 0) 23 dX6_jumpOf_22 (by decide) rfl ?_
    refine v_istore 25 dX6_jumpOf_23 (by decide) rfl rfl ?_
    dsimp only [List.set]
    refine v_iload_n 26 dX6_jumpOf_25 rfl rfl ?_
    refine v_bipushv (v := 115) 28 dX6_jumpOf_26 (by decide) rfl ?_
    refine v_icmp_ne 35 31 dX6_jumpOf_28 (by decide) rfl (fun c28 => ?_) (fun c28 => ?_)
    · first | rw [if_pos c28] at hq | rw [if_neg c28] at hq | skip
      refine v_iload_n 36 dX6_jumpOf_35 rfl rfl ?_
      refine v_bipushv (v := 114) 38 dX6_jumpOf_36 (by decide) rfl ?_
      refine v_icmp_ne 45 41 dX6_jumpOf_38 (by decide) rfl (fun c38 => ?_) (fun c38 => ?_)
      · first | rw [if_pos c38] at hq | rw [if_neg c38] at hq | skip
        refine v_iconstv (v := 0) 46 dX6_jumpOf_45 (by decide) rfl ?_
        refine v_istore 48 dX6_jumpOf_46 (by decide) rfl rfl ?_
        dsimp only [List.set]
        refine v_iload_n 49 dX6_jumpOf_48 rfl rfl ?_
        refine v_iconstv (v := 1) 50 dX6_jumpOf_49 (by decide) rfl ?_
        refine v_iadd 51 dX6_jumpOf_50 rfl ?_
        rw [nI_1]
        refine v_istore 53 dX6_jumpOf_51 (by decide) rfl rfl ?_
        dsimp only [List.set]
        refine L_X6_jumpOf F hn ham hm ?_ (m + 1) 0 (Nat.zero_le _) (by omega)
        first | exact hq | (simp_all; done)
      · first | rw [if_pos c38] at hq | rw [if_neg c38] at hq | skip
        refine v_iconstv (v := 3) 42 dX6_jumpOf_41 (by decide) rfl ?_
        refine v_goto 46 dX6_jumpOf_42 (by decide) ?_
        refine v_istore 48 dX6_jumpOf_46 (by decide) rfl rfl ?_
        dsimp only [List.set]
        refine v_iload_n 49 dX6_jumpOf_48 rfl rfl ?_
        refine v_iconstv (v := 1) 50 dX6_jumpOf_49 (by decide) rfl ?_
        refine v_iadd 51 dX6_jumpOf_50 rfl ?_
        rw [nI_1]
        refine v_istore 53 dX6_jumpOf_51 (by decide) rfl rfl ?_
        dsimp only [List.set]
        refine L_X6_jumpOf F hn ham hm ?_ (m + 1) 0 (Nat.zero_le _) (by omega)
        first | exact hq | (simp_all; done)
    · first | rw [if_pos c28] at hq | rw [if_neg c28] at hq | skip
      refine v_iconstv (v := 5) 32 dX6_jumpOf_31 (by decide) rfl ?_
      refine v_goto 46 dX6_jumpOf_32 (by decide) ?_
      refine v_istore 48 dX6_jumpOf_46 (by decide) rfl rfl ?_
      dsimp only [List.set]
      refine v_iload_n 49 dX6_jumpOf_48 rfl rfl ?_
      refine v_iconstv (v := 1) 50 dX6_jumpOf_49 (by decide) rfl ?_
      refine v_iadd 51 dX6_jumpOf_50 rfl ?_
      rw [nI_1]
      refine v_istore 53 dX6_jumpOf_51 (by decide) rfl rfl ?_
      dsimp only [List.set]
      refine L_X6_jumpOf F hn ham hm ?_ (m + 1) 0 (Nat.zero_le _) (by omega)
      first | exact hq | (simp_all; done)
  · first | rw [if_pos c3] at hq | rw [if_neg c3] at hq | skip
    refine v_iload_n 7 dX6_jumpOf_6 rfl rfl ?_
    refine v_iconstv (v := 1) 8 dX6_jumpOf_7 (by decide) rfl ?_
    refine v_icmp_le 22 11 dX6_jumpOf_8 (by decide) rfl (fun c8 => ?_) (fun c8 => ?_)
    · first | rw [if_pos c8] at hq | rw [if_neg c8] at hq | skip
      refine v_iconstv (v := 0) 23 dX6_jumpOf_22 (by decide) rfl ?_
      refine v_istore 25 dX6_jumpOf_23 (by decide) rfl rfl ?_
      dsimp only [List.set]
      refine v_iload_n 26 dX6_jumpOf_25 rfl rfl ?_
      refine v_bipushv (v := 115) 28 dX6_jumpOf_26 (by decide) rfl ?_
      refine v_icmp_ne 35 31 dX6_jumpOf_28 (by decide) rfl (fun c28 => ?_) (fun c28 => ?_)
      · first | rw [if_pos c28] at hq | rw [if_neg c28] at hq | skip
        refine v_iload_n 36 dX6_jumpOf_35 rfl rfl ?_
        refine v_bipushv (v := 114) 38 dX6_jumpOf_36 (by decide) rfl ?_
        refine v_icmp_ne 45 41 dX6_jumpOf_38 (by decide) rfl (fun c38 => ?_) (fun c38 => ?_)
        · first | rw [if_pos c38] at hq | rw [if_neg c38] at hq | skip
          refine v_iconstv (v := 0) 46 dX6_jumpOf_45 (by decide) rfl ?_
          refine v_istore 48 dX6_jumpOf_46 (by decide) rfl rfl ?_
          dsimp only [List.set]
          refine v_iload_n 49 dX6_jumpOf_48 rfl rfl ?_
          refine v_iconstv (v := 1) 50 dX6_jumpOf_49 (by decide) rfl ?_
          refine v_iadd 51 dX6_jumpOf_50 rfl ?_
          rw [nI_1]
          refine v_istore 53 dX6_jumpOf_51 (by decide) rfl rfl ?_
          dsimp only [List.set]
          refine L_X6_jumpOf F hn ham hm ?_ (m + 1) 0 (Nat.zero_le _) (by omega)
          first | exact hq | (simp_all; done)
        · first | rw [if_pos c38] at hq | rw [if_neg c38] at hq | skip
          refine v_iconstv (v := 3) 42 dX6_jumpOf_41 (by decide) rfl ?_
          refine v_goto 46 dX6_jumpOf_42 (by decide) ?_
          refine v_istore 48 dX6_jumpOf_46 (by decide) rfl rfl ?_
          dsimp only [List.set]
          refine v_iload_n 49 dX6_jumpOf_48 rfl rfl ?_
          refine v_iconstv (v := 1) 50 dX6_jumpOf_49 (by decide) rfl ?_
          refine v_iadd 51 dX6_jumpOf_50 rfl ?_
          rw [nI_1]
          refine v_istore 53 dX6_jumpOf_51 (by decide) rfl rfl ?_
          dsimp only [List.set]
          refine L_X6_jumpOf F hn ham hm ?_ (m + 1) 0 (Nat.zero_le _) (by omega)
          first | exact hq | (simp_all; done)
      · first | rw [if_pos c28] at hq | rw [if_neg c28] at hq | skip
        refine v_iconstv (v := 5) 32 dX6_jumpOf_31 (by decide) rfl ?_
        refine v_goto 46 dX6_jumpOf_32 (by decide) ?_
        refine v_istore 48 dX6_jumpOf_46 (by decide) rfl rfl ?_
        dsimp only [List.set]
        refine v_iload_n 49 dX6_jumpOf_48 rfl rfl ?_
        refine v_iconstv (v := 1) 50 dX6_jumpOf_49 (by decide) rfl ?_
        refine v_iadd 51 dX6_jumpOf_50 rfl ?_
        rw [nI_1]
        refine v_istore 53 dX6_jumpOf_51 (by decide) rfl rfl ?_
        dsimp only [List.set]
        refine L_X6_jumpOf F hn ham hm ?_ (m + 1) 0 (Nat.zero_le _) (by omega)
        first | exact hq | (simp_all; done)
    · first | rw [if_pos c8] at hq | rw [if_neg c8] at hq | skip
      refine v_iload_n 12 dX6_jumpOf_11 rfl rfl ?_
      refine v_iconstv (v := 2) 13 dX6_jumpOf_12 (by decide) rfl ?_
      refine v_irem 14 dX6_jumpOf_13 (by decide) rfl ?_
      refine v_iconstv (v := 1) 15 dX6_jumpOf_14 (by decide) rfl ?_
      refine v_icmp_ne 22 18 dX6_jumpOf_15 (by decide) rfl (fun c15 => ?_) (fun c15 => ?_)
      · first | rw [if_pos c15] at hq | rw [if_neg c15] at hq | skip
        refine v_iconstv (v := 0) 23 dX6_jumpOf_22 (by decide) rfl ?_
        refine v_istore 25 dX6_jumpOf_23 (by decide) rfl rfl ?_
        dsimp only [List.set]
        refine v_iload_n 26 dX6_jumpOf_25 rfl rfl ?_
        refine v_bipushv (v := 115) 28 dX6_jumpOf_26 (by decide) rfl ?_
        refine v_icmp_ne 35 31 dX6_jumpOf_28 (by decide) rfl (fun c28 => ?_) (fun c28 => ?_)
        · first | rw [if_pos c28] at hq | rw [if_neg c28] at hq | skip
          refine v_iload_n 36 dX6_jumpOf_35 rfl rfl ?_
          refine v_bipushv (v := 114) 38 dX6_jumpOf_36 (by decide) rfl ?_
          refine v_icmp_ne 45 41 dX6_jumpOf_38 (by decide) rfl (fun c38 => ?_) (fun c38 => ?_)
          · first | rw [if_pos c38] at hq | rw [if_neg c38] at hq | skip
            refine v_iconstv (v := 0) 46 dX6_jumpOf_45 (by decide) rfl ?_
            refine v_istore 48 dX6_jumpOf_46 (by decide) rfl rfl ?_
            dsimp only [List.set]
            refine v_iload_n 49 dX6_jumpOf_48 rfl rfl ?_
            refine v_iconstv (v := 1) 50 dX6_jumpOf_49 (by decide) rfl ?_
            refine v_iadd 51 dX6_jumpOf_50 rfl ?_
            rw [nI_1]
            refine v_istore 53 dX6_jumpOf_51 (by decide) rfl rfl ?_
            dsimp only [List.set]
            refine L_X6_jumpOf F hn ham hm ?_ (m + 1) 0 (Nat.zero_le _) (by omega)
            first | exact hq | (simp_all; done)
          · first | rw [if_pos c38] at hq | rw [if_neg c38] at hq | skip
            refine v_iconstv (v := 3) 42 dX6_jumpOf_41 (by decide) rfl ?_
            refine v_goto 46 dX6_jumpOf_42 (by decide) ?_
            refine v_istore 48 dX6_jumpOf_46 (by decide) rfl rfl ?_
            dsimp only [List.set]
            refine v_iload_n 49 dX6_jumpOf_48 rfl rfl ?_
            refine v_iconstv (v := 1) 50 dX6_jumpOf_49 (by decide) rfl ?_
            refine v_iadd 51 dX6_jumpOf_50 rfl ?_
            rw [nI_1]
            refine v_istore 53 dX6_jumpOf_51 (by decide) rfl rfl ?_
            dsimp only [List.set]
            refine L_X6_jumpOf F hn ham hm ?_ (m + 1) 0 (Nat.zero_le _) (by omega)
            first | exact hq | (simp_all; done)
        · first | rw [if_pos c28] at hq | rw [if_neg c28] at hq | skip
          refine v_iconstv (v := 5) 32 dX6_jumpOf_31 (by decide) rfl ?_
          refine v_goto 46 dX6_jumpOf_32 (by decide) ?_
          refine v_istore 48 dX6_jumpOf_46 (by decide) rfl rfl ?_
          dsimp only [List.set]
          refine v_iload_n 49 dX6_jumpOf_48 rfl rfl ?_
          refine v_iconstv (v := 1) 50 dX6_jumpOf_49 (by decide) rfl ?_
          refine v_iadd 51 dX6_jumpOf_50 rfl ?_
          rw [nI_1]
          refine v_istore 53 dX6_jumpOf_51 (by decide) rfl rfl ?_
          dsimp only [List.set]
          refine L_X6_jumpOf F hn ham hm ?_ (m + 1) 0 (Nat.zero_le _) (by omega)
          first | exact hq | (simp_all; done)
      · first | rw [if_pos c15] at hq | rw [if_neg c15] at hq | skip
        refine v_iconstv (v := 4) 19 dX6_jumpOf_18 (by decide) rfl ?_
        refine v_goto 23 dX6_jumpOf_19 (by decide) ?_
        refine v_istore 25 dX6_jumpOf_23 (by decide) rfl rfl ?_
        dsimp only [List.set]
        refine v_iload_n 26 dX6_jumpOf_25 rfl rfl ?_
        refine v_bipushv (v := 115) 28 dX6_jumpOf_26 (by decide) rfl ?_
        refine v_icmp_ne 35 31 dX6_jumpOf_28 (by decide) rfl (fun c28 => ?_) (fun c28 => ?_)
        · first | rw [if_pos c28] at hq | rw [if_neg c28] at hq | skip
          refine v_iload_n 36 dX6_jumpOf_35 rfl rfl ?_
          refine v_bipushv (v := 114) 38 dX6_jumpOf_36 (by decide) rfl ?_
          refine v_icmp_ne 45 41 dX6_jumpOf_38 (by decide) rfl (fun c38 => ?_) (fun c38 => ?_)
          · first | rw [if_pos c38] at hq | rw [if_neg c38] at hq | skip
            refine v_iconstv (v := 0) 46 dX6_jumpOf_45 (by decide) rfl ?_
            refine v_istore 48 dX6_jumpOf_46 (by decide) rfl rfl ?_
            dsimp only [List.set]
            refine v_iload_n 49 dX6_jumpOf_48 rfl rfl ?_
            refine v_iconstv (v := 1) 50 dX6_jumpOf_49 (by decide) rfl ?_
            refine v_iadd 51 dX6_jumpOf_50 rfl ?_
            rw [nI_1]
            refine v_istore 53 dX6_jumpOf_51 (by decide) rfl rfl ?_
            dsimp only [List.set]
            refine L_X6_jumpOf F hn ham hm ?_ (m + 1) 0 (Nat.zero_le _) (by omega)
            first | exact hq | (simp_all; done)
          · first | rw [if_pos c38] at hq | rw [if_neg c38] at hq | skip
            refine v_iconstv (v := 3) 42 dX6_jumpOf_41 (by decide) rfl ?_
            refine v_goto 46 dX6_jumpOf_42 (by decide) ?_
            refine v_istore 48 dX6_jumpOf_46 (by decide) rfl rfl ?_
            dsimp only [List.set]
            refine v_iload_n 49 dX6_jumpOf_48 rfl rfl ?_
            refine v_iconstv (v := 1) 50 dX6_jumpOf_49 (by decide) rfl ?_
            refine v_iadd 51 dX6_jumpOf_50 rfl ?_
            rw [nI_1]
            refine v_istore 53 dX6_jumpOf_51 (by decide) rfl rfl ?_
            dsimp only [List.set]
            refine L_X6_jumpOf F hn ham hm ?_ (m + 1) 0 (Nat.zero_le _) (by omega)
            first | exact hq | (simp_all; done)
        · first | rw [if_pos c28] at hq | rw [if_neg c28] at hq | skip
          refine v_iconstv (v := 5) 32 dX6_jumpOf_31 (by decide) rfl ?_
          refine v_goto 46 dX6_jumpOf_32 (by decide) ?_
          refine v_istore 48 dX6_jumpOf_46 (by decide) rfl rfl ?_
          dsimp only [List.set]
          refine v_iload_n 49 dX6_jumpOf_48 rfl rfl ?_
          refine v_iconstv (v := 1) 50 dX6_jumpOf_49 (by decide) rfl ?_
          refine v_iadd 51 dX6_jumpOf_50 rfl ?_
          rw [nI_1]
          refine v_istore 53 dX6_jumpOf_51 (by decide) rfl rfl ?_
          dsimp only [List.set]
          refine L_X6_jumpOf F hn ham hm ?_ (m + 1) 0 (Nat.zero_le _) (by omega)
          first | exact hq | (simp_all; done)
set_option maxRecDepth 20000 in
theorem C_X4_polish {G : GW} {h : PH} {Q : RS → PH → Prop} {p : Nat} {x : Int32} (hq : Q (.inl none) (hp_seti (hp_seti (hp_seti h 13 p 11 (mn 99 (hp_vi h 13 p 11 + 2 * (mn x (mx 0 (3 - hp_vi h 13 p 12)))))) 13 p 13 (hp_vi (hp_seti h 13 p 11 (mn 99 (hp_vi h 13 p 11 + 2 * (mn x (mx 0 (3 - hp_vi h 13 p 12)))))) 13 p 13 + (x - (mn x (mx 0 (3 - hp_vi h 13 p 12)))))) 13 p 12 (hp_vi (hp_seti (hp_seti h 13 p 11 (mn 99 (hp_vi h 13 p 11 + 2 * (mn x (mx 0 (3 - hp_vi h 13 p 12)))))) 13 p 13 (hp_vi (hp_seti h 13 p 11 (mn 99 (hp_vi h 13 p 11 + 2 * (mn x (mx 0 (3 - hp_vi h 13 p 12)))))) 13 p 13 + (x - (mn x (mx 0 (3 - hp_vi h 13 p 12)))))) 13 p 12 + x))) : VV G 1 0 0 yX4_polish cX4_polish 3 (none) [] 0 (vv_en 3 [pv_O (13, p), pv_I x]) [] h Q := by
  show VV G 1 0 0 yX4_polish cX4_polish 3 (none) [] 0 [some (pv_O (13, p)), some (pv_I x), none] [] h Q
  refine v_iload_n 1 dX4_polish_0 rfl rfl ?_
  refine v_iconstv (v := 0) 2 dX4_polish_1 (by decide) rfl ?_
  refine v_iconstv (v := 3) 3 dX4_polish_2 (by decide) rfl ?_
  refine v_aload_n 4 dX4_polish_3 rfl rfl ?_
  refine v_getfi 7 dX4_polish_4 fl_X4_55 (by first | assumption | rfl) (by rfl) rfl ?_
  refine v_isub 8 dX4_polish_7 rfl ?_
  refine v_max 11 dX4_polish_8 ma_X4_58 ma_s_max ma_i rfl (by decide) rfl ?_
  refine v_min 14 dX4_polish_11 ma_X4_64 ma_s_min ma_i rfl (by decide) rfl ?_
  refine v_istore_n 15 dX4_polish_14 (by decide) rfl rfl ?_
  dsimp only [List.set]
  refine v_aload_n 16 dX4_polish_15 rfl rfl ?_
  refine v_bipushv (v := 99) 18 dX4_polish_16 (by decide) rfl ?_
  refine v_aload_n 19 dX4_polish_18 rfl rfl ?_
  refine v_getfi 22 dX4_polish_19 fl_X4_67 (by first | assumption | rfl) (by rfl) rfl ?_
  refine v_iconstv (v := 2) 23 dX4_polish_22 (by decide) rfl ?_
  refine v_iload_n 24 dX4_polish_23 rfl rfl ?_
  refine v_imul 25 dX4_polish_24 rfl ?_
  refine v_iadd 26 dX4_polish_25 rfl ?_
  refine v_min 29 dX4_polish_26 ma_X4_64 ma_s_min ma_i rfl (by decide) rfl ?_
  refine v_putfi 32 dX4_polish_29 pf_X4_polish_67 (by first | assumption | rfl) (by first | assumption | decide) (by rfl) rfl rfl rfl ?_
  refine v_aload_n 33 dX4_polish_32 rfl rfl ?_
  refine v_dup 34 dX4_polish_33 rfl rfl ?_
  refine v_getfi 37 dX4_polish_34 fl_X4_70 (by first | assumption | rfl) (by rfl) rfl ?_
  refine v_iload_n 38 dX4_polish_37 rfl rfl ?_
  refine v_iload_n 39 dX4_polish_38 rfl rfl ?_
  refine v_isub 40 dX4_polish_39 rfl ?_
  refine v_iadd 41 dX4_polish_40 rfl ?_
  refine v_putfi 44 dX4_polish_41 pf_X4_polish_70 (by first | assumption | rfl) (by first | assumption | decide) (by rfl) rfl rfl rfl ?_
  refine v_aload_n 45 dX4_polish_44 rfl rfl ?_
  refine v_dup 46 dX4_polish_45 rfl rfl ?_
  refine v_getfi 49 dX4_polish_46 fl_X4_55 (by first | assumption | rfl) (by rfl) rfl ?_
  refine v_iload_n 50 dX4_polish_49 rfl rfl ?_
  refine v_iadd 51 dX4_polish_50 rfl ?_
  refine v_putfi 54 dX4_polish_51 pf_X4_polish_55 (by first | assumption | rfl) (by first | assumption | decide) (by rfl) rfl rfl rfl ?_
  refine v_return dX4_polish_54 rfl ?_
  exact hq
