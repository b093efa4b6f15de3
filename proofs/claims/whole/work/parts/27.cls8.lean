set_option maxRecDepth 20000 in
theorem C_X6_leaves {G : GW} {h : PH} {Q : RS → PH → Prop} {S : SP} {N : Nat} (R : Rp1 S h) (I : Iv S N) {x : Int32} (hq : Q (an_ "java/lang/IndexOutOfBoundsException" "" "" (op_leaves S x)) h) : VV G 7 1 6 yX6_leaves cX6_leaves 2 (some .int) [] 0 (vv_en 2 [pv_O (10, 0), pv_I x]) [] h Q := by
  show VV G 7 1 6 yX6_leaves cX6_leaves 2 (some .int) [] 0 [some (pv_O (10, 0)), some (pv_I x)] [] h Q
  obtain ⟨R0, RL, R1, R2, R3, R4, R5⟩ := id R
  obtain ⟨z0, z1, z2, z3, z4, z5⟩ := I.cs
  unfold op_leaves at hq
  refine v_aload_n 1 dX6_leaves_0 rfl rfl ?_
  refine v_iload_n 2 dX6_leaves_1 rfl rfl ?_
  refine v_invv (d' := 6) (k' := 1) (n' := 6) (k2 := 0) (n2 := 0) 5 [_] dX6_leaves_2 mt_X6_81 mi_X6_flitchOf me_X6_flitchOf (by first | assumption | rfl) (by rfl) rfl rfl (of_decide_eq_true rfl) rfl (by decide) rfl rfl rfl rfl (C_X6_flitchOf R0 RL (fun e => ?_) (fun ho => ?_))
  · rw [if_neg e] at hq
    exact vv_out hq
  rw [if_pos ho] at hq
  have hc := ho.cl (by omega)
  have F := R2.1 _ hc.1
  refine v_getfi 8 dX6_leaves_5 fl_X6_85 (by first | assumption | rfl) (by rfl) rfl ?_
  rw [F.2.1.2.2.2.1]
  refine v_ireturn dX6_leaves_8 rfl ?_
  exact hq
set_option maxRecDepth 20000 in
theorem C_X6_width {G : GW} {h : PH} {Q : RS → PH → Prop} {S : SP} {N : Nat} (R : Rp1 S h) (I : Iv S N) {x l : Int32} (hq : Q (an_ "java/lang/IndexOutOfBoundsException" "" "" (op_width S x l)) h) : VV G 9 2 12 yX6_width cX6_width 3 (some .int) [] 0 (vv_en 3 [pv_O (10, 0), pv_I x, pv_I l]) [] h Q := by
  show VV G 9 2 12 yX6_width cX6_width 3 (some .int) [] 0 [some (pv_O (10, 0)), some (pv_I x), some (pv_I l)] [] h Q
  obtain ⟨R0, RL, R1, R2, R3, R4, R5⟩ := id R
  obtain ⟨z0, z1, z2, z3, z4, z5⟩ := I.cs
  unfold op_width at hq
  refine v_aload_n 1 dX6_width_0 rfl rfl ?_
  refine v_iload_n 2 dX6_width_1 rfl rfl ?_
  refine v_iload_n 3 dX6_width_2 rfl rfl ?_
  refine v_invv (d' := 8) (k' := 2) (n' := 12) (k2 := 0) (n2 := 0) 6 [_, _] dX6_width_3 mt_X6_88 mi_X6_flitchWithLeaf me_X6_flitchWithLeaf (by first | assumption | rfl) (by rfl) rfl rfl (of_decide_eq_true rfl) rfl (by decide) rfl rfl rfl rfl (C_X6_flitchWithLeaf R0 RL R2 (fun f hf => I.n24 hf) (fun e => ?_) (fun ho => ?_))
  · rw [if_neg e] at hq
    exact vv_out hq
  rw [if_pos ho] at hq
  have hc := ho.1.cl (by omega)
  have F := R2.1 _ hc.1
  refine v_iload_n 7 dX6_width_6 rfl rfl ?_
  refine v_invv (d' := 1) (k' := 0) (n' := 0) (k2 := 0) (n2 := 0) 10 [_] dX6_width_7 mt_X6_92 mi_X0_widthOf me_X0_widthOf (by first | assumption | rfl) (by rfl) rfl rfl (of_decide_eq_true rfl) rfl (by decide) rfl rfl rfl rfl (C_X0_widthOf F (I.n24 hc.1) ?_)
  rw [if_pos ho.2]
  refine v_ireturn dX6_width_10 rfl ?_
  exact hq
set_option maxRecDepth 20000 in
theorem C_X6_area {G : GW} {h : PH} {Q : RS → PH → Prop} {S : SP} {N : Nat} (R : Rp1 S h) (I : Iv S N) {x l : Int32} (hq : Q (an_ "java/lang/IndexOutOfBoundsException" "" "" (op_area S x l)) h) : VV G 9 2 12 yX6_area cX6_area 3 (some .int) [] 0 (vv_en 3 [pv_O (10, 0), pv_I x, pv_I l]) [] h Q := by
  show VV G 9 2 12 yX6_area cX6_area 3 (some .int) [] 0 [some (pv_O (10, 0)), some (pv_I x), some (pv_I l)] [] h Q
  obtain ⟨R0, RL, R1, R2, R3, R4, R5⟩ := id R
  obtain ⟨z0, z1, z2, z3, z4, z5⟩ := I.cs
  unfold op_area at hq
  refine v_aload_n 1 dX6_area_0 rfl rfl ?_
  refine v_iload_n 2 dX6_area_1 rfl rfl ?_
  refine v_iload_n 3 dX6_area_2 rfl rfl ?_
  refine v_invv (d' := 8) (k' := 2) (n' := 12) (k2 := 0) (n2 := 0) 6 [_, _] dX6_area_3 mt_X6_88 mi_X6_flitchWithLeaf me_X6_flitchWithLeaf (by first | assumption | rfl) (by rfl) rfl rfl (of_decide_eq_true rfl) rfl (by decide) rfl rfl rfl rfl (C_X6_flitchWithLeaf R0 RL R2 (fun f hf => I.n24 hf) (fun e => ?_) (fun ho => ?_))
  · rw [if_neg e] at hq
    exact vv_out hq
  rw [if_pos ho] at hq
  have hc := ho.1.cl (by omega)
  have F := R2.1 _ hc.1
  refine v_iload_n 7 dX6_area_6 rfl rfl ?_
  refine v_invv (d' := 2) (k' := 0) (n' := 0) (k2 := 0) (n2 := 0) 10 [_] dX6_area_7 mt_X6_96 mi_X0_areaOf me_X0_areaOf (by first | assumption | rfl) (by rfl) rfl rfl (of_decide_eq_true rfl) rfl (by decide) rfl rfl rfl rfl (C_X0_areaOf F (I.n24 hc.1) ?_)
  rw [if_pos ho.2]
  refine v_ireturn dX6_area_10 rfl ?_
  exact hq
set_option maxRecDepth 20000 in
theorem C_X6_figure {G : GW} {h : PH} {Q : RS → PH → Prop} {S : SP} {N : Nat} (R : Rp1 S h) (I : Iv S N) {x l : Int32} (hq : Q (an_ "java/lang/IndexOutOfBoundsException" "" "" (op_figure S x l)) h) : VV G 9 2 12 yX6_figure cX6_figure 3 (some .int) [] 0 (vv_en 3 [pv_O (10, 0), pv_I x, pv_I l]) [] h Q := by
  show VV G 9 2 12 yX6_figure cX6_figure 3 (some .int) [] 0 [some (pv_O (10, 0)), some (pv_I x), some (pv_I l)] [] h Q
  obtain ⟨R0, RL, R1, R2, R3, R4, R5⟩ := id R
  obtain ⟨z0, z1, z2, z3, z4, z5⟩ := I.cs
  unfold op_figure at hq
  refine v_aload_n 1 dX6_figure_0 rfl rfl ?_
  refine v_iload_n 2 dX6_figure_1 rfl rfl ?_
  refine v_iload_n 3 dX6_figure_2 rfl rfl ?_
  refine v_invv (d' := 8) (k' := 2) (n' := 12) (k2 := 0) (n2 := 0) 6 [_, _] dX6_figure_3 mt_X6_88 mi_X6_flitchWithLeaf me_X6_flitchWithLeaf (by first | assumption | rfl) (by rfl) rfl rfl (of_decide_eq_true rfl) rfl (by decide) rfl rfl rfl rfl (C_X6_flitchWithLeaf R0 RL R2 (fun f hf => I.n24 hf) (fun e => ?_) (fun ho => ?_))
  · rw [if_neg e] at hq
    exact vv_out hq
  rw [if_pos ho] at hq
  have hc := ho.1.cl (by omega)
  have F := R2.1 _ hc.1
  refine v_iload_n 7 dX6_figure_6 rfl rfl ?_
  refine v_invv (d' := 1) (k' := 0) (n' := 0) (k2 := 0) (n2 := 0) 10 [_] dX6_figure_7 mt_X6_99 mi_X0_figureOf me_X0_figureOf (by first | assumption | rfl) (by rfl) rfl rfl (of_decide_eq_true rfl) rfl (by decide) rfl rfl rfl rfl (C_X0_figureOf F (I.n24 hc.1) ?_)
  rw [if_pos ho.2]
  refine v_ireturn dX6_figure_10 rfl ?_
  exact hq
set_option maxRecDepth 20000 in
theorem C_X6_isUsed {G : GW} {h : PH} {Q : RS → PH → Prop} {S : SP} {N : Nat} (R : Rp1 S h) (I : Iv S N) {x l : Int32} (hq : Q (an_ "java/lang/IndexOutOfBoundsException" "" "" (op_isUsed S x l)) h) : VV G 9 2 12 yX6_isUsed cX6_isUsed 3 (some .boolean) [] 0 (vv_en 3 [pv_O (10, 0), pv_I x, pv_I l]) [] h Q := by
  show VV G 9 2 12 yX6_isUsed cX6_isUsed 3 (some .boolean) [] 0 [some (pv_O (10, 0)), some (pv_I x), some (pv_I l)] [] h Q
  obtain ⟨R0, RL, R1, R2, R3, R4, R5⟩ := id R
  obtain ⟨z0, z1, z2, z3, z4, z5⟩ := I.cs
  unfold op_isUsed at hq
  refine v_aload_n 1 dX6_isUsed_0 rfl rfl ?_
  refine v_iload_n 2 dX6_isUsed_1 rfl rfl ?_
  refine v_iload_n 3 dX6_isUsed_2 rfl rfl ?_
  refine v_invv (d' := 8) (k' := 2) (n' := 12) (k2 := 0) (n2 := 0) 6 [_, _] dX6_isUsed_3 mt_X6_88 mi_X6_flitchWithLeaf me_X6_flitchWithLeaf (by first | assumption | rfl) (by rfl) rfl rfl (of_decide_eq_true rfl) rfl (by decide) rfl rfl rfl rfl (C_X6_flitchWithLeaf R0 RL R2 (fun f hf => I.n24 hf) (fun e => ?_) (fun ho => ?_))
  · rw [if_neg e] at hq
    exact vv_out hq
  rw [if_pos ho] at hq
  have hc := ho.1.cl (by omega)
  have F := R2.1 _ hc.1
  refine v_iload_n 7 dX6_isUsed_6 rfl rfl ?_
  refine v_invv (d' := 1) (k' := 0) (n' := 0) (k2 := 0) (n2 := 0) 10 [_] dX6_isUsed_7 mt_X6_102 mi_X0_isTaken me_X0_isTaken (by first | assumption | rfl) (by rfl) rfl rfl (of_decide_eq_true rfl) rfl (by decide) rfl rfl rfl rfl (C_X0_isTaken F (I.n24 hc.1) (I.u01 hc.1) ?_)
  rw [if_pos ho.2]
  refine v_zreturn (ty := .boolean) (by rcases I.u01 hc.1 (cl_ l) with q | q <;> rw [q] <;> rfl) dX6_isUsed_10 rfl ?_
  exact hq
set_option maxRecDepth 20000 in
theorem C_X6_jump {G : GW} {h : PH} {Q : RS → PH → Prop} {S : SP} {N : Nat} (R : Rp1 S h) (I : Iv S N) {x : Int32} (hq : Q (an_ "java/lang/IndexOutOfBoundsException" "java/util/NoSuchElementException" "" (op_jump S x)) h) : VV G 7 2 12 yX6_jump cX6_jump 3 (some .int) [] 0 (vv_en 3 [pv_O (10, 0), pv_I x]) [] h Q := by
  show VV G 7 2 12 yX6_jump cX6_jump 3 (some .int) [] 0 [some (pv_O (10, 0)), some (pv_I x), none] [] h Q
  obtain ⟨R0, RL, R1, R2, R3, R4, R5⟩ := id R
  obtain ⟨z0, z1, z2, z3, z4, z5⟩ := I.cs
  unfold op_jump at hq
  refine v_aload_n 1 dX6_jump_0 rfl rfl ?_
  refine v_iload_n 2 dX6_jump_1 rfl rfl ?_
  refine v_invv (d' := 6) (k' := 1) (n' := 6) (k2 := 1) (n2 := 6) 5 [_] dX6_jump_2 mt_X6_113 mi_X6_panelOf me_X6_panelOf (by first | assumption | rfl) (by rfl) rfl rfl (of_decide_eq_true rfl) rfl (by decide) rfl rfl rfl rfl (C_X6_panelOf R0 RL (fun e => ?_) (fun ho => ?_))
  · rw [if_neg e] at hq
    exact vv_out hq
  rw [if_pos ho] at hq
  have hc := ho.cl (by omega)
  have F := R3.1 _ hc.1
  have hfa := fun w => R2.1 _ (I.fa hc.1 w).2.2.2.1
  have hba := fun w => R2.1 _ (I.ba hc.1 w).2.2.2.1
  refine v_astore_n 6 dX6_jump_5 (by decide) rfl rfl ?_
  dsimp only [List.set]
  refine v_aload_n 7 dX6_jump_6 rfl rfl ?_
  refine v_getfr 10 dX6_jump_7 fl_X6_123 (by first | assumption | rfl) (by rfl) rfl ?_
  refine v_ifnonnull 21 13 dX6_jump_10 (by decide) rfl (fun c10 => ?_) (fun c10 => ?_)
  · have w := ((rr_0 (by decide) F.1.2.1).2 c10).1
    rw [if_neg w] at hq
    refine v_aload_n 22 dX6_jump_21 rfl rfl ?_
    refine v_getfi 25 dX6_jump_22 fl_X6_140 (by first | assumption | rfl) (by rfl) rfl ?_
    rw [F.2.2.1.1]
    refine v_ireturn dX6_jump_25 rfl ?_
    exact hq
  · have w := ((rr_0 (by decide) F.1.2.1).1 c10).1
    rw [if_pos w] at hq
    refine v_throw dX6_jump_13 dX6_jump_16 dX6_jump_17 dX6_jump_20 rfl th_X6_168_170 rfl (by decide) (by decide) (by decide) ?_
    exact hq
set_option maxRecDepth 20000 in
theorem C_X6_cup {G : GW} {h : PH} {Q : RS → PH → Prop} {S : SP} {N : Nat} (R : Rp1 S h) (I : Iv S N) {x a : Int32} (hq : Q (an_ "java/lang/IndexOutOfBoundsException" "java/lang/IllegalArgumentException" "java/lang/UnsupportedOperationException" (op_cup S x a)) h) : VV G 7 3 18 yX6_cup cX6_cup 4 (some .int) [] 0 (vv_en 4 [pv_O (10, 0), pv_I x, pv_I a]) [] h Q := by
  show VV G 7 3 18 yX6_cup cX6_cup 4 (some .int) [] 0 [some (pv_O (10, 0)), some (pv_I x), some (pv_I a), none] [] h Q
  obtain ⟨R0, RL, R1, R2, R3, R4, R5⟩ := id R
  obtain ⟨z0, z1, z2, z3, z4, z5⟩ := I.cs
  unfold op_cup at hq
  refine v_aload_n 1 dX6_cup_0 rfl rfl ?_
  refine v_iload_n 2 dX6_cup_1 rfl rfl ?_
  refine v_invv (d' := 6) (k' := 1) (n' := 6) (k2 := 2) (n2 := 12) 5 [_] dX6_cup_2 mt_X6_113 mi_X6_panelOf me_X6_panelOf (by first | assumption | rfl) (by rfl) rfl rfl (of_decide_eq_true rfl) rfl (by decide) rfl rfl rfl rfl (C_X6_panelOf R0 RL (fun e => ?_) (fun ho => ?_))
  · rw [if_neg e] at hq
    exact vv_out hq
  rw [if_pos ho] at hq
  have hc := ho.cl (by omega)
  have F := R3.1 _ hc.1
  have hfa := fun w => R2.1 _ (I.fa hc.1 w).2.2.2.1
  have hba := fun w => R2.1 _ (I.ba hc.1 w).2.2.2.1
  refine v_astore_n 6 dX6_cup_5 (by decide) rfl rfl ?_
  dsimp only [List.set]
  refine v_iload_n 7 dX6_cup_6 rfl rfl ?_
  refine v_iconstv (v := 4) 8 dX6_cup_7 (by decide) rfl ?_
  refine v_bipushv (v := 20) 10 dX6_cup_8 (by decide) rfl ?_
  refine v_invs (d' := 0) (k' := 0) (n' := 0) (k2 := 2) (n2 := 12) 13 [_, _, _] dX6_cup_10 mt_X6_40 ms_X6_isIn rfl rfl (of_decide_eq_true rfl) rfl (by decide) rfl rfl rfl rfl (C_X6_isIn ?_)
  refine v_if_ne 24 16 dX6_cup_13 (by decide) rfl (fun c13 => ?_) (fun c13 => ?_)
  · have c13 := Decidable.not_not.mp (fun q => c13 (f1_0.mpr q))
    rw [if_pos c13] at hq
    refine v_aload_n 25 dX6_cup_24 rfl rfl ?_
    refine v_invs (d' := 6) (k' := 1) (n' := 6) (k2 := 1) (n2 := 6) 28 [_] dX6_cup_25 mt_X6_181 ms_X6_pressedOnly rfl rfl (of_decide_eq_true rfl) rfl (by decide) rfl rfl rfl rfl (C_X6_pressedOnly F (fun e => ?_) (fun hp => ?_))
    · rw [if_pos e] at hq
      exact vv_out hq
    rw [if_neg hp] at hq
    refine v_iload_n 29 dX6_cup_28 rfl rfl ?_
    refine v_invv (d' := 2) (k' := 0) (n' := 0) (k2 := 1) (n2 := 6) 32 [_] dX6_cup_29 mt_X6_185 mi_X4_cupAt me_X4_cupAt (by first | assumption | rfl) (by rfl) rfl rfl (of_decide_eq_true rfl) rfl (by decide) rfl rfl rfl rfl (C_X4_cupAt F hfa hba (I.co hc.1) ?_)
    refine v_ireturn dX6_cup_32 rfl ?_
    exact hq
  · have c13 := f1_0.mp c13
    rw [if_neg c13] at hq
    refine v_throw dX6_cup_16 dX6_cup_19 dX6_cup_20 dX6_cup_23 rfl th_X6_44_46 rfl (by decide) (by decide) (by decide) ?_
    exact hq
set_option maxRecDepth 20000 in
theorem C_X6_isFlat {G : GW} {h : PH} {Q : RS → PH → Prop} {S : SP} {N : Nat} (R : Rp1 S h) (I : Iv S N) {x : Int32} (hq : Q (an_ "java/lang/IndexOutOfBoundsException" "java/lang/UnsupportedOperationException" "" (op_isFlat S x)) h) : VV G 7 2 12 yX6_isFlat cX6_isFlat 2 (some .boolean) [] 0 (vv_en 2 [pv_O (10, 0), pv_I x]) [] h Q := by
  show VV G 7 2 12 yX6_isFlat cX6_isFlat 2 (some .boolean) [] 0 [some (pv_O (10, 0)), some (pv_I x)] [] h Q
  obtain ⟨R0, RL, R1, R2, R3, R4, R5⟩ := id R
  obtain ⟨z0, z1, z2, z3, z4, z5⟩ := I.cs
  unfold op_isFlat at hq
  refine v_aload_n 1 dX6_isFlat_0 rfl rfl ?_
  refine v_iload_n 2 dX6_isFlat_1 rfl rfl ?_
  refine v_invv (d' := 6) (k' := 1) (n' := 6) (k2 := 1) (n2 := 6) 5 [_] dX6_isFlat_2 mt_X6_113 mi_X6_panelOf me_X6_panelOf (by first | assumption | rfl) (by rfl) rfl rfl (of_decide_eq_true rfl) rfl (by decide) rfl rfl rfl rfl (C_X6_panelOf R0 RL (fun e => ?_) (fun ho => ?_))
  · rw [if_neg e] at hq
    exact vv_out hq
  rw [if_pos ho] at hq
  have hc := ho.cl (by omega)
  have F := R3.1 _ hc.1
  have hfa := fun w => R2.1 _ (I.fa hc.1 w).2.2.2.1
  have hba := fun w => R2.1 _ (I.ba hc.1 w).2.2.2.1
  refine v_invs (d' := 6) (k' := 1) (n' := 6) (k2 := 0) (n2 := 0) 8 [_] dX6_isFlat_5 mt_X6_181 ms_X6_pressedOnly rfl rfl (of_decide_eq_true rfl) rfl (by decide) rfl rfl rfl rfl (C_X6_pressedOnly F (fun e => ?_) (fun hp => ?_))
  · rw [if_pos e] at hq
    exact vv_out hq
  rw [if_neg hp] at hq
  refine v_aload_n 9 dX6_isFlat_8 rfl rfl ?_
  refine v_getfi 12 dX6_isFlat_9 fl_X6_28 (by first | assumption | rfl) (by rfl) rfl ?_
  rw [R0.2.1]
  refine v_invv (d' := 3) (k' := 0) (n' := 0) (k2 := 0) (n2 := 0) 15 [_] dX6_isFlat_12 mt_X6_188 mi_X4_isFlatAt me_X4_isFlatAt (by first | assumption | rfl) (by rfl) rfl rfl (of_decide_eq_true rfl) rfl (by decide) rfl rfl rfl rfl (C_X4_isFlatAt F hfa hba (I.co hc.1) ?_)
  refine v_zreturn (ty := .boolean) (by first | rfl | decide | exact nz_if | exact nz_fi) dX6_isFlat_15 rfl ?_
  exact hq
set_option maxRecDepth 20000 in
theorem L_X6_cupMonth {G : GW} {h : PH} {Q : RS → PH → Prop} {S : SP} {p : Nat} {x : Int32} (R0 : q1_0 S h) (F : pn_1 S h p) (hfa : ¬ (s_fa S p).1 = 0 → fl_1 S h (hp_vr S.1 46 p 0).2) (hba : ¬ (s_ba S p).1 = 0 → fl_1 S h (hp_vr S.1 47 p 0).2) (hpo : 0 < hp_vi S.1 43 p 2) (ho9 : hp_old G h) : ∀ fuel : Nat, ∀ k, k + fuel = 12 → Q (an_ "java/lang/IndexOutOfBoundsException" "java/lang/UnsupportedOperationException" "java/util/NoSuchElementException" (cm_ S p fuel k)) h → VV G 7 1 6 yX6_cupMonth cX6_cupMonth 4 (some .int) [] 11 [some (pv_O (10, 0)), some (pv_I x), some (pv_O (13, p)), some (pv_I (nI k))] [] h Q := by
  intro fuel
  induction fuel with
  | zero =>
    intro k hk hq
    obtain rfl : k = 12 := by omega
    refine v_iload_n 12 dX6_cupMonth_11 rfl rfl ?_
    refine v_gets (z := (RX6, "MONTHS", "[I", pv_O (3, 0))) 15 dX6_cupMonth_12 gs_X6_191 (by simp [g_st]) (by intro r hr; cases hr; decide) rfl ?_
    dsimp only
    refine v_alen 16 dX6_cupMonth_15 (by first | assumption | rfl) (by simp [g_tys]) rfl ?_
    rw [(ho9.2.2.2.1 0).1]
    refine v_icmp_ge 50 19 dX6_cupMonth_16 (by decide) rfl (fun c16 => ?_) (fun c16 => absurd (by decide) c16)
    refine v_throw dX6_cupMonth_50 dX6_cupMonth_53 dX6_cupMonth_54 dX6_cupMonth_57 rfl th_X6_168_170 rfl (by decide) (by decide) (by decide) hq
  | succ fuel ih =>
    intro k hk hq
    refine v_iload_n 12 dX6_cupMonth_11 rfl rfl ?_
    refine v_gets (z := (RX6, "MONTHS", "[I", pv_O (3, 0))) 15 dX6_cupMonth_12 gs_X6_191 (by simp [g_st]) (by intro r hr; cases hr; decide) rfl ?_
    dsimp only
    refine v_alen 16 dX6_cupMonth_15 (by first | assumption | rfl) (by simp [g_tys]) rfl ?_
    rw [(ho9.2.2.2.1 0).1]
    refine v_icmp_ge 50 19 dX6_cupMonth_16 (by decide) rfl (fun c16 => ?_) (fun c16 => ?_)
    · exact absurd c16 (nI_ge (a := k) (b := 12) (by omega) (by decide))
    · refine v_aload_n 20 dX6_cupMonth_19 rfl rfl ?_
      refine v_aload_n 21 dX6_cupMonth_20 rfl rfl ?_
      refine v_getfi 24 dX6_cupMonth_21 fl_X6_28 (by first | assumption | rfl) (by rfl) rfl ?_
      rw [R0.2.1]
      refine v_gets (z := (RX6, "MONTHS", "[I", pv_O (3, 0))) 27 dX6_cupMonth_24 gs_X6_191 (by simp [g_st]) (by intro r hr; cases hr; decide) rfl ?_
      dsimp only
      refine v_iload_n 28 dX6_cupMonth_27 rfl rfl ?_
      refine v_iald 29 dX6_cupMonth_28 (by first | assumption | rfl) (by rw [(ho9.2.2.2.1 0).1]; exact in_nI (c := 12) (by omega) (by omega)) rfl ?_
      rw [(ho9.2.2.2.1 0).2, nI_clamp (by omega)]
      refine v_iadd 30 dX6_cupMonth_29 rfl ?_
      refine v_iconstv (v := 4) 31 dX6_cupMonth_30 (by decide) rfl ?_
      refine v_bipushv (v := 20) 33 dX6_cupMonth_31 (by decide) rfl ?_
      refine v_invs (d' := 1) (k' := 0) (n' := 0) (k2 := 1) (n2 := 6) 36 [_, _, _] dX6_cupMonth_33 mt_X6_195 ms_X6_within rfl rfl (of_decide_eq_true rfl) rfl (by decide) rfl rfl rfl rfl (C_X6_within ?_)
      refine v_invv (d' := 3) (k' := 0) (n' := 0) (k2 := 1) (n2 := 6) 39 [_] dX6_cupMonth_36 mt_X6_188 mi_X4_isFlatAt me_X4_isFlatAt (by first | assumption | rfl) (by rfl) rfl rfl (of_decide_eq_true rfl) rfl (by decide) rfl rfl rfl rfl (C_X4_isFlatAt F hfa hba hpo ?_)
      refine v_if_ne 44 42 dX6_cupMonth_39 (by decide) rfl (fun c39 => ?_) (fun c39 => ?_)
      · have c39 := Decidable.not_not.mp (fun q => c39 (f1_0.mpr q))
        rw [show cm_ S p (fuel + 1) k = cm_ S p fuel (k + 1) from if_pos c39] at hq
        refine v_iinc 47 dX6_cupMonth_44 rfl (by decide) rfl rfl ?_
        dsimp only [List.set]
        refine v_goto 11 dX6_cupMonth_47 (by decide) ?_
        rw [show nI k + Int32.ofInt 1 = nI (k + 1) from nI_1 k]
        exact ih (k + 1) (by omega) hq
      · have c39 := f1_0.mp c39
        rw [show cm_ S p (fuel + 1) k = (0, nI k) from if_neg c39] at hq
        refine v_iload_n 43 dX6_cupMonth_42 rfl rfl ?_
        refine v_ireturn dX6_cupMonth_43 rfl ?_
        exact hq
set_option maxRecDepth 20000 in
theorem C_X6_cupMonth {G : GW} {h : PH} {Q : RS → PH → Prop} {S : SP} {N : Nat} (R : Rp1 S h) (I : Iv S N) {x : Int32} (hq : Q (an_ "java/lang/IndexOutOfBoundsException" "java/lang/UnsupportedOperationException" "java/util/NoSuchElementException" (op_cupMonth S x)) h) : VV G 8 3 18 yX6_cupMonth cX6_cupMonth 4 (some .int) [] 0 (vv_en 4 [pv_O (10, 0), pv_I x]) [] h Q := by
  show VV G 8 3 18 yX6_cupMonth cX6_cupMonth 4 (some .int) [] 0 [some (pv_O (10, 0)), some (pv_I x), none, none] [] h Q
  obtain ⟨R0, RL, R1, R2, R3, R4, R5⟩ := id R
  obtain ⟨z0, z1, z2, z3, z4, z5⟩ := I.cs
  unfold op_cupMonth at hq
  refine v_aload_n 1 dX6_cupMonth_0 rfl rfl ?_
  refine v_iload_n 2 dX6_cupMonth_1 rfl rfl ?_
  refine v_invv (d' := 6) (k' := 1) (n' := 6) (k2 := 2) (n2 := 12) 5 [_] dX6_cupMonth_2 mt_X6_113 mi_X6_panelOf me_X6_panelOf (by first | assumption | rfl) (by rfl) rfl rfl (of_decide_eq_true rfl) rfl (by decide) rfl rfl rfl rfl (C_X6_panelOf R0 RL (fun e => ?_) (fun ho => ?_))
  · rw [if_neg e] at hq
    exact vv_out hq
  rw [if_pos ho] at hq
  have hc := ho.cl (by omega)
  have F := R3.1 _ hc.1
  have hfa := fun w => R2.1 _ (I.fa hc.1 w).2.2.2.1
  have hba := fun w => R2.1 _ (I.ba hc.1 w).2.2.2.1
  refine v_invs (d' := 6) (k' := 1) (n' := 6) (k2 := 1) (n2 := 6) 8 [_] dX6_cupMonth_5 mt_X6_181 ms_X6_pressedOnly rfl rfl (of_decide_eq_true rfl) rfl (by decide) rfl rfl rfl rfl (C_X6_pressedOnly F (fun e => ?_) (fun hp => ?_))
  · rw [if_pos e] at hq
    exact vv_out hq
  rw [if_neg hp] at hq
  refine v_astore_n 9 dX6_cupMonth_8 (by decide) rfl rfl ?_
  dsimp only [List.set]
  refine v_iconstv (v := 0) 10 dX6_cupMonth_9 (by decide) rfl ?_
  refine v_istore_n 11 dX6_cupMonth_10 (by decide) rfl rfl ?_
  dsimp only [List.set]
  refine VV.know (fun ho9 _ _ => ?_)
  exact VV.less (by decide) (by decide) (by decide) (L_X6_cupMonth R0 F hfa hba (I.co hc.1) ho9 12 0 rfl hq)
set_option maxRecDepth 20000 in
theorem C_X6_isThrough {G : GW} {h : PH} {Q : RS → PH → Prop} {S : SP} {N : Nat} (R : Rp1 S h) (I : Iv S N) {x : Int32} (hq : Q (an_ "java/lang/IndexOutOfBoundsException" "" "" (op_isThrough S x)) h) : VV G 7 1 6 yX6_isThrough cX6_isThrough 2 (some .boolean) [] 0 (vv_en 2 [pv_O (10, 0), pv_I x]) [] h Q := by
  show VV G 7 1 6 yX6_isThrough cX6_isThrough 2 (some .boolean) [] 0 [some (pv_O (10, 0)), some (pv_I x)] [] h Q
  obtain ⟨R0, RL, R1, R2, R3, R4, R5⟩ := id R
  obtain ⟨z0, z1, z2, z3, z4, z5⟩ := I.cs
  unfold op_isThrough at hq
  refine v_aload_n 1 dX6_isThrough_0 rfl rfl ?_
  refine v_iload_n 2 dX6_isThrough_1 rfl rfl ?_
  refine v_invv (d' := 6) (k' := 1) (n' := 6) (k2 := 0) (n2 := 0) 5 [_] dX6_isThrough_2 mt_X6_113 mi_X6_panelOf me_X6_panelOf (by first | assumption | rfl) (by rfl) rfl rfl (of_decide_eq_true rfl) rfl (by decide) rfl rfl rfl rfl (C_X6_panelOf R0 RL (fun e => ?_) (fun ho => ?_))
  · rw [if_neg e] at hq
    exact vv_out hq
  rw [if_pos ho] at hq
  have hc := ho.cl (by omega)
  have F := R3.1 _ hc.1
  have hfa := fun w => R2.1 _ (I.fa hc.1 w).2.2.2.1
  have hba := fun w => R2.1 _ (I.ba hc.1 w).2.2.2.1
  refine v_invv (d' := 0) (k' := 0) (n' := 0) (k2 := 0) (n2 := 0) 8 [] dX6_isThrough_5 mt_X6_199 mi_X4_isWornThrough me_X4_isWornThrough (by first | assumption | rfl) (by rfl) rfl rfl (of_decide_eq_true rfl) rfl (by decide) rfl rfl rfl rfl (C_X4_isWornThrough F ?_)
  refine v_zreturn (ty := .boolean) (by first | rfl | decide | exact nz_if | exact nz_fi) dX6_isThrough_8 rfl ?_
  exact hq
set_option maxRecDepth 20000 in
theorem C_X6_ghosts {G : GW} {h : PH} {Q : RS → PH → Prop} {S : SP} {N : Nat} (R : Rp1 S h) (I : Iv S N) {x : Int32} (hq : Q (an_ "java/lang/IndexOutOfBoundsException" "" "" (op_ghosts S x)) h) : VV G 7 1 6 yX6_ghosts cX6_ghosts 2 (some .int) [] 0 (vv_en 2 [pv_O (10, 0), pv_I x]) [] h Q := by
  show VV G 7 1 6 yX6_ghosts cX6_ghosts 2 (some .int) [] 0 [some (pv_O (10, 0)), some (pv_I x)] [] h Q
  obtain ⟨R0, RL, R1, R2, R3, R4, R5⟩ := id R
  obtain ⟨z0, z1, z2, z3, z4, z5⟩ := I.cs
  unfold op_ghosts at hq
  refine v_aload_n 1 dX6_ghosts_0 rfl rfl ?_
  refine v_iload_n 2 dX6_ghosts_1 rfl rfl ?_
  refine v_invv (d' := 6) (k' := 1) (n' := 6) (k2 := 0) (n2 := 0) 5 [_] dX6_ghosts_2 mt_X6_113 mi_X6_panelOf me_X6_panelOf (by first | assumption | rfl) (by rfl) rfl rfl (of_decide_eq_true rfl) rfl (by decide) rfl rfl rfl rfl (C_X6_panelOf R0 RL (fun e => ?_) (fun ho => ?_))
  · rw [if_neg e] at hq
    exact vv_out hq
  rw [if_pos ho] at hq
  have hc := ho.cl (by omega)
  have F := R3.1 _ hc.1
  have hfa := fun w => R2.1 _ (I.fa hc.1 w).2.2.2.1
  have hba := fun w => R2.1 _ (I.ba hc.1 w).2.2.2.1
  refine v_getfi 8 dX6_ghosts_5 fl_X6_223 (by first | assumption | rfl) (by rfl) rfl ?_
  rw [F.2.2.1.2.2.2.2.2.2.2]
  refine v_ireturn dX6_ghosts_8 rfl ?_
  exact hq
set_option maxRecDepth 20000 in
theorem C_X6_price {G : GW} {h : PH} {Q : RS → PH → Prop} {S : SP} {N : Nat} (R : Rp1 S h) (I : Iv S N) {x : Int32} (hq : Q (an_ "java/lang/IndexOutOfBoundsException" "" "" (op_price S x)) h) : VV G 7 1 6 yX6_price cX6_price 2 (some .int) [] 0 (vv_en 2 [pv_O (10, 0), pv_I x]) [] h Q := by
  show VV G 7 1 6 yX6_price cX6_price 2 (some .int) [] 0 [some (pv_O (10, 0)), some (pv_I x)] [] h Q
  obtain ⟨R0, RL, R1, R2, R3, R4, R5⟩ := id R
  obtain ⟨z0, z1, z2, z3, z4, z5⟩ := I.cs
  unfold op_price at hq
  refine v_aload_n 1 dX6_price_0 rfl rfl ?_
  refine v_iload_n 2 dX6_price_1 rfl rfl ?_
  refine v_invv (d' := 6) (k' := 1) (n' := 6) (k2 := 0) (n2 := 0) 5 [_] dX6_price_2 mt_X6_113 mi_X6_panelOf me_X6_panelOf (by first | assumption | rfl) (by rfl) rfl rfl (of_decide_eq_true rfl) rfl (by decide) rfl rfl rfl rfl (C_X6_panelOf R0 RL (fun e => ?_) (fun ho => ?_))
  · rw [if_neg e] at hq
    exact vv_out hq
  rw [if_pos ho] at hq
  have hc := ho.cl (by omega)
  have F := R3.1 _ hc.1
  have hfa := fun w => R2.1 _ (I.fa hc.1 w).2.2.2.1
  have hba := fun w => R2.1 _ (I.ba hc.1 w).2.2.2.1
  refine v_invv (d' := 1) (k' := 0) (n' := 0) (k2 := 0) (n2 := 0) 8 [] dX6_price_5 mt_X6_321 mi_X4_worth me_X4_worth (by first | assumption | rfl) (by rfl) rfl rfl (of_decide_eq_true rfl) rfl (by decide) rfl rfl rfl rfl (C_X4_worth F ?_)
  refine v_ireturn dX6_price_8 rfl ?_
  exact hq
set_option maxRecDepth 20000 in
theorem C_X6_pieces {G : GW} {h : PH} {Q : RS → PH → Prop} {S : SP} {N : Nat} (R : Rp1 S h) (I : Iv S N) {x : Int32} (hq : Q (an_ "java/lang/IndexOutOfBoundsException" "" "" (op_pieces S x)) h) : VV G 7 1 6 yX6_pieces cX6_pieces 2 (some .int) [] 0 (vv_en 2 [pv_O (10, 0), pv_I x]) [] h Q := by
  show VV G 7 1 6 yX6_pieces cX6_pieces 2 (some .int) [] 0 [some (pv_O (10, 0)), some (pv_I x)] [] h Q
  obtain ⟨R0, RL, R1, R2, R3, R4, R5⟩ := id R
  obtain ⟨z0, z1, z2, z3, z4, z5⟩ := I.cs
  unfold op_pieces at hq
  refine v_aload_n 1 dX6_pieces_0 rfl rfl ?_
  refine v_iload_n 2 dX6_pieces_1 rfl rfl ?_
  refine v_invv (d' := 6) (k' := 1) (n' := 6) (k2 := 0) (n2 := 0) 5 [_] dX6_pieces_2 mt_X6_229 mi_X6_pictureOf me_X6_pictureOf (by first | assumption | rfl) (by rfl) rfl rfl (of_decide_eq_true rfl) rfl (by decide) rfl rfl rfl rfl (C_X6_pictureOf R0 RL (fun e => ?_) (fun ho => ?_))
  · rw [if_neg e] at hq
    exact vv_out hq
  rw [if_pos ho] at hq
  have hc := ho.cl (by omega)
  have F := R4.1 _ hc.1
  obtain ⟨I0, I1, I2, I3, I4⟩ := I.2.2.2.2.1 _ hc.1
  refine v_getfi 8 dX6_pieces_5 fl_X6_248 (by first | assumption | rfl) (by rfl) rfl ?_
  rw [F.2.1.1]
  refine v_ireturn dX6_pieces_8 rfl ?_
  exact hq
set_option maxRecDepth 20000 in
theorem C_X6_islands {G : GW} {h : PH} {Q : RS → PH → Prop} {S : SP} {N : Nat} (R : Rp1 S h) (I : Iv S N) {x : Int32} (hq : Q (an_ "java/lang/IndexOutOfBoundsException" "" "" (op_islands S x)) h) : VV G 7 1 6 yX6_islands cX6_islands 2 (some .int) [] 0 (vv_en 2 [pv_O (10, 0), pv_I x]) [] h Q := by
  show VV G 7 1 6 yX6_islands cX6_islands 2 (some .int) [] 0 [some (pv_O (10, 0)), some (pv_I x)] [] h Q
  obtain ⟨R0, RL, R1, R2, R3, R4, R5⟩ := id R
  obtain ⟨z0, z1, z2, z3, z4, z5⟩ := I.cs
  unfold op_islands at hq
  refine v_aload_n 1 dX6_islands_0 rfl rfl ?_
  refine v_iload_n 2 dX6_islands_1 rfl rfl ?_
  refine v_invv (d' := 6) (k' := 1) (n' := 6) (k2 := 0) (n2 := 0) 5 [_] dX6_islands_2 mt_X6_229 mi_X6_pictureOf me_X6_pictureOf (by first | assumption | rfl) (by rfl) rfl rfl (of_decide_eq_true rfl) rfl (by decide) rfl rfl rfl rfl (C_X6_pictureOf R0 RL (fun e => ?_) (fun ho => ?_))
  · rw [if_neg e] at hq
    exact vv_out hq
  rw [if_pos ho] at hq
  have hc := ho.cl (by omega)
  have F := R4.1 _ hc.1
  obtain ⟨I0, I1, I2, I3, I4⟩ := I.2.2.2.2.1 _ hc.1
  refine v_getfi 8 dX6_islands_5 fl_X6_258 (by first | assumption | rfl) (by rfl) rfl ?_
  rw [F.2.1.2.1]
  refine v_ireturn dX6_islands_8 rfl ?_
  exact hq
theorem i8_ {x : Int32} (h : 0 ≤ x ∧ x ≤ 7) : ∃ j : Nat, j < 8 ∧ x = nI j := by
  obtain ⟨j, hj, e⟩ := nI_of (x := x) (Int32.not_lt.mpr h.1)
  refine ⟨j, ?_, e⟩
  rcases Nat.lt_or_ge j 8 with q | q
  · exact q
  · exact absurd (e ▸ h.2) (nI_ge (a := 7) (b := j) q hj)
theorem pl_ {a b : Int32} (h : (0 ≤ a ∧ a ≤ 7) ∧ (0 ≤ b ∧ b ≤ 7)) : ∃ k : Nat, k < 64 ∧ a * 8 + b = nI k ∧ cl_ (a * 8 + b) = k := by
  obtain ⟨i, hi, rfl⟩ := i8_ h.1
  obtain ⟨j, hj, rfl⟩ := i8_ h.2
  have e : nI i * 8 + nI j = nI (i * 8 + j) := by rw [show nI i * 8 = nI (i * 8) from pk_mul i 8, nI_add]
  exact ⟨i * 8 + j, by omega, e, by unfold cl_; rw [e, nI_clamp (by omega)]⟩
theorem ch_ {n : Nat} (h : n < 65536) : ((nI n).toUInt32 % 65536).toInt32 = nI n := by
  rw [pk_char, pk_tn (by omega), Nat.mod_eq_of_lt h]
set_option maxRecDepth 20000 in
theorem C_X5_fieldOf {G : GW} {h : PH} {Q : RS → PH → Prop} {S : SP} {p k : Nat} (F : pi_1 S h p) (hk : k < 64) (hq : Q (.inl (some (pv_I (hp_vi S.1 63 p k)))) h) : VV G 0 0 0 yX5_fieldOf cX5_fieldOf 2 (some .int) [] 0 (vv_en 2 [pv_O (14, p), pv_I (nI k)]) [] h Q := by
  show VV G 0 0 0 yX5_fieldOf cX5_fieldOf 2 (some .int) [] 0 [some (pv_O (14, p)), some (pv_I (nI k))] [] h Q
  refine v_iload_n 1 dX5_fieldOf_0 rfl rfl ?_
  refine v_if_lt 19 4 dX5_fieldOf_1 (by decide) rfl (fun c1 => ?_) (fun c1 => ?_)
  · exact absurd c1 (nI_pos (by omega))
  · refine v_iload_n 5 dX5_fieldOf_4 rfl rfl ?_
    refine v_bipushv (v := 64) 7 dX5_fieldOf_5 (by decide) rfl ?_
    refine v_icmp_ge 19 10 dX5_fieldOf_7 (by decide) rfl (fun c7 => ?_) (fun c7 => ?_)
    · exact absurd c7 (nI_ge (a := k) (b := 64) hk (by decide))
    · refine v_aload_n 11 dX5_fieldOf_10 rfl rfl ?_
      refine v_getfr 14 dX5_fieldOf_11 fl_X5_9 (by first | assumption | rfl) (by rfl) rfl ?_
      rw [F.1.2.1]
      refine v_iload_n 15 dX5_fieldOf_14 rfl rfl ?_
      refine v_iald 16 dX5_fieldOf_15 (by first | assumption | rfl) (by rw [F.2.2.1.1]; exact in_nI hk (by omega)) rfl ?_
      rw [nI_clamp (by omega), F.2.2.2.1 k hk]
      refine v_goto 20 dX5_fieldOf_16 (by decide) ?_
      refine v_ireturn dX5_fieldOf_20 rfl ?_
      exact hq
set_option maxRecDepth 20000 in
theorem L_X5_countBurnt {G : GW} {h : PH} {Q : RS → PH → Prop} {S : SP} {p : Nat} (F : pi_1 S h p) (hq : Q (.inl (some (pv_I (nI (s_bu S p 8))))) h) : ∀ fuel : Nat, ∀ k, k + fuel = 8 → VV G 0 0 0 yX5_countBurnt cX5_countBurnt 3 (some .int) [] 4 [some (pv_O (14, p)), some (pv_I (nI (s_bu S p k))), some (pv_I (nI k))] [] h Q := by
  intro fuel
  induction fuel with
  | zero =>
    intro k hk
    obtain rfl : k = 8 := by omega
    refine v_iload_n 5 dX5_countBurnt_4 rfl rfl ?_
    refine v_bipushv (v := 8) 7 dX5_countBurnt_5 (by decide) rfl ?_
    refine v_icmp_ge 30 10 dX5_countBurnt_7 (by decide) rfl (fun c7 => ?_) (fun c7 => absurd (by decide) c7)
    refine v_iload_n 31 dX5_countBurnt_30 rfl rfl ?_
    exact v_ireturn dX5_countBurnt_31 rfl hq
  | succ fuel ih =>
    intro k hk
    refine v_iload_n 5 dX5_countBurnt_4 rfl rfl ?_
    refine v_bipushv (v := 8) 7 dX5_countBurnt_5 (by decide) rfl ?_
    refine v_icmp_ge 30 10 dX5_countBurnt_7 (by decide) rfl (fun c7 => ?_) (fun c7 => ?_)
    · exact absurd c7 (nI_ge (a := k) (b := 8) (by omega) (by decide))
    · refine v_aload_n 11 dX5_countBurnt_10 rfl rfl ?_
      refine v_getfr 14 dX5_countBurnt_11 fl_X5_15 (by first | assumption | rfl) (by rfl) rfl ?_
      rw [F.1.2.2.1]
      refine v_iload_n 15 dX5_countBurnt_14 rfl rfl ?_
      refine v_iald 16 dX5_countBurnt_15 (by first | assumption | rfl) (by rw [F.2.2.1.2.1]; exact in_nI (by omega) (by omega)) rfl ?_
      rw [nI_clamp (by omega), F.2.2.2.2.1 k (by omega)]
      refine v_bipushv (v := 90) 18 dX5_countBurnt_16 (by decide) rfl ?_
      refine v_icmp_le 24 21 dX5_countBurnt_18 (by decide) rfl (fun c18 => ?_) (fun c18 => ?_)
      · refine v_iinc 27 dX5_countBurnt_24 rfl (by decide) rfl rfl ?_
        dsimp only [List.set]
        refine v_goto 4 dX5_countBurnt_27 (by decide) ?_
        rw [show nI k + Int32.ofInt 1 = nI (k + 1) from nI_1 k]
        have e : s_bu S p (k + 1) = s_bu S p k := by
          show s_bu S p k + (if 90 < hp_vi S.1 64 p k then 1 else 0) = _
          rw [if_neg (Int32.not_lt.mpr c18)]; rfl
        rw [← e]
        exact ih (k + 1) (by omega)
      · refine v_iinc 24 dX5_countBurnt_21 rfl (by decide) rfl rfl ?_
        dsimp only [List.set]
        refine v_iinc 27 dX5_countBurnt_24 rfl (by decide) rfl rfl ?_
        dsimp only [List.set]
        refine v_goto 4 dX5_countBurnt_27 (by decide) ?_
        rw [show nI k + Int32.ofInt 1 = nI (k + 1) from nI_1 k, show nI (s_bu S p k) + Int32.ofInt 1 = nI (s_bu S p k + 1) from nI_1 _]
        have e : s_bu S p (k + 1) = s_bu S p k + 1 := by
          show s_bu S p k + (if 90 < hp_vi S.1 64 p k then 1 else 0) = _
          rw [if_pos (Int32.not_le.mp c18)]
        rw [← e]
        exact ih (k + 1) (by omega)
set_option maxRecDepth 20000 in
theorem C_X5_countBurnt {G : GW} {h : PH} {Q : RS → PH → Prop} {S : SP} {p : Nat} (F : pi_1 S h p) (hq : Q (.inl (some (pv_I (nI (s_bu S p 8))))) h) : VV G 0 0 0 yX5_countBurnt cX5_countBurnt 3 (some .int) [] 0 (vv_en 3 [pv_O (14, p)]) [] h Q := by
  show VV G 0 0 0 yX5_countBurnt cX5_countBurnt 3 (some .int) [] 0 [some (pv_O (14, p)), none, none] [] h Q
  refine v_iconstv (v := 0) 1 dX5_countBurnt_0 (by decide) rfl ?_
  refine v_istore_n 2 dX5_countBurnt_1 (by decide) rfl rfl ?_
  dsimp only [List.set]
  refine v_iconstv (v := 0) 3 dX5_countBurnt_2 (by decide) rfl ?_
  refine v_istore_n 4 dX5_countBurnt_3 (by decide) rfl rfl ?_
  dsimp only [List.set]
  exact L_X5_countBurnt F hq 8 0 rfl
set_option maxRecDepth 20000 in
theorem C_X6_burnt {G : GW} {h : PH} {Q : RS → PH → Prop} {S : SP} {N : Nat} (R : Rp1 S h) (I : Iv S N) {x : Int32} (hq : Q (an_ "java/lang/IndexOutOfBoundsException" "" "" (op_burnt S x)) h) : VV G 7 1 6 yX6_burnt cX6_burnt 2 (some .int) [] 0 (vv_en 2 [pv_O (10, 0), pv_I x]) [] h Q := by
  show VV G 7 1 6 yX6_burnt cX6_burnt 2 (some .int) [] 0 [some (pv_O (10, 0)), some (pv_I x)] [] h Q
  obtain ⟨R0, RL, R1, R2, R3, R4, R5⟩ := id R
  obtain ⟨z0, z1, z2, z3, z4, z5⟩ := I.cs
  unfold op_burnt at hq
  refine v_aload_n 1 dX6_burnt_0 rfl rfl ?_
  refine v_iload_n 2 dX6_burnt_1 rfl rfl ?_
  refine v_invv (d' := 6) (k' := 1) (n' := 6) (k2 := 0) (n2 := 0) 5 [_] dX6_burnt_2 mt_X6_229 mi_X6_pictureOf me_X6_pictureOf (by first | assumption | rfl) (by rfl) rfl rfl (of_decide_eq_true rfl) rfl (by decide) rfl rfl rfl rfl (C_X6_pictureOf R0 RL (fun e => ?_) (fun ho => ?_))
  · rw [if_neg e] at hq
    exact vv_out hq
  rw [if_pos ho] at hq
  have hc := ho.cl (by omega)
  have F := R4.1 _ hc.1
  obtain ⟨I0, I1, I2, I3, I4⟩ := I.2.2.2.2.1 _ hc.1
  refine v_invv (d' := 0) (k' := 0) (n' := 0) (k2 := 0) (n2 := 0) 8 [] dX6_burnt_5 mt_X6_290 mi_X5_countBurnt me_X5_countBurnt (by first | assumption | rfl) (by rfl) rfl rfl (of_decide_eq_true rfl) rfl (by decide) rfl rfl rfl rfl (C_X5_countBurnt F ?_)
  refine v_ireturn dX6_burnt_8 rfl ?_
  exact hq
set_option maxRecDepth 20000 in
theorem C_X6_fieldAt {G : GW} {h : PH} {Q : RS → PH → Prop} {S : SP} {N : Nat} (R : Rp1 S h) (I : Iv S N) {x a b : Int32} (hq : Q (an_ "java/lang/IndexOutOfBoundsException" "" "" (op_fieldAt S x a b)) h) : VV G 8 2 12 yX6_fieldAt cX6_fieldAt 4 (some .char) [] 0 (vv_en 4 [pv_O (10, 0), pv_I x, pv_I a, pv_I b]) [] h Q := by
  show VV G 8 2 12 yX6_fieldAt cX6_fieldAt 4 (some .char) [] 0 [some (pv_O (10, 0)), some (pv_I x), some (pv_I a), some (pv_I b)] [] h Q
  obtain ⟨R0, RL, R1, R2, R3, R4, R5⟩ := id R
  obtain ⟨z0, z1, z2, z3, z4, z5⟩ := I.cs
  unfold op_fieldAt at hq
  refine v_bipushv (v := 97) 2 dX6_fieldAt_0 (by decide) rfl ?_
  refine v_aload_n 3 dX6_fieldAt_2 rfl rfl ?_
  refine v_iload_n 4 dX6_fieldAt_3 rfl rfl ?_
  refine v_iload_n 5 dX6_fieldAt_4 rfl rfl ?_
  refine v_iload_n 6 dX6_fieldAt_5 rfl rfl ?_
  refine v_invv (d' := 7) (k' := 2) (n' := 12) (k2 := 0) (n2 := 0) 9 [_, _, _] dX6_fieldAt_6 mt_X6_251 mi_X6_pictureWithPlace me_X6_pictureWithPlace (by first | assumption | rfl) (by rfl) rfl rfl (of_decide_eq_true rfl) rfl (by decide) rfl rfl rfl rfl (C_X6_pictureWithPlace R0 RL (fun e => ?_) (fun ho => ?_))
  · rw [if_neg e] at hq
    exact vv_out hq
  rw [if_pos ho] at hq
  have hc := ho.1.cl (by omega)
  have F := R4.1 _ hc.1
  obtain ⟨I0, I1, I2, I3, I4⟩ := I.2.2.2.2.1 _ hc.1
  obtain ⟨k9, hk9, ek, ec⟩ := pl_ ho.2
  rw [ec] at hq
  obtain ⟨w, hw, hw8⟩ := I2 k9 hk9
  refine v_iload_n 10 dX6_fieldAt_9 rfl rfl ?_
  refine v_bipushv (v := 8) 12 dX6_fieldAt_10 (by decide) rfl ?_
  refine v_imul 13 dX6_fieldAt_12 rfl ?_
  refine v_iload_n 14 dX6_fieldAt_13 rfl rfl ?_
  refine v_iadd 15 dX6_fieldAt_14 rfl ?_
  rw [ek]
  refine v_invv (d' := 0) (k' := 0) (n' := 0) (k2 := 0) (n2 := 0) 18 [_] dX6_fieldAt_15 mt_X6_255 mi_X5_fieldOf me_X5_fieldOf (by first | assumption | rfl) (by rfl) rfl rfl (of_decide_eq_true rfl) rfl (by decide) rfl rfl rfl rfl (C_X5_fieldOf F hk9 ?_)
  rw [hw] at hq ⊢
  rw [show (97 : Int32) + nI w = nI (97 + w) from nI_add 97 w] at hq
  refine v_iadd 19 dX6_fieldAt_18 rfl ?_
  rw [show (97 : Int32) + nI w = nI (97 + w) from nI_add 97 w]
  refine v_i2c 20 dX6_fieldAt_19 rfl ?_
  rw [ch_ (by omega)]
  refine v_zreturn (ty := .char) (pk_charN (by omega)).1 dX6_fieldAt_20 rfl ?_
  exact hq
set_option maxRecDepth 20000 in
theorem C_X6_leafAt {G : GW} {h : PH} {Q : RS → PH → Prop} {S : SP} {N : Nat} (R : Rp1 S h) (I : Iv S N) {x c a b : Int32} (hq : Q (an_ "java/lang/IndexOutOfBoundsException" "java/util/NoSuchElementException" "" (op_leafAt S x c a b)) h) : VV G 8 3 18 yX6_leafAt cX6_leafAt 7 (some .int) [] 0 (vv_en 7 [pv_O (10, 0), pv_I x, pv_I c, pv_I a, pv_I b]) [] h Q := by
  show VV G 8 3 18 yX6_leafAt cX6_leafAt 7 (some .int) [] 0 [some (pv_O (10, 0)), some (pv_I x), some (pv_I c), some (pv_I a), some (pv_I b), none, none] [] h Q
  obtain ⟨R0, RL, R1, R2, R3, R4, R5⟩ := id R
  obtain ⟨z0, z1, z2, z3, z4, z5⟩ := I.cs
  unfold op_leafAt at hq
  refine v_aload_n 1 dX6_leafAt_0 rfl rfl ?_
  refine v_iload_n 2 dX6_leafAt_1 rfl rfl ?_
  refine v_iload_n 3 dX6_leafAt_2 rfl rfl ?_
  refine v_iload 5 dX6_leafAt_3 rfl rfl ?_
  refine v_invv (d' := 7) (k' := 2) (n' := 12) (k2 := 1) (n2 := 6) 8 [_, _, _] dX6_leafAt_5 mt_X6_251 mi_X6_pictureWithPlace me_X6_pictureWithPlace (by first | assumption | rfl) (by rfl) rfl rfl (of_decide_eq_true rfl) rfl (by decide) rfl rfl rfl rfl (C_X6_pictureWithPlace R0 RL (fun e => ?_) (fun ho => ?_))
  · rw [if_neg e] at hq
    exact vv_out hq
  rw [if_pos ho] at hq
  have hc := ho.1.cl (by omega)
  have F := R4.1 _ hc.1
  obtain ⟨I0, I1, I2, I3, I4⟩ := I.2.2.2.2.1 _ hc.1
  obtain ⟨k9, hk9, ek, ec⟩ := pl_ ho.2
  rw [ec] at hq
  refine v_astore 10 dX6_leafAt_8 (by decide) rfl rfl ?_
  dsimp only [List.set]
  refine v_aload 12 dX6_leafAt_10 rfl rfl ?_
  refine v_iload_n 13 dX6_leafAt_12 rfl rfl ?_
  refine v_invs (d' := 6) (k' := 1) (n' := 6) (k2 := 0) (n2 := 0) 16 [_, _] dX6_leafAt_13 mt_X6_273 ms_X6_packetWithCopy rfl rfl (of_decide_eq_true rfl) rfl (by decide) rfl rfl rfl rfl (C_X6_packetWithCopy F (fun e => ?_) (fun hp => ?_))
  · rw [if_neg e] at hq
    exact vv_out hq
  rw [if_pos hp] at hq
  have E := F.2.2.2.2.2.2 hp.1
  obtain ⟨-, -, -, a9, m9, e1, e2, e3, e4, -⟩ := (I.pa hc.1 hp.1).2
  unfold s_lo at hq
  rw [← E.2.2.1, ← E.2.2.2] at hq
  refine v_astore 18 dX6_leafAt_16 (by decide) rfl rfl ?_
  dsimp only [List.set]
  refine v_aload 20 dX6_leafAt_18 rfl rfl ?_
  refine v_aload 22 dX6_leafAt_20 rfl rfl ?_
  refine v_iload_n 23 dX6_leafAt_22 rfl rfl ?_
  refine v_bipushv (v := 8) 25 dX6_leafAt_23 (by decide) rfl ?_
  refine v_imul 26 dX6_leafAt_25 rfl ?_
  refine v_iload 28 dX6_leafAt_26 rfl rfl ?_
  refine v_iadd 29 dX6_leafAt_28 rfl ?_
  rw [ek]
  refine v_invv (d' := 0) (k' := 0) (n' := 0) (k2 := 0) (n2 := 0) 32 [_] dX6_leafAt_29 mt_X6_255 mi_X5_fieldOf me_X5_fieldOf (by first | assumption | rfl) (by rfl) rfl rfl (of_decide_eq_true rfl) rfl (by decide) rfl rfl rfl rfl (C_X5_fieldOf F hk9 ?_)
  refine v_iload_n 33 dX6_leafAt_32 rfl rfl ?_
  refine v_invv (d' := 0) (k' := 0) (n' := 0) (k2 := 0) (n2 := 0) 36 [_, _] dX6_leafAt_33 mt_X6_277 mi_X3_leafFor me_X3_leafFor (by first | assumption | rfl) (by rfl) rfl rfl (of_decide_eq_true rfl) rfl (by decide) rfl rfl rfl rfl (C_X3_leafFor rfl (by rw [E.2.2.2, e2]; exact nI_lt (a := 0) (by omega) (by omega)) ?_)
  refine v_ireturn dX6_leafAt_36 rfl ?_
  exact hq
theorem i16_ {x : Int32} (h : 0 ≤ x ∧ x ≤ 15) : vp_in x 16 := by
  obtain ⟨j, hj, e⟩ := nI_of (x := x) (Int32.not_lt.mpr h.1)
  rw [e]
  refine in_nI ?_ hj
  rcases Nat.lt_or_ge j 16 with q | q
  · exact q
  · exact absurd (e ▸ h.2) (nI_ge (a := 15) (b := j) q hj)
set_option maxRecDepth 20000 in
theorem C_X6_gap {G : GW} {h : PH} {Q : RS → PH → Prop} {S : SP} {N : Nat} (R : Rp1 S h) (I : Iv S N) {x a b : Int32} (hq : Q (an_ "java/lang/IllegalArgumentException" "" "" (op_gap x a b)) h) : VV G 6 1 6 yX6_gap cX6_gap 5 (some .int) [] 0 (vv_en 5 [pv_O (10, 0), pv_I x, pv_I a, pv_I b]) [] h Q := by
  show VV G 6 1 6 yX6_gap cX6_gap 5 (some .int) [] 0 [some (pv_O (10, 0)), some (pv_I x), some (pv_I a), some (pv_I b), none] [] h Q
  obtain ⟨R0, RL, R1, R2, R3, R4, R5⟩ := id R
  obtain ⟨z0, z1, z2, z3, z4, z5⟩ := I.cs
  unfold op_gap at hq
  refine v_iload_n 1 dX6_gap_0 rfl rfl ?_
  refine v_iconstv (v := 1) 2 dX6_gap_1 (by decide) rfl ?_
  refine v_bipushv (v := 99) 4 dX6_gap_2 (by decide) rfl ?_
  refine v_invs (d' := 0) (k' := 0) (n' := 0) (k2 := 1) (n2 := 6) 7 [_, _, _] dX6_gap_4 mt_X6_40 ms_X6_isIn rfl rfl (of_decide_eq_true rfl) rfl (by decide) rfl rfl rfl rfl (C_X6_isIn ?_)
  refine v_if_eq 24 10 dX6_gap_7 (by decide) rfl (fun c7 => ?_) (fun c7 => ?_)
  · have c7 := f1_0.mp c7
    refine v_iconstv (v := 0) 25 dX6_gap_24 (by decide) rfl ?_
    refine v_istore 27 dX6_gap_25 (by decide) rfl rfl ?_
    dsimp only [List.set]
    refine v_iload 29 dX6_gap_27 rfl rfl ?_
    refine v_if_eq 46 32 dX6_gap_29 (by decide) rfl (fun c29 => ?_) (fun c29 => ?_)
    · rw [if_neg (fun q => by first | exact c7 q.1.1 | exact c17 q.1.2 | exact c43 q.2)] at hq
      refine v_throw dX6_gap_46 dX6_gap_49 dX6_gap_50 dX6_gap_53 rfl th_X6_44_46 rfl (by decide) (by decide) (by decide) ?_
      exact hq
    · exact absurd (by decide) c29
  · have c7 := Decidable.not_not.mp (fun q => c7 (f1_0.mpr q))
    refine v_iload_n 11 dX6_gap_10 rfl rfl ?_
    refine v_iconstv (v := 5) 12 dX6_gap_11 (by decide) rfl ?_
    refine v_bipushv (v := 30) 14 dX6_gap_12 (by decide) rfl ?_
    refine v_invs (d' := 0) (k' := 0) (n' := 0) (k2 := 1) (n2 := 6) 17 [_, _, _] dX6_gap_14 mt_X6_40 ms_X6_isIn rfl rfl (of_decide_eq_true rfl) rfl (by decide) rfl rfl rfl rfl (C_X6_isIn ?_)
    refine v_if_eq 24 20 dX6_gap_17 (by decide) rfl (fun c17 => ?_) (fun c17 => ?_)
    · have c17 := f1_0.mp c17
      refine v_iconstv (v := 0) 25 dX6_gap_24 (by decide) rfl ?_
      refine v_istore 27 dX6_gap_25 (by decide) rfl rfl ?_
      dsimp only [List.set]
      refine v_iload 29 dX6_gap_27 rfl rfl ?_
      refine v_if_eq 46 32 dX6_gap_29 (by decide) rfl (fun c29 => ?_) (fun c29 => ?_)
      · rw [if_neg (fun q => by first | exact c7 q.1.1 | exact c17 q.1.2 | exact c43 q.2)] at hq
        refine v_throw dX6_gap_46 dX6_gap_49 dX6_gap_50 dX6_gap_53 rfl th_X6_44_46 rfl (by decide) (by decide) (by decide) ?_
        exact hq
      · exact absurd (by decide) c29
    · have c17 := Decidable.not_not.mp (fun q => c17 (f1_0.mpr q))
      refine v_iconstv (v := 1) 21 dX6_gap_20 (by decide) rfl ?_
      refine v_goto 25 dX6_gap_21 (by decide) ?_
      refine v_istore 27 dX6_gap_25 (by decide) rfl rfl ?_
      dsimp only [List.set]
      refine v_iload 29 dX6_gap_27 rfl rfl ?_
      refine v_if_eq 46 32 dX6_gap_29 (by decide) rfl (fun c29 => ?_) (fun c29 => ?_)
      · exact absurd c29 (by decide)
      · refine v_iload_n 33 dX6_gap_32 rfl rfl ?_
        refine v_iconstv (v := 0) 34 dX6_gap_33 (by decide) rfl ?_
        refine v_gets (z := (RX6, "TANGENTS", "[I", pv_O (3, 1))) 37 dX6_gap_34 gs_X6_293 (by simp [g_st]) (by intro r hr; cases hr; decide) rfl ?_
        dsimp only
        refine v_alen 38 dX6_gap_37 (by first | assumption | rfl) (by simp [g_tys]) rfl ?_
        refine VV.know (fun ho9 _ _ => ?_)
        rw [(ho9.2.2.2.1 1).1]
        refine v_iconstv (v := 1) 39 dX6_gap_38 (by decide) rfl ?_
        refine v_isub 40 dX6_gap_39 rfl ?_
        rw [show nI (g_arr.getD 1 []).length - 1 = (15 : Int32) from rfl]
        refine v_invs (d' := 0) (k' := 0) (n' := 0) (k2 := 1) (n2 := 6) 43 [_, _, _] dX6_gap_40 mt_X6_40 ms_X6_isIn rfl rfl (of_decide_eq_true rfl) rfl (by decide) rfl rfl rfl rfl (C_X6_isIn ?_)
        refine v_if_ne 54 46 dX6_gap_43 (by decide) rfl (fun c43 => ?_) (fun c43 => ?_)
        · have c43 := Decidable.not_not.mp (fun q => c43 (f1_0.mpr q))
          rw [if_pos ⟨⟨c7, c17⟩, c43⟩] at hq
          refine v_iconstv (v := 0) 55 dX6_gap_54 (by decide) rfl ?_
          refine v_iload_n 56 dX6_gap_55 rfl rfl ?_
          refine v_bipushv (v := 10) 58 dX6_gap_56 (by decide) rfl ?_
          refine v_iload_n 59 dX6_gap_58 rfl rfl ?_
          refine v_imul 60 dX6_gap_59 rfl ?_
          refine v_gets (z := (RX6, "TANGENTS", "[I", pv_O (3, 1))) 63 dX6_gap_60 gs_X6_293 (by simp [g_st]) (by intro r hr; cases hr; decide) rfl ?_
          dsimp only
          refine v_iload_n 64 dX6_gap_63 rfl rfl ?_
          refine v_iald 65 dX6_gap_64 (by first | assumption | rfl) (by rw [(ho9.2.2.2.1 1).1]; exact i16_ c43) rfl ?_
          rw [(ho9.2.2.2.1 1).2]
          refine v_imul 66 dX6_gap_65 rfl ?_
          refine v_sipushv (v := 1000) 69 dX6_gap_66 (by decide) rfl ?_
          refine v_idiv 70 dX6_gap_69 (by decide) rfl ?_
          refine v_isub 71 dX6_gap_70 rfl ?_
          refine v_max 74 dX6_gap_71 ma_X6_203 ma_s_max ma_i rfl (by decide) rfl ?_
          refine v_ireturn dX6_gap_74 rfl ?_
          exact hq
        · have c43 := f1_0.mp c43
          rw [if_neg (fun q => by first | exact c7 q.1.1 | exact c17 q.1.2 | exact c43 q.2)] at hq
          refine v_throw dX6_gap_46 dX6_gap_49 dX6_gap_50 dX6_gap_53 rfl th_X6_44_46 rfl (by decide) (by decide) (by decide) ?_
          exact hq
