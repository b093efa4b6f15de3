section VVLX
theorem cm_3 (S : SP) (p : Nat) : ∀ n k, (cm_ S p n k).1 ≤ 3
  | 0, _ => by unfold cm_; exact Nat.le_refl 3
  | n + 1, k => by
    unfold cm_
    split
    · exact cm_3 S p n (k + 1)
    · exact Nat.zero_le _
end VVLX
set_option maxRecDepth 20000 in
theorem C_L_log {G : GW} {h : PH} {Q : RS → PH → Prop} {S : SP} {N : Nat} (R : Rp1 S h) (I : Iv S N) {a b c e : Int32} (ha : 0 ≤ a ∧ a ≤ 65535) (he : 0 ≤ e ∧ e ≤ 65535) (hl9 : hp_ln h 80 0 = 1) (hq : ∀ h', Rp1 (op_log S a b c e).2.2 h' → (∀ t, t < 10 ∨ 40 ≤ t → ¬ t = 80 → hp_te h h' t) → hp_ln h' 80 0 = 1 → (op_log S a b c e).1 ≤ 3 → ((op_log S a b c e).1 = 0 → hp_vl h' 80 0 0 = (op_log S a b c e).2.1.toInt64) → Q (.inl (some (pv_I (nI (op_log S a b c e).1)))) h') : VV G 9 3 60 yL_log cL_log 7 (some .int) [(0, 14, 17, 13), (0, 14, 21, 15)] 0 (vv_en 7 [pv_O (10, 0), pv_I a, pv_I b, pv_I c, pv_I e, pv_O (80, 0)]) [] h Q := by
  show VV G 9 3 60 yL_log cL_log 7 (some .int) [(0, 14, 17, 13), (0, 14, 21, 15)] 0 [some (pv_O (10, 0)), some (pv_I a), some (pv_I b), some (pv_I c), some (pv_I e), some (pv_O (80, 0)), none] [] h Q
  refine v_aload 2 dL_log_0 rfl rfl ?_
  refine v_iconstv (v := 0) 3 dL_log_2 (by decide) rfl ?_
  refine v_aload_n 4 dL_log_3 rfl rfl ?_
  refine v_iload_n 5 dL_log_4 rfl rfl ?_
  refine v_iload_n 6 dL_log_5 rfl rfl ?_
  refine v_iload_n 7 dL_log_6 rfl rfl ?_
  refine v_iload 9 dL_log_7 rfl rfl ?_
  refine v_invv (d' := 8) (k' := 3) (n' := 60) (k2 := 0) (n2 := 0) 12 [_, _, _, _] dL_log_9 mt_L_7 mi_X6_log me_X6_log (by first | assumption | rfl) (by rfl) rfl rfl (of_decide_eq_true rfl) rfl (by decide) rfl rfl rfl rfl (C_X6_log R I ha he (fun hf R' te' => ?_))
  have hb : (op_log S a b c e).1 ≤ 2 := by
    unfold op_log
    repeat' split
    all_goals first | exact Nat.zero_le _ | exact of_decide_eq_true rfl
  generalize op_log S a b c e = o at hb hq R' ⊢
  obtain ⟨c9, v9, S9⟩ := o
  rcases c9 with _ | c9
  · refine v_i2l 13 dL_log_12 rfl ?_
    refine v_last 14 dL_log_13 (by first | assumption | rfl) (by first | assumption | decide) (by rw [(te' 80 (by decide)).2.1, hl9]; exact in_nI (m := 0) (by decide) (by decide)) rfl ?_
    refine v_goto 25 dL_log_14 (by decide) ?_
    refine v_iconstv (v := 0) 26 dL_log_25 (by decide) rfl ?_
    refine v_ireturn dL_log_26 rfl ?_
    exact hq _ (R'.te (fun t ht => hp_te.l (by omega))) (fun t h1 h2 => (te' t h1).tr (hp_te.l h2)) (by show hp_ln hf 80 0 = 1; rw [(te' 80 (by decide)).2.1]; exact hl9) (Nat.le_of_ble_eq_true rfl) (fun _ => hp_setl_at)
  rcases c9 with _ | c9
  · refine v_catch (E := "java/lang/IllegalArgumentException") (j := 6) (hp := 17) (ln := 2) [] [(0, 14, 21, 15)] (0, 14, 17, 13) rfl (fun z hz => by cases hz) (by decide) (by decide) (by simp [g_ex]) cl_L_13 ca_E1 rfl (by decide) rfl (Or.inr ⟨dL_log_17, rfl⟩) ?_
    refine v_iconstv (v := 1) 20 dL_log_19 (by decide) rfl ?_
    refine v_ireturn dL_log_20 rfl ?_
    exact hq hf R' (fun t h1 _ => te' t h1) (by rw [(te' 80 (by decide)).2.1]; exact hl9) (Nat.le_of_ble_eq_true rfl) (fun e => absurd e (Nat.succ_ne_zero _))
  rcases c9 with _ | c9
  · refine v_catch (E := "java/lang/IllegalStateException") (j := 6) (hp := 21) (ln := 2) [(0, 14, 17, 13)] [] (0, 14, 21, 15) rfl (fun z hz => by
      rcases List.mem_cons.mp hz with rfl | hz
      · exact ⟨by decide, "java/lang/IllegalArgumentException", by simp [g_ex], by decide, cl_L_13⟩
      cases hz) (by decide) (by decide) (by simp [g_ex]) cl_L_15 ca_E2 rfl (by decide) rfl (Or.inr ⟨dL_log_21, rfl⟩) ?_
    refine v_iconstv (v := 2) 24 dL_log_23 (by decide) rfl ?_
    refine v_ireturn dL_log_24 rfl ?_
    exact hq hf R' (fun t h1 _ => te' t h1) (by rw [(te' 80 (by decide)).2.1]; exact hl9) (Nat.le_of_ble_eq_true rfl) (fun e => absurd e (Nat.succ_ne_zero _))
  have hb : c9 + 3 ≤ 2 := hb
  omega
set_option maxRecDepth 20000 in
theorem C_L_slice {G : GW} {h : PH} {Q : RS → PH → Prop} {S : SP} {N : Nat} (R : Rp1 S h) (I : Iv S N) {x y t : Int32} (hy : 0 ≤ y ∧ y ≤ 65535) (hl9 : hp_ln h 80 0 = 1) (hq : ∀ h', Rp1 (op_slice S x y t).2.2 h' → (∀ t, t < 10 ∨ 40 ≤ t → ¬ t = 80 → hp_te h h' t) → hp_ln h' 80 0 = 1 → (op_slice S x y t).1 ≤ 3 → ((op_slice S x y t).1 = 0 → hp_vl h' 80 0 0 = (op_slice S x y t).2.1.toInt64) → Q (.inl (some (pv_I (nI (op_slice S x y t).1)))) h') : VV G 9 6 130 yL_slice cL_slice 6 (some .int) [(0, 12, 15, 21), (0, 12, 19, 13), (0, 12, 23, 23)] 0 (vv_en 6 [pv_O (10, 0), pv_I x, pv_I y, pv_I t, pv_O (80, 0)]) [] h Q := by
  show VV G 9 6 130 yL_slice cL_slice 6 (some .int) [(0, 12, 15, 21), (0, 12, 19, 13), (0, 12, 23, 23)] 0 [some (pv_O (10, 0)), some (pv_I x), some (pv_I y), some (pv_I t), some (pv_O (80, 0)), none] [] h Q
  refine v_aload 2 dL_slice_0 rfl rfl ?_
  refine v_iconstv (v := 0) 3 dL_slice_2 (by decide) rfl ?_
  refine v_aload_n 4 dL_slice_3 rfl rfl ?_
  refine v_iload_n 5 dL_slice_4 rfl rfl ?_
  refine v_iload_n 6 dL_slice_5 rfl rfl ?_
  refine v_iload_n 7 dL_slice_6 rfl rfl ?_
  refine v_invv (d' := 8) (k' := 6) (n' := 130) (k2 := 0) (n2 := 0) 10 [_, _, _] dL_slice_7 mt_L_17 mi_X6_slice me_X6_slice (by first | assumption | rfl) (by rfl) rfl rfl (of_decide_eq_true rfl) rfl (by decide) rfl rfl rfl rfl (C_X6_slice R I hy (fun hf R' te' => ?_))
  have hb : (op_slice S x y t).1 ≤ 3 := by
    unfold op_slice
    repeat' split
    all_goals first | exact Nat.zero_le _ | exact of_decide_eq_true rfl
  generalize op_slice S x y t = o at hb hq R' ⊢
  obtain ⟨c9, v9, S9⟩ := o
  rcases c9 with _ | c9
  · refine v_i2l 11 dL_slice_10 rfl ?_
    refine v_last 12 dL_slice_11 (by first | assumption | rfl) (by first | assumption | decide) (by rw [(te' 80 (by decide)).2.1, hl9]; exact in_nI (m := 0) (by decide) (by decide)) rfl ?_
    refine v_goto 27 dL_slice_12 (by decide) ?_
    refine v_iconstv (v := 0) 28 dL_slice_27 (by decide) rfl ?_
    refine v_ireturn dL_slice_28 rfl ?_
    exact hq _ (R'.te (fun t ht => hp_te.l (by omega))) (fun t h1 h2 => (te' t h1).tr (hp_te.l h2)) (by show hp_ln hf 80 0 = 1; rw [(te' 80 (by decide)).2.1]; exact hl9) (Nat.le_of_ble_eq_true rfl) (fun _ => hp_setl_at)
  rcases c9 with _ | c9
  · refine v_catch (E := "java/lang/IndexOutOfBoundsException") (j := 5) (hp := 15) (ln := 2) [] [(0, 12, 19, 13), (0, 12, 23, 23)] (0, 12, 15, 21) rfl (fun z hz => by cases hz) (by decide) (by decide) (by simp [g_ex]) cl_L_21 ca_E3 rfl (by decide) rfl (Or.inr ⟨dL_slice_15, rfl⟩) ?_
    refine v_iconstv (v := 1) 18 dL_slice_17 (by decide) rfl ?_
    refine v_ireturn dL_slice_18 rfl ?_
    exact hq hf R' (fun t h1 _ => te' t h1) (by rw [(te' 80 (by decide)).2.1]; exact hl9) (Nat.le_of_ble_eq_true rfl) (fun e => absurd e (Nat.succ_ne_zero _))
  rcases c9 with _ | c9
  · refine v_catch (E := "java/lang/IllegalArgumentException") (j := 5) (hp := 19) (ln := 2) [(0, 12, 15, 21)] [(0, 12, 23, 23)] (0, 12, 19, 13) rfl (fun z hz => by
      rcases List.mem_cons.mp hz with rfl | hz
      · exact ⟨by decide, "java/lang/IndexOutOfBoundsException", by simp [g_ex], by decide, cl_L_21⟩
      cases hz) (by decide) (by decide) (by simp [g_ex]) cl_L_13 ca_E1 rfl (by decide) rfl (Or.inr ⟨dL_slice_19, rfl⟩) ?_
    refine v_iconstv (v := 2) 22 dL_slice_21 (by decide) rfl ?_
    refine v_ireturn dL_slice_22 rfl ?_
    exact hq hf R' (fun t h1 _ => te' t h1) (by rw [(te' 80 (by decide)).2.1]; exact hl9) (Nat.le_of_ble_eq_true rfl) (fun e => absurd e (Nat.succ_ne_zero _))
  rcases c9 with _ | c9
  · refine v_catch (E := "java/lang/UnsupportedOperationException") (j := 5) (hp := 23) (ln := 2) [(0, 12, 15, 21), (0, 12, 19, 13)] [] (0, 12, 23, 23) rfl (fun z hz => by
      rcases List.mem_cons.mp hz with rfl | hz
      · exact ⟨by decide, "java/lang/IndexOutOfBoundsException", by simp [g_ex], by decide, cl_L_21⟩
      rcases List.mem_cons.mp hz with rfl | hz
      · exact ⟨by decide, "java/lang/IllegalArgumentException", by simp [g_ex], by decide, cl_L_13⟩
      cases hz) (by decide) (by decide) (by simp [g_ex]) cl_L_23 ca_E4 rfl (by decide) rfl (Or.inr ⟨dL_slice_23, rfl⟩) ?_
    refine v_iconstv (v := 3) 26 dL_slice_25 (by decide) rfl ?_
    refine v_ireturn dL_slice_26 rfl ?_
    exact hq hf R' (fun t h1 _ => te' t h1) (by rw [(te' 80 (by decide)).2.1]; exact hl9) (Nat.le_of_ble_eq_true rfl) (fun e => absurd e (Nat.succ_ne_zero _))
  have hb : c9 + 4 ≤ 3 := hb
  omega
set_option maxRecDepth 20000 in
theorem C_L_leaves {G : GW} {h : PH} {Q : RS → PH → Prop} {S : SP} {N : Nat} (R : Rp1 S h) (I : Iv S N) {x : Int32} (hl9 : hp_ln h 80 0 = 1) (hq : ∀ h', Rp1 S h' → (∀ t, t < 10 ∨ 40 ≤ t → ¬ t = 80 → hp_te h h' t) → hp_ln h' 80 0 = 1 → (op_leaves S x).1 ≤ 3 → ((op_leaves S x).1 = 0 → hp_vl h' 80 0 0 = (op_leaves S x).2.toInt64) → Q (.inl (some (pv_I (nI (op_leaves S x).1)))) h') : VV G 8 1 6 yL_leaves cL_leaves 4 (some .int) [(0, 9, 12, 21)] 0 (vv_en 4 [pv_O (10, 0), pv_I x, pv_O (80, 0)]) [] h Q := by
  show VV G 8 1 6 yL_leaves cL_leaves 4 (some .int) [(0, 9, 12, 21)] 0 [some (pv_O (10, 0)), some (pv_I x), some (pv_O (80, 0)), none] [] h Q
  refine v_aload_n 1 dL_leaves_0 rfl rfl ?_
  refine v_iconstv (v := 0) 2 dL_leaves_1 (by decide) rfl ?_
  refine v_aload_n 3 dL_leaves_2 rfl rfl ?_
  refine v_iload_n 4 dL_leaves_3 rfl rfl ?_
  refine v_invv (d' := 7) (k' := 1) (n' := 6) (k2 := 0) (n2 := 0) 7 [_] dL_leaves_4 mt_L_25 mi_X6_leaves me_X6_leaves (by first | assumption | rfl) (by rfl) rfl rfl (of_decide_eq_true rfl) rfl (by decide) rfl rfl rfl rfl (C_X6_leaves R I  ?_)
  have te' : ∀ t, t < 10 ∨ 40 ≤ t → hp_te h h t := fun _ _ => hp_te.rf
  have R' := R
  have hb : (op_leaves S x).1 ≤ 1 := by
    unfold op_leaves
    repeat' split
    all_goals first | exact Nat.zero_le _ | exact of_decide_eq_true rfl
  generalize op_leaves S x = o at hb hq ⊢
  obtain ⟨c9, v9⟩ := o
  rcases c9 with _ | c9
  · refine v_i2l 8 dL_leaves_7 rfl ?_
    refine v_last 9 dL_leaves_8 (by first | assumption | rfl) (by first | assumption | decide) (by rw [(te' 80 (by decide)).2.1, hl9]; exact in_nI (m := 0) (by decide) (by decide)) rfl ?_
    refine v_goto 15 dL_leaves_9 (by decide) ?_
    refine v_iconstv (v := 0) 16 dL_leaves_15 (by decide) rfl ?_
    refine v_ireturn dL_leaves_16 rfl ?_
    exact hq _ (R'.te (fun t ht => hp_te.l (by omega))) (fun t h1 h2 => (te' t h1).tr (hp_te.l h2)) (by show hp_ln h 80 0 = 1; rw [(te' 80 (by decide)).2.1]; exact hl9) (Nat.le_of_ble_eq_true rfl) (fun _ => hp_setl_at)
  rcases c9 with _ | c9
  · refine v_catch (E := "java/lang/IndexOutOfBoundsException") (j := 3) (hp := 12) (ln := 1) [] [] (0, 9, 12, 21) rfl (fun z hz => by cases hz) (by decide) (by decide) (by simp [g_ex]) cl_L_21 ca_E3 rfl (by decide) rfl (Or.inl ⟨3, rfl, dL_leaves_12, rfl⟩) ?_
    refine v_iconstv (v := 1) 14 dL_leaves_13 (by decide) rfl ?_
    refine v_ireturn dL_leaves_14 rfl ?_
    exact hq h R' (fun t h1 _ => te' t h1) (by rw [(te' 80 (by decide)).2.1]; exact hl9) (Nat.le_of_ble_eq_true rfl) (fun e => absurd e (Nat.succ_ne_zero _))
  have hb : c9 + 2 ≤ 1 := hb
  omega
set_option maxRecDepth 20000 in
theorem C_L_width {G : GW} {h : PH} {Q : RS → PH → Prop} {S : SP} {N : Nat} (R : Rp1 S h) (I : Iv S N) {x l : Int32} (hl9 : hp_ln h 80 0 = 1) (hq : ∀ h', Rp1 S h' → (∀ t, t < 10 ∨ 40 ≤ t → ¬ t = 80 → hp_te h h' t) → hp_ln h' 80 0 = 1 → (op_width S x l).1 ≤ 3 → ((op_width S x l).1 = 0 → hp_vl h' 80 0 0 = (op_width S x l).2.toInt64) → Q (.inl (some (pv_I (nI (op_width S x l).1)))) h') : VV G 10 2 12 yL_width cL_width 5 (some .int) [(0, 10, 13, 21)] 0 (vv_en 5 [pv_O (10, 0), pv_I x, pv_I l, pv_O (80, 0)]) [] h Q := by
  show VV G 10 2 12 yL_width cL_width 5 (some .int) [(0, 10, 13, 21)] 0 [some (pv_O (10, 0)), some (pv_I x), some (pv_I l), some (pv_O (80, 0)), none] [] h Q
  refine v_aload_n 1 dL_width_0 rfl rfl ?_
  refine v_iconstv (v := 0) 2 dL_width_1 (by decide) rfl ?_
  refine v_aload_n 3 dL_width_2 rfl rfl ?_
  refine v_iload_n 4 dL_width_3 rfl rfl ?_
  refine v_iload_n 5 dL_width_4 rfl rfl ?_
  refine v_invv (d' := 9) (k' := 2) (n' := 12) (k2 := 0) (n2 := 0) 8 [_, _] dL_width_5 mt_L_29 mi_X6_width me_X6_width (by first | assumption | rfl) (by rfl) rfl rfl (of_decide_eq_true rfl) rfl (by decide) rfl rfl rfl rfl (C_X6_width R I  ?_)
  have te' : ∀ t, t < 10 ∨ 40 ≤ t → hp_te h h t := fun _ _ => hp_te.rf
  have R' := R
  have hb : (op_width S x l).1 ≤ 1 := by
    unfold op_width
    repeat' split
    all_goals first | exact Nat.zero_le _ | exact of_decide_eq_true rfl
  generalize op_width S x l = o at hb hq ⊢
  obtain ⟨c9, v9⟩ := o
  rcases c9 with _ | c9
  · refine v_i2l 9 dL_width_8 rfl ?_
    refine v_last 10 dL_width_9 (by first | assumption | rfl) (by first | assumption | decide) (by rw [(te' 80 (by decide)).2.1, hl9]; exact in_nI (m := 0) (by decide) (by decide)) rfl ?_
    refine v_goto 17 dL_width_10 (by decide) ?_
    refine v_iconstv (v := 0) 18 dL_width_17 (by decide) rfl ?_
    refine v_ireturn dL_width_18 rfl ?_
    exact hq _ (R'.te (fun t ht => hp_te.l (by omega))) (fun t h1 h2 => (te' t h1).tr (hp_te.l h2)) (by show hp_ln h 80 0 = 1; rw [(te' 80 (by decide)).2.1]; exact hl9) (Nat.le_of_ble_eq_true rfl) (fun _ => hp_setl_at)
  rcases c9 with _ | c9
  · refine v_catch (E := "java/lang/IndexOutOfBoundsException") (j := 4) (hp := 13) (ln := 2) [] [] (0, 10, 13, 21) rfl (fun z hz => by cases hz) (by decide) (by decide) (by simp [g_ex]) cl_L_21 ca_E3 rfl (by decide) rfl (Or.inr ⟨dL_width_13, rfl⟩) ?_
    refine v_iconstv (v := 1) 16 dL_width_15 (by decide) rfl ?_
    refine v_ireturn dL_width_16 rfl ?_
    exact hq h R' (fun t h1 _ => te' t h1) (by rw [(te' 80 (by decide)).2.1]; exact hl9) (Nat.le_of_ble_eq_true rfl) (fun e => absurd e (Nat.succ_ne_zero _))
  have hb : c9 + 2 ≤ 1 := hb
  omega
set_option maxRecDepth 20000 in
theorem C_L_area {G : GW} {h : PH} {Q : RS → PH → Prop} {S : SP} {N : Nat} (R : Rp1 S h) (I : Iv S N) {x l : Int32} (hl9 : hp_ln h 80 0 = 1) (hq : ∀ h', Rp1 S h' → (∀ t, t < 10 ∨ 40 ≤ t → ¬ t = 80 → hp_te h h' t) → hp_ln h' 80 0 = 1 → (op_area S x l).1 ≤ 3 → ((op_area S x l).1 = 0 → hp_vl h' 80 0 0 = (op_area S x l).2.toInt64) → Q (.inl (some (pv_I (nI (op_area S x l).1)))) h') : VV G 10 2 12 yL_area cL_area 5 (some .int) [(0, 10, 13, 21)] 0 (vv_en 5 [pv_O (10, 0), pv_I x, pv_I l, pv_O (80, 0)]) [] h Q := by
  show VV G 10 2 12 yL_area cL_area 5 (some .int) [(0, 10, 13, 21)] 0 [some (pv_O (10, 0)), some (pv_I x), some (pv_I l), some (pv_O (80, 0)), none] [] h Q
  refine v_aload_n 1 dL_area_0 rfl rfl ?_
  refine v_iconstv (v := 0) 2 dL_area_1 (by decide) rfl ?_
  refine v_aload_n 3 dL_area_2 rfl rfl ?_
  refine v_iload_n 4 dL_area_3 rfl rfl ?_
  refine v_iload_n 5 dL_area_4 rfl rfl ?_
  refine v_invv (d' := 9) (k' := 2) (n' := 12) (k2 := 0) (n2 := 0) 8 [_, _] dL_area_5 mt_L_33 mi_X6_area me_X6_area (by first | assumption | rfl) (by rfl) rfl rfl (of_decide_eq_true rfl) rfl (by decide) rfl rfl rfl rfl (C_X6_area R I  ?_)
  have te' : ∀ t, t < 10 ∨ 40 ≤ t → hp_te h h t := fun _ _ => hp_te.rf
  have R' := R
  have hb : (op_area S x l).1 ≤ 1 := by
    unfold op_area
    repeat' split
    all_goals first | exact Nat.zero_le _ | exact of_decide_eq_true rfl
  generalize op_area S x l = o at hb hq ⊢
  obtain ⟨c9, v9⟩ := o
  rcases c9 with _ | c9
  · refine v_i2l 9 dL_area_8 rfl ?_
    refine v_last 10 dL_area_9 (by first | assumption | rfl) (by first | assumption | decide) (by rw [(te' 80 (by decide)).2.1, hl9]; exact in_nI (m := 0) (by decide) (by decide)) rfl ?_
    refine v_goto 17 dL_area_10 (by decide) ?_
    refine v_iconstv (v := 0) 18 dL_area_17 (by decide) rfl ?_
    refine v_ireturn dL_area_18 rfl ?_
    exact hq _ (R'.te (fun t ht => hp_te.l (by omega))) (fun t h1 h2 => (te' t h1).tr (hp_te.l h2)) (by show hp_ln h 80 0 = 1; rw [(te' 80 (by decide)).2.1]; exact hl9) (Nat.le_of_ble_eq_true rfl) (fun _ => hp_setl_at)
  rcases c9 with _ | c9
  · refine v_catch (E := "java/lang/IndexOutOfBoundsException") (j := 4) (hp := 13) (ln := 2) [] [] (0, 10, 13, 21) rfl (fun z hz => by cases hz) (by decide) (by decide) (by simp [g_ex]) cl_L_21 ca_E3 rfl (by decide) rfl (Or.inr ⟨dL_area_13, rfl⟩) ?_
    refine v_iconstv (v := 1) 16 dL_area_15 (by decide) rfl ?_
    refine v_ireturn dL_area_16 rfl ?_
    exact hq h R' (fun t h1 _ => te' t h1) (by rw [(te' 80 (by decide)).2.1]; exact hl9) (Nat.le_of_ble_eq_true rfl) (fun e => absurd e (Nat.succ_ne_zero _))
  have hb : c9 + 2 ≤ 1 := hb
  omega
set_option maxRecDepth 20000 in
theorem C_L_figure {G : GW} {h : PH} {Q : RS → PH → Prop} {S : SP} {N : Nat} (R : Rp1 S h) (I : Iv S N) {x l : Int32} (hl9 : hp_ln h 80 0 = 1) (hq : ∀ h', Rp1 S h' → (∀ t, t < 10 ∨ 40 ≤ t → ¬ t = 80 → hp_te h h' t) → hp_ln h' 80 0 = 1 → (op_figure S x l).1 ≤ 3 → ((op_figure S x l).1 = 0 → hp_vl h' 80 0 0 = (op_figure S x l).2.toInt64) → Q (.inl (some (pv_I (nI (op_figure S x l).1)))) h') : VV G 10 2 12 yL_figure cL_figure 5 (some .int) [(0, 10, 13, 21)] 0 (vv_en 5 [pv_O (10, 0), pv_I x, pv_I l, pv_O (80, 0)]) [] h Q := by
  show VV G 10 2 12 yL_figure cL_figure 5 (some .int) [(0, 10, 13, 21)] 0 [some (pv_O (10, 0)), some (pv_I x), some (pv_I l), some (pv_O (80, 0)), none] [] h Q
  refine v_aload_n 1 dL_figure_0 rfl rfl ?_
  refine v_iconstv (v := 0) 2 dL_figure_1 (by decide) rfl ?_
  refine v_aload_n 3 dL_figure_2 rfl rfl ?_
  refine v_iload_n 4 dL_figure_3 rfl rfl ?_
  refine v_iload_n 5 dL_figure_4 rfl rfl ?_
  refine v_invv (d' := 9) (k' := 2) (n' := 12) (k2 := 0) (n2 := 0) 8 [_, _] dL_figure_5 mt_L_36 mi_X6_figure me_X6_figure (by first | assumption | rfl) (by rfl) rfl rfl (of_decide_eq_true rfl) rfl (by decide) rfl rfl rfl rfl (C_X6_figure R I  ?_)
  have te' : ∀ t, t < 10 ∨ 40 ≤ t → hp_te h h t := fun _ _ => hp_te.rf
  have R' := R
  have hb : (op_figure S x l).1 ≤ 1 := by
    unfold op_figure
    repeat' split
    all_goals first | exact Nat.zero_le _ | exact of_decide_eq_true rfl
  generalize op_figure S x l = o at hb hq ⊢
  obtain ⟨c9, v9⟩ := o
  rcases c9 with _ | c9
  · refine v_i2l 9 dL_figure_8 rfl ?_
    refine v_last 10 dL_figure_9 (by first | assumption | rfl) (by first | assumption | decide) (by rw [(te' 80 (by decide)).2.1, hl9]; exact in_nI (m := 0) (by decide) (by decide)) rfl ?_
    refine v_goto 17 dL_figure_10 (by decide) ?_
    refine v_iconstv (v := 0) 18 dL_figure_17 (by decide) rfl ?_
    refine v_ireturn dL_figure_18 rfl ?_
    exact hq _ (R'.te (fun t ht => hp_te.l (by omega))) (fun t h1 h2 => (te' t h1).tr (hp_te.l h2)) (by show hp_ln h 80 0 = 1; rw [(te' 80 (by decide)).2.1]; exact hl9) (Nat.le_of_ble_eq_true rfl) (fun _ => hp_setl_at)
  rcases c9 with _ | c9
  · refine v_catch (E := "java/lang/IndexOutOfBoundsException") (j := 4) (hp := 13) (ln := 2) [] [] (0, 10, 13, 21) rfl (fun z hz => by cases hz) (by decide) (by decide) (by simp [g_ex]) cl_L_21 ca_E3 rfl (by decide) rfl (Or.inr ⟨dL_figure_13, rfl⟩) ?_
    refine v_iconstv (v := 1) 16 dL_figure_15 (by decide) rfl ?_
    refine v_ireturn dL_figure_16 rfl ?_
    exact hq h R' (fun t h1 _ => te' t h1) (by rw [(te' 80 (by decide)).2.1]; exact hl9) (Nat.le_of_ble_eq_true rfl) (fun e => absurd e (Nat.succ_ne_zero _))
  have hb : c9 + 2 ≤ 1 := hb
  omega
set_option maxRecDepth 20000 in
theorem C_L_isUsed {G : GW} {h : PH} {Q : RS → PH → Prop} {S : SP} {N : Nat} (R : Rp1 S h) (I : Iv S N) {x l : Int32} (hl9 : hp_ln h 80 0 = 1) (hq : ∀ h', Rp1 S h' → (∀ t, t < 10 ∨ 40 ≤ t → ¬ t = 80 → hp_te h h' t) → hp_ln h' 80 0 = 1 → (op_isUsed S x l).1 ≤ 3 → ((op_isUsed S x l).1 = 0 → hp_vl h' 80 0 0 = (if (op_isUsed S x l).2 = 0 then 0 else 1)) → Q (.inl (some (pv_I (nI (op_isUsed S x l).1)))) h') : VV G 10 2 12 yL_isUsed cL_isUsed 5 (some .int) [(0, 17, 20, 21)] 0 (vv_en 5 [pv_O (10, 0), pv_I x, pv_I l, pv_O (80, 0)]) [] h Q := by
  show VV G 10 2 12 yL_isUsed cL_isUsed 5 (some .int) [(0, 17, 20, 21)] 0 [some (pv_O (10, 0)), some (pv_I x), some (pv_I l), some (pv_O (80, 0)), none] [] h Q
  refine v_aload_n 1 dL_isUsed_0 rfl rfl ?_
  refine v_iconstv (v := 0) 2 dL_isUsed_1 (by decide) rfl ?_
  refine v_aload_n 3 dL_isUsed_2 rfl rfl ?_
  refine v_iload_n 4 dL_isUsed_3 rfl rfl ?_
  refine v_iload_n 5 dL_isUsed_4 rfl rfl ?_
  refine v_invv (d' := 9) (k' := 2) (n' := 12) (k2 := 0) (n2 := 0) 8 [_, _] dL_isUsed_5 mt_L_39 mi_X6_isUsed me_X6_isUsed (by first | assumption | rfl) (by rfl) rfl rfl (of_decide_eq_true rfl) rfl (by decide) rfl rfl rfl rfl (C_X6_isUsed R I  ?_)
  have te' : ∀ t, t < 10 ∨ 40 ≤ t → hp_te h h t := fun _ _ => hp_te.rf
  have R' := R
  have hb : (op_isUsed S x l).1 ≤ 1 := by
    unfold op_isUsed
    repeat' split
    all_goals first | exact Nat.zero_le _ | exact of_decide_eq_true rfl
  generalize op_isUsed S x l = o at hb hq ⊢
  obtain ⟨c9, v9⟩ := o
  rcases c9 with _ | c9
  · refine v_if_eq 15 11 dL_isUsed_8 (by decide) rfl (fun c8 => ?_) (fun c8 => ?_)
    · refine v_lconst (v := 0) 16 dL_isUsed_15 (by decide) rfl ?_
      refine v_last 17 dL_isUsed_16 (by first | assumption | rfl) (by first | assumption | decide) (by rw [(te' 80 (by decide)).2.1, hl9]; exact in_nI (m := 0) (by decide) (by decide)) rfl ?_
      refine v_goto 24 dL_isUsed_17 (by decide) ?_
      refine v_iconstv (v := 0) 25 dL_isUsed_24 (by decide) rfl ?_
      refine v_ireturn dL_isUsed_25 rfl ?_
      exact hq _ (R'.te (fun t ht => hp_te.l (by omega))) (fun t h1 h2 => (te' t h1).tr (hp_te.l h2)) (by show hp_ln h 80 0 = 1; rw [(te' 80 (by decide)).2.1]; exact hl9) (Nat.le_of_ble_eq_true rfl) (fun _ => (hp_setl_at.trans (by first | exact (if_pos c8).symm | exact (if_neg c8).symm)))
    · refine v_lconst (v := 1) 12 dL_isUsed_11 (by decide) rfl ?_
      refine v_goto 16 dL_isUsed_12 (by decide) ?_
      refine v_last 17 dL_isUsed_16 (by first | assumption | rfl) (by first | assumption | decide) (by rw [(te' 80 (by decide)).2.1, hl9]; exact in_nI (m := 0) (by decide) (by decide)) rfl ?_
      refine v_goto 24 dL_isUsed_17 (by decide) ?_
      refine v_iconstv (v := 0) 25 dL_isUsed_24 (by decide) rfl ?_
      refine v_ireturn dL_isUsed_25 rfl ?_
      exact hq _ (R'.te (fun t ht => hp_te.l (by omega))) (fun t h1 h2 => (te' t h1).tr (hp_te.l h2)) (by show hp_ln h 80 0 = 1; rw [(te' 80 (by decide)).2.1]; exact hl9) (Nat.le_of_ble_eq_true rfl) (fun _ => (hp_setl_at.trans (by first | exact (if_pos c8).symm | exact (if_neg c8).symm)))
  rcases c9 with _ | c9
  · refine v_catch (E := "java/lang/IndexOutOfBoundsException") (j := 4) (hp := 20) (ln := 2) [] [] (0, 17, 20, 21) rfl (fun z hz => by cases hz) (by decide) (by decide) (by simp [g_ex]) cl_L_21 ca_E3 rfl (by decide) rfl (Or.inr ⟨dL_isUsed_20, rfl⟩) ?_
    refine v_iconstv (v := 1) 23 dL_isUsed_22 (by decide) rfl ?_
    refine v_ireturn dL_isUsed_23 rfl ?_
    exact hq h R' (fun t h1 _ => te' t h1) (by rw [(te' 80 (by decide)).2.1]; exact hl9) (Nat.le_of_ble_eq_true rfl) (fun e => absurd e (Nat.succ_ne_zero _))
  have hb : c9 + 2 ≤ 1 := hb
  omega
set_option maxRecDepth 20000 in
theorem C_L_panel {G : GW} {h : PH} {Q : RS → PH → Prop} {S : SP} {N : Nat} (R : Rp1 S h) (I : Iv S N) {a b c e : Int32} (hc9 : 0 ≤ c ∧ c ≤ 65535) (hl9 : hp_ln h 80 0 = 1) (hq : ∀ h', Rp1 (op_panel S a b c e).2.2 h' → (∀ t, t < 10 ∨ 40 ≤ t → ¬ t = 80 → hp_te h h' t) → hp_ln h' 80 0 = 1 → (op_panel S a b c e).1 ≤ 3 → ((op_panel S a b c e).1 = 0 → hp_vl h' 80 0 0 = (op_panel S a b c e).2.1.toInt64) → Q (.inl (some (pv_I (nI (op_panel S a b c e).1)))) h') : VV G 9 3 60 yL_panel cL_panel 7 (some .int) [(0, 14, 17, 13), (0, 14, 21, 15)] 0 (vv_en 7 [pv_O (10, 0), pv_I a, pv_I b, pv_I c, pv_I e, pv_O (80, 0)]) [] h Q := by
  show VV G 9 3 60 yL_panel cL_panel 7 (some .int) [(0, 14, 17, 13), (0, 14, 21, 15)] 0 [some (pv_O (10, 0)), some (pv_I a), some (pv_I b), some (pv_I c), some (pv_I e), some (pv_O (80, 0)), none] [] h Q
  refine v_aload 2 dL_panel_0 rfl rfl ?_
  refine v_iconstv (v := 0) 3 dL_panel_2 (by decide) rfl ?_
  refine v_aload_n 4 dL_panel_3 rfl rfl ?_
  refine v_iload_n 5 dL_panel_4 rfl rfl ?_
  refine v_iload_n 6 dL_panel_5 rfl rfl ?_
  refine v_iload_n 7 dL_panel_6 rfl rfl ?_
  refine v_iload 9 dL_panel_7 rfl rfl ?_
  refine v_invv (d' := 8) (k' := 3) (n' := 60) (k2 := 0) (n2 := 0) 12 [_, _, _, _] dL_panel_9 mt_L_43 mi_X6_panel me_X6_panel (by first | assumption | rfl) (by rfl) rfl rfl (of_decide_eq_true rfl) rfl (by decide) rfl rfl rfl rfl (C_X6_panel R I hc9 (fun hf R' te' => ?_))
  have hb : (op_panel S a b c e).1 ≤ 2 := by
    unfold op_panel
    repeat' split
    all_goals first | exact Nat.zero_le _ | exact of_decide_eq_true rfl
  generalize op_panel S a b c e = o at hb hq R' ⊢
  obtain ⟨c9, v9, S9⟩ := o
  rcases c9 with _ | c9
  · refine v_i2l 13 dL_panel_12 rfl ?_
    refine v_last 14 dL_panel_13 (by first | assumption | rfl) (by first | assumption | decide) (by rw [(te' 80 (by decide)).2.1, hl9]; exact in_nI (m := 0) (by decide) (by decide)) rfl ?_
    refine v_goto 25 dL_panel_14 (by decide) ?_
    refine v_iconstv (v := 0) 26 dL_panel_25 (by decide) rfl ?_
    refine v_ireturn dL_panel_26 rfl ?_
    exact hq _ (R'.te (fun t ht => hp_te.l (by omega))) (fun t h1 h2 => (te' t h1).tr (hp_te.l h2)) (by show hp_ln hf 80 0 = 1; rw [(te' 80 (by decide)).2.1]; exact hl9) (Nat.le_of_ble_eq_true rfl) (fun _ => hp_setl_at)
  rcases c9 with _ | c9
  · refine v_catch (E := "java/lang/IllegalArgumentException") (j := 6) (hp := 17) (ln := 2) [] [(0, 14, 21, 15)] (0, 14, 17, 13) rfl (fun z hz => by cases hz) (by decide) (by decide) (by simp [g_ex]) cl_L_13 ca_E1 rfl (by decide) rfl (Or.inr ⟨dL_panel_17, rfl⟩) ?_
    refine v_iconstv (v := 1) 20 dL_panel_19 (by decide) rfl ?_
    refine v_ireturn dL_panel_20 rfl ?_
    exact hq hf R' (fun t h1 _ => te' t h1) (by rw [(te' 80 (by decide)).2.1]; exact hl9) (Nat.le_of_ble_eq_true rfl) (fun e => absurd e (Nat.succ_ne_zero _))
  rcases c9 with _ | c9
  · refine v_catch (E := "java/lang/IllegalStateException") (j := 6) (hp := 21) (ln := 2) [(0, 14, 17, 13)] [] (0, 14, 21, 15) rfl (fun z hz => by
      rcases List.mem_cons.mp hz with rfl | hz
      · exact ⟨by decide, "java/lang/IllegalArgumentException", by simp [g_ex], by decide, cl_L_13⟩
      cases hz) (by decide) (by decide) (by simp [g_ex]) cl_L_15 ca_E2 rfl (by decide) rfl (Or.inr ⟨dL_panel_21, rfl⟩) ?_
    refine v_iconstv (v := 2) 24 dL_panel_23 (by decide) rfl ?_
    refine v_ireturn dL_panel_24 rfl ?_
    exact hq hf R' (fun t h1 _ => te' t h1) (by rw [(te' 80 (by decide)).2.1]; exact hl9) (Nat.le_of_ble_eq_true rfl) (fun e => absurd e (Nat.succ_ne_zero _))
  have hb : c9 + 3 ≤ 2 := hb
  omega
set_option maxRecDepth 20000 in
theorem C_L_face {G : GW} {h : PH} {Q : RS → PH → Prop} {S : SP} {N : Nat} (R : Rp1 S h) (I : Iv S N) {x y a m mt : Int32} (hmt : 0 ≤ mt ∧ mt ≤ 65535) (hl9 : hp_ln h 80 0 = 1) (hq : ∀ h', Rp1 (op_face S x y a m mt).2.2 h' → (∀ t, t < 10 ∨ 40 ≤ t → ¬ t = 80 → hp_te h h' t) → hp_ln h' 80 0 = 1 → (op_face S x y a m mt).1 ≤ 3 → ((op_face S x y a m mt).1 = 0 → hp_vl h' 80 0 0 = (op_face S x y a m mt).2.1.toInt64) → Q (.inl (some (pv_I (nI (op_face S x y a m mt).1)))) h') : VV G 12 26 2060 yL_face cL_face 8 (some .int) [(0, 16, 19, 21), (0, 16, 23, 13), (0, 16, 27, 23)] 0 (vv_en 8 [pv_O (10, 0), pv_I x, pv_I y, pv_I a, pv_I m, pv_I mt, pv_O (80, 0)]) [] h Q := by
  show VV G 12 26 2060 yL_face cL_face 8 (some .int) [(0, 16, 19, 21), (0, 16, 23, 13), (0, 16, 27, 23)] 0 [some (pv_O (10, 0)), some (pv_I x), some (pv_I y), some (pv_I a), some (pv_I m), some (pv_I mt), some (pv_O (80, 0)), none] [] h Q
  refine v_aload 2 dL_face_0 rfl rfl ?_
  refine v_iconstv (v := 0) 3 dL_face_2 (by decide) rfl ?_
  refine v_aload_n 4 dL_face_3 rfl rfl ?_
  refine v_iload_n 5 dL_face_4 rfl rfl ?_
  refine v_iload_n 6 dL_face_5 rfl rfl ?_
  refine v_iload_n 7 dL_face_6 rfl rfl ?_
  refine v_iload 9 dL_face_7 rfl rfl ?_
  refine v_iload 11 dL_face_9 rfl rfl ?_
  refine v_invv (d' := 11) (k' := 26) (n' := 2060) (k2 := 0) (n2 := 0) 14 [_, _, _, _, _] dL_face_11 mt_L_47 mi_X6_face me_X6_face (by first | assumption | rfl) (by rfl) rfl rfl (of_decide_eq_true rfl) rfl (by decide) rfl rfl rfl rfl (C_X6_face R I hmt (fun hf R' te' => ?_))
  have hb : (op_face S x y a m mt).1 ≤ 3 := by
    unfold op_face
    repeat' split
    all_goals first | exact Nat.zero_le _ | exact of_decide_eq_true rfl
  generalize op_face S x y a m mt = o at hb hq R' ⊢
  obtain ⟨c9, v9, S9⟩ := o
  rcases c9 with _ | c9
  · refine v_i2l 15 dL_face_14 rfl ?_
    refine v_last 16 dL_face_15 (by first | assumption | rfl) (by first | assumption | decide) (by rw [(te' 80 (by decide)).2.1, hl9]; exact in_nI (m := 0) (by decide) (by decide)) rfl ?_
    refine v_goto 31 dL_face_16 (by decide) ?_
    refine v_iconstv (v := 0) 32 dL_face_31 (by decide) rfl ?_
    refine v_ireturn dL_face_32 rfl ?_
    exact hq _ (R'.te (fun t ht => hp_te.l (by omega))) (fun t h1 h2 => (te' t h1).tr (hp_te.l h2)) (by show hp_ln hf 80 0 = 1; rw [(te' 80 (by decide)).2.1]; exact hl9) (Nat.le_of_ble_eq_true rfl) (fun _ => hp_setl_at)
  rcases c9 with _ | c9
  · refine v_catch (E := "java/lang/IndexOutOfBoundsException") (j := 7) (hp := 19) (ln := 2) [] [(0, 16, 23, 13), (0, 16, 27, 23)] (0, 16, 19, 21) rfl (fun z hz => by cases hz) (by decide) (by decide) (by simp [g_ex]) cl_L_21 ca_E3 rfl (by decide) rfl (Or.inr ⟨dL_face_19, rfl⟩) ?_
    refine v_iconstv (v := 1) 22 dL_face_21 (by decide) rfl ?_
    refine v_ireturn dL_face_22 rfl ?_
    exact hq hf R' (fun t h1 _ => te' t h1) (by rw [(te' 80 (by decide)).2.1]; exact hl9) (Nat.le_of_ble_eq_true rfl) (fun e => absurd e (Nat.succ_ne_zero _))
  rcases c9 with _ | c9
  · refine v_catch (E := "java/lang/IllegalArgumentException") (j := 7) (hp := 23) (ln := 2) [(0, 16, 19, 21)] [(0, 16, 27, 23)] (0, 16, 23, 13) rfl (fun z hz => by
      rcases List.mem_cons.mp hz with rfl | hz
      · exact ⟨by decide, "java/lang/IndexOutOfBoundsException", by simp [g_ex], by decide, cl_L_21⟩
      cases hz) (by decide) (by decide) (by simp [g_ex]) cl_L_13 ca_E1 rfl (by decide) rfl (Or.inr ⟨dL_face_23, rfl⟩) ?_
    refine v_iconstv (v := 2) 26 dL_face_25 (by decide) rfl ?_
    refine v_ireturn dL_face_26 rfl ?_
    exact hq hf R' (fun t h1 _ => te' t h1) (by rw [(te' 80 (by decide)).2.1]; exact hl9) (Nat.le_of_ble_eq_true rfl) (fun e => absurd e (Nat.succ_ne_zero _))
  rcases c9 with _ | c9
  · refine v_catch (E := "java/lang/UnsupportedOperationException") (j := 7) (hp := 27) (ln := 2) [(0, 16, 19, 21), (0, 16, 23, 13)] [] (0, 16, 27, 23) rfl (fun z hz => by
      rcases List.mem_cons.mp hz with rfl | hz
      · exact ⟨by decide, "java/lang/IndexOutOfBoundsException", by simp [g_ex], by decide, cl_L_21⟩
      rcases List.mem_cons.mp hz with rfl | hz
      · exact ⟨by decide, "java/lang/IllegalArgumentException", by simp [g_ex], by decide, cl_L_13⟩
      cases hz) (by decide) (by decide) (by simp [g_ex]) cl_L_23 ca_E4 rfl (by decide) rfl (Or.inr ⟨dL_face_27, rfl⟩) ?_
    refine v_iconstv (v := 3) 30 dL_face_29 (by decide) rfl ?_
    refine v_ireturn dL_face_30 rfl ?_
    exact hq hf R' (fun t h1 _ => te' t h1) (by rw [(te' 80 (by decide)).2.1]; exact hl9) (Nat.le_of_ble_eq_true rfl) (fun e => absurd e (Nat.succ_ne_zero _))
  have hb : c9 + 4 ≤ 3 := hb
  omega
set_option maxRecDepth 20000 in
theorem C_L_back {G : GW} {h : PH} {Q : RS → PH → Prop} {S : SP} {N : Nat} (R : Rp1 S h) (I : Iv S N) {x y a m : Int32} (hl9 : hp_ln h 80 0 = 1) (hq : ∀ h', Rp1 (op_back S x y a m).2.2 h' → (∀ t, t < 10 ∨ 40 ≤ t → ¬ t = 80 → hp_te h h' t) → hp_ln h' 80 0 = 1 → (op_back S x y a m).1 ≤ 3 → ((op_back S x y a m).1 = 0 → hp_vl h' 80 0 0 = (op_back S x y a m).2.1.toInt64) → Q (.inl (some (pv_I (nI (op_back S x y a m).1)))) h') : VV G 12 26 2060 yL_back cL_back 7 (some .int) [(0, 14, 17, 21), (0, 14, 21, 13), (0, 14, 25, 23)] 0 (vv_en 7 [pv_O (10, 0), pv_I x, pv_I y, pv_I a, pv_I m, pv_O (80, 0)]) [] h Q := by
  show VV G 12 26 2060 yL_back cL_back 7 (some .int) [(0, 14, 17, 21), (0, 14, 21, 13), (0, 14, 25, 23)] 0 [some (pv_O (10, 0)), some (pv_I x), some (pv_I y), some (pv_I a), some (pv_I m), some (pv_O (80, 0)), none] [] h Q
  refine v_aload 2 dL_back_0 rfl rfl ?_
  refine v_iconstv (v := 0) 3 dL_back_2 (by decide) rfl ?_
  refine v_aload_n 4 dL_back_3 rfl rfl ?_
  refine v_iload_n 5 dL_back_4 rfl rfl ?_
  refine v_iload_n 6 dL_back_5 rfl rfl ?_
  refine v_iload_n 7 dL_back_6 rfl rfl ?_
  refine v_iload 9 dL_back_7 rfl rfl ?_
  refine v_invv (d' := 11) (k' := 26) (n' := 2060) (k2 := 0) (n2 := 0) 12 [_, _, _, _] dL_back_9 mt_L_51 mi_X6_back me_X6_back (by first | assumption | rfl) (by rfl) rfl rfl (of_decide_eq_true rfl) rfl (by decide) rfl rfl rfl rfl (C_X6_back R I  (fun hf R' te' => ?_))
  have hb : (op_back S x y a m).1 ≤ 3 := by
    unfold op_back
    repeat' split
    all_goals first | exact Nat.zero_le _ | exact of_decide_eq_true rfl
  generalize op_back S x y a m = o at hb hq R' ⊢
  obtain ⟨c9, v9, S9⟩ := o
  rcases c9 with _ | c9
  · refine v_i2l 13 dL_back_12 rfl ?_
    refine v_last 14 dL_back_13 (by first | assumption | rfl) (by first | assumption | decide) (by rw [(te' 80 (by decide)).2.1, hl9]; exact in_nI (m := 0) (by decide) (by decide)) rfl ?_
    refine v_goto 29 dL_back_14 (by decide) ?_
    refine v_iconstv (v := 0) 30 dL_back_29 (by decide) rfl ?_
    refine v_ireturn dL_back_30 rfl ?_
    exact hq _ (R'.te (fun t ht => hp_te.l (by omega))) (fun t h1 h2 => (te' t h1).tr (hp_te.l h2)) (by show hp_ln hf 80 0 = 1; rw [(te' 80 (by decide)).2.1]; exact hl9) (Nat.le_of_ble_eq_true rfl) (fun _ => hp_setl_at)
  rcases c9 with _ | c9
  · refine v_catch (E := "java/lang/IndexOutOfBoundsException") (j := 6) (hp := 17) (ln := 2) [] [(0, 14, 21, 13), (0, 14, 25, 23)] (0, 14, 17, 21) rfl (fun z hz => by cases hz) (by decide) (by decide) (by simp [g_ex]) cl_L_21 ca_E3 rfl (by decide) rfl (Or.inr ⟨dL_back_17, rfl⟩) ?_
    refine v_iconstv (v := 1) 20 dL_back_19 (by decide) rfl ?_
    refine v_ireturn dL_back_20 rfl ?_
    exact hq hf R' (fun t h1 _ => te' t h1) (by rw [(te' 80 (by decide)).2.1]; exact hl9) (Nat.le_of_ble_eq_true rfl) (fun e => absurd e (Nat.succ_ne_zero _))
  rcases c9 with _ | c9
  · refine v_catch (E := "java/lang/IllegalArgumentException") (j := 6) (hp := 21) (ln := 2) [(0, 14, 17, 21)] [(0, 14, 25, 23)] (0, 14, 21, 13) rfl (fun z hz => by
      rcases List.mem_cons.mp hz with rfl | hz
      · exact ⟨by decide, "java/lang/IndexOutOfBoundsException", by simp [g_ex], by decide, cl_L_21⟩
      cases hz) (by decide) (by decide) (by simp [g_ex]) cl_L_13 ca_E1 rfl (by decide) rfl (Or.inr ⟨dL_back_21, rfl⟩) ?_
    refine v_iconstv (v := 2) 24 dL_back_23 (by decide) rfl ?_
    refine v_ireturn dL_back_24 rfl ?_
    exact hq hf R' (fun t h1 _ => te' t h1) (by rw [(te' 80 (by decide)).2.1]; exact hl9) (Nat.le_of_ble_eq_true rfl) (fun e => absurd e (Nat.succ_ne_zero _))
  rcases c9 with _ | c9
  · refine v_catch (E := "java/lang/UnsupportedOperationException") (j := 6) (hp := 25) (ln := 2) [(0, 14, 17, 21), (0, 14, 21, 13)] [] (0, 14, 25, 23) rfl (fun z hz => by
      rcases List.mem_cons.mp hz with rfl | hz
      · exact ⟨by decide, "java/lang/IndexOutOfBoundsException", by simp [g_ex], by decide, cl_L_21⟩
      rcases List.mem_cons.mp hz with rfl | hz
      · exact ⟨by decide, "java/lang/IllegalArgumentException", by simp [g_ex], by decide, cl_L_13⟩
      cases hz) (by decide) (by decide) (by simp [g_ex]) cl_L_23 ca_E4 rfl (by decide) rfl (Or.inr ⟨dL_back_25, rfl⟩) ?_
    refine v_iconstv (v := 3) 28 dL_back_27 (by decide) rfl ?_
    refine v_ireturn dL_back_28 rfl ?_
    exact hq hf R' (fun t h1 _ => te' t h1) (by rw [(te' 80 (by decide)).2.1]; exact hl9) (Nat.le_of_ble_eq_true rfl) (fun e => absurd e (Nat.succ_ne_zero _))
  have hb : c9 + 4 ≤ 3 := hb
  omega
set_option maxRecDepth 20000 in
theorem C_L_jump {G : GW} {h : PH} {Q : RS → PH → Prop} {S : SP} {N : Nat} (R : Rp1 S h) (I : Iv S N) {x : Int32} (hl9 : hp_ln h 80 0 = 1) (hq : ∀ h', Rp1 S h' → (∀ t, t < 10 ∨ 40 ≤ t → ¬ t = 80 → hp_te h h' t) → hp_ln h' 80 0 = 1 → (op_jump S x).1 ≤ 3 → ((op_jump S x).1 = 0 → hp_vl h' 80 0 0 = (op_jump S x).2.toInt64) → Q (.inl (some (pv_I (nI (op_jump S x).1)))) h') : VV G 8 2 12 yL_jump cL_jump 4 (some .int) [(0, 9, 12, 21), (0, 9, 15, 58)] 0 (vv_en 4 [pv_O (10, 0), pv_I x, pv_O (80, 0)]) [] h Q := by
  show VV G 8 2 12 yL_jump cL_jump 4 (some .int) [(0, 9, 12, 21), (0, 9, 15, 58)] 0 [some (pv_O (10, 0)), some (pv_I x), some (pv_O (80, 0)), none] [] h Q
  refine v_aload_n 1 dL_jump_0 rfl rfl ?_
  refine v_iconstv (v := 0) 2 dL_jump_1 (by decide) rfl ?_
  refine v_aload_n 3 dL_jump_2 rfl rfl ?_
  refine v_iload_n 4 dL_jump_3 rfl rfl ?_
  refine v_invv (d' := 7) (k' := 2) (n' := 12) (k2 := 0) (n2 := 0) 7 [_] dL_jump_4 mt_L_55 mi_X6_jump me_X6_jump (by first | assumption | rfl) (by rfl) rfl rfl (of_decide_eq_true rfl) rfl (by decide) rfl rfl rfl rfl (C_X6_jump R I  ?_)
  have te' : ∀ t, t < 10 ∨ 40 ≤ t → hp_te h h t := fun _ _ => hp_te.rf
  have R' := R
  have hb : (op_jump S x).1 ≤ 2 := by
    unfold op_jump
    repeat' split
    all_goals first | exact Nat.zero_le _ | exact of_decide_eq_true rfl
  generalize op_jump S x = o at hb hq ⊢
  obtain ⟨c9, v9⟩ := o
  rcases c9 with _ | c9
  · refine v_i2l 8 dL_jump_7 rfl ?_
    refine v_last 9 dL_jump_8 (by first | assumption | rfl) (by first | assumption | decide) (by rw [(te' 80 (by decide)).2.1, hl9]; exact in_nI (m := 0) (by decide) (by decide)) rfl ?_
    refine v_goto 18 dL_jump_9 (by decide) ?_
    refine v_iconstv (v := 0) 19 dL_jump_18 (by decide) rfl ?_
    refine v_ireturn dL_jump_19 rfl ?_
    exact hq _ (R'.te (fun t ht => hp_te.l (by omega))) (fun t h1 h2 => (te' t h1).tr (hp_te.l h2)) (by show hp_ln h 80 0 = 1; rw [(te' 80 (by decide)).2.1]; exact hl9) (Nat.le_of_ble_eq_true rfl) (fun _ => hp_setl_at)
  rcases c9 with _ | c9
  · refine v_catch (E := "java/lang/IndexOutOfBoundsException") (j := 3) (hp := 12) (ln := 1) [] [(0, 9, 15, 58)] (0, 9, 12, 21) rfl (fun z hz => by cases hz) (by decide) (by decide) (by simp [g_ex]) cl_L_21 ca_E3 rfl (by decide) rfl (Or.inl ⟨3, rfl, dL_jump_12, rfl⟩) ?_
    refine v_iconstv (v := 1) 14 dL_jump_13 (by decide) rfl ?_
    refine v_ireturn dL_jump_14 rfl ?_
    exact hq h R' (fun t h1 _ => te' t h1) (by rw [(te' 80 (by decide)).2.1]; exact hl9) (Nat.le_of_ble_eq_true rfl) (fun e => absurd e (Nat.succ_ne_zero _))
  rcases c9 with _ | c9
  · refine v_catch (E := "java/util/NoSuchElementException") (j := 3) (hp := 15) (ln := 1) [(0, 9, 12, 21)] [] (0, 9, 15, 58) rfl (fun z hz => by
      rcases List.mem_cons.mp hz with rfl | hz
      · exact ⟨by decide, "java/lang/IndexOutOfBoundsException", by simp [g_ex], by decide, cl_L_21⟩
      cases hz) (by decide) (by decide) (by simp [g_ex]) cl_L_58 ca_E5 rfl (by decide) rfl (Or.inl ⟨3, rfl, dL_jump_15, rfl⟩) ?_
    refine v_iconstv (v := 2) 17 dL_jump_16 (by decide) rfl ?_
    refine v_ireturn dL_jump_17 rfl ?_
    exact hq h R' (fun t h1 _ => te' t h1) (by rw [(te' 80 (by decide)).2.1]; exact hl9) (Nat.le_of_ble_eq_true rfl) (fun e => absurd e (Nat.succ_ne_zero _))
  have hb : c9 + 3 ≤ 2 := hb
  omega
set_option maxRecDepth 20000 in
theorem C_L_bestFirst {G : GW} {h : PH} {Q : RS → PH → Prop} {S : SP} {N : Nat} (R : Rp1 S h) (I : Iv S N) {x y e c : Int32} (hc9 : 0 ≤ c ∧ c ≤ 65535) (hl9 : hp_ln h 80 0 = 1) (hq : ∀ h', Rp1 S h' → (∀ t, t < 10 ∨ 40 ≤ t → ¬ t = 80 → hp_te h h' t) → hp_ln h' 80 0 = 1 → (op_bestFirst S x y e c).1 ≤ 3 → ((op_bestFirst S x y e c).1 = 0 → hp_vl h' 80 0 0 = (op_bestFirst S x y e c).2.toInt64) → Q (.inl (some (pv_I (nI (op_bestFirst S x y e c).1)))) h') : VV G 9 4 24 yL_bestFirst cL_bestFirst 7 (some .int) [(0, 14, 17, 21), (0, 14, 21, 13), (0, 14, 25, 58)] 0 (vv_en 7 [pv_O (10, 0), pv_I x, pv_I y, pv_I e, pv_I c, pv_O (80, 0)]) [] h Q := by
  show VV G 9 4 24 yL_bestFirst cL_bestFirst 7 (some .int) [(0, 14, 17, 21), (0, 14, 21, 13), (0, 14, 25, 58)] 0 [some (pv_O (10, 0)), some (pv_I x), some (pv_I y), some (pv_I e), some (pv_I c), some (pv_O (80, 0)), none] [] h Q
  refine v_aload 2 dL_bestFirst_0 rfl rfl ?_
  refine v_iconstv (v := 0) 3 dL_bestFirst_2 (by decide) rfl ?_
  refine v_aload_n 4 dL_bestFirst_3 rfl rfl ?_
  refine v_iload_n 5 dL_bestFirst_4 rfl rfl ?_
  refine v_iload_n 6 dL_bestFirst_5 rfl rfl ?_
  refine v_iload_n 7 dL_bestFirst_6 rfl rfl ?_
  refine v_iload 9 dL_bestFirst_7 rfl rfl ?_
  refine v_invv (d' := 8) (k' := 4) (n' := 24) (k2 := 0) (n2 := 0) 12 [_, _, _, _] dL_bestFirst_9 mt_L_60 mi_X6_bestFirst me_X6_bestFirst (by first | assumption | rfl) (by rfl) rfl rfl (of_decide_eq_true rfl) rfl (by decide) rfl rfl rfl rfl (C_X6_bestFirst R I hc9 ?_)
  have te' : ∀ t, t < 10 ∨ 40 ≤ t → hp_te h h t := fun _ _ => hp_te.rf
  have R' := R
  have hb : (op_bestFirst S x y e c).1 ≤ 3 := by
    unfold op_bestFirst
    repeat' split
    all_goals first | exact Nat.zero_le _ | exact of_decide_eq_true rfl
  generalize op_bestFirst S x y e c = o at hb hq ⊢
  obtain ⟨c9, v9⟩ := o
  rcases c9 with _ | c9
  · refine v_i2l 13 dL_bestFirst_12 rfl ?_
    refine v_last 14 dL_bestFirst_13 (by first | assumption | rfl) (by first | assumption | decide) (by rw [(te' 80 (by decide)).2.1, hl9]; exact in_nI (m := 0) (by decide) (by decide)) rfl ?_
    refine v_goto 29 dL_bestFirst_14 (by decide) ?_
    refine v_iconstv (v := 0) 30 dL_bestFirst_29 (by decide) rfl ?_
    refine v_ireturn dL_bestFirst_30 rfl ?_
    exact hq _ (R'.te (fun t ht => hp_te.l (by omega))) (fun t h1 h2 => (te' t h1).tr (hp_te.l h2)) (by show hp_ln h 80 0 = 1; rw [(te' 80 (by decide)).2.1]; exact hl9) (Nat.le_of_ble_eq_true rfl) (fun _ => hp_setl_at)
  rcases c9 with _ | c9
  · refine v_catch (E := "java/lang/IndexOutOfBoundsException") (j := 6) (hp := 17) (ln := 2) [] [(0, 14, 21, 13), (0, 14, 25, 58)] (0, 14, 17, 21) rfl (fun z hz => by cases hz) (by decide) (by decide) (by simp [g_ex]) cl_L_21 ca_E3 rfl (by decide) rfl (Or.inr ⟨dL_bestFirst_17, rfl⟩) ?_
    refine v_iconstv (v := 1) 20 dL_bestFirst_19 (by decide) rfl ?_
    refine v_ireturn dL_bestFirst_20 rfl ?_
    exact hq h R' (fun t h1 _ => te' t h1) (by rw [(te' 80 (by decide)).2.1]; exact hl9) (Nat.le_of_ble_eq_true rfl) (fun e => absurd e (Nat.succ_ne_zero _))
  rcases c9 with _ | c9
  · refine v_catch (E := "java/lang/IllegalArgumentException") (j := 6) (hp := 21) (ln := 2) [(0, 14, 17, 21)] [(0, 14, 25, 58)] (0, 14, 21, 13) rfl (fun z hz => by
      rcases List.mem_cons.mp hz with rfl | hz
      · exact ⟨by decide, "java/lang/IndexOutOfBoundsException", by simp [g_ex], by decide, cl_L_21⟩
      cases hz) (by decide) (by decide) (by simp [g_ex]) cl_L_13 ca_E1 rfl (by decide) rfl (Or.inr ⟨dL_bestFirst_21, rfl⟩) ?_
    refine v_iconstv (v := 2) 24 dL_bestFirst_23 (by decide) rfl ?_
    refine v_ireturn dL_bestFirst_24 rfl ?_
    exact hq h R' (fun t h1 _ => te' t h1) (by rw [(te' 80 (by decide)).2.1]; exact hl9) (Nat.le_of_ble_eq_true rfl) (fun e => absurd e (Nat.succ_ne_zero _))
  rcases c9 with _ | c9
  · refine v_catch (E := "java/util/NoSuchElementException") (j := 6) (hp := 25) (ln := 2) [(0, 14, 17, 21), (0, 14, 21, 13)] [] (0, 14, 25, 58) rfl (fun z hz => by
      rcases List.mem_cons.mp hz with rfl | hz
      · exact ⟨by decide, "java/lang/IndexOutOfBoundsException", by simp [g_ex], by decide, cl_L_21⟩
      rcases List.mem_cons.mp hz with rfl | hz
      · exact ⟨by decide, "java/lang/IllegalArgumentException", by simp [g_ex], by decide, cl_L_13⟩
      cases hz) (by decide) (by decide) (by simp [g_ex]) cl_L_58 ca_E5 rfl (by decide) rfl (Or.inr ⟨dL_bestFirst_25, rfl⟩) ?_
    refine v_iconstv (v := 3) 28 dL_bestFirst_27 (by decide) rfl ?_
    refine v_ireturn dL_bestFirst_28 rfl ?_
    exact hq h R' (fun t h1 _ => te' t h1) (by rw [(te' 80 (by decide)).2.1]; exact hl9) (Nat.le_of_ble_eq_true rfl) (fun e => absurd e (Nat.succ_ne_zero _))
  have hb : c9 + 4 ≤ 3 := hb
  omega
set_option maxRecDepth 20000 in
theorem C_L_press {G : GW} {h : PH} {Q : RS → PH → Prop} {S : SP} {N : Nat} (R : Rp1 S h) (I : Iv S N) {x w mi wa : Int32} (hl9 : hp_ln h 80 0 = 1) (hq : ∀ h', Rp1 (op_press S x w mi wa).2.2 h' → (∀ t, t < 10 ∨ 40 ≤ t → ¬ t = 80 → hp_te h h' t) → hp_ln h' 80 0 = 1 → (op_press S x w mi wa).1 ≤ 3 → ((op_press S x w mi wa).1 = 0 → hp_vl h' 80 0 0 = (op_press S x w mi wa).2.1.toInt64) → Q (.inl (some (pv_I (nI (op_press S x w mi wa).1)))) h') : VV G 8 2 12 yL_press cL_press 7 (some .int) [(0, 14, 17, 21), (0, 14, 21, 13), (0, 14, 25, 23)] 0 (vv_en 7 [pv_O (10, 0), pv_I x, pv_I w, pv_I mi, pv_I wa, pv_O (80, 0)]) [] h Q := by
  show VV G 8 2 12 yL_press cL_press 7 (some .int) [(0, 14, 17, 21), (0, 14, 21, 13), (0, 14, 25, 23)] 0 [some (pv_O (10, 0)), some (pv_I x), some (pv_I w), some (pv_I mi), some (pv_I wa), some (pv_O (80, 0)), none] [] h Q
  refine v_aload 2 dL_press_0 rfl rfl ?_
  refine v_iconstv (v := 0) 3 dL_press_2 (by decide) rfl ?_
  refine v_aload_n 4 dL_press_3 rfl rfl ?_
  refine v_iload_n 5 dL_press_4 rfl rfl ?_
  refine v_iload_n 6 dL_press_5 rfl rfl ?_
  refine v_iload_n 7 dL_press_6 rfl rfl ?_
  refine v_iload 9 dL_press_7 rfl rfl ?_
  refine v_invv (d' := 7) (k' := 2) (n' := 12) (k2 := 0) (n2 := 0) 12 [_, _, _, _] dL_press_9 mt_L_64 mi_X6_press me_X6_press (by first | assumption | rfl) (by rfl) rfl rfl (of_decide_eq_true rfl) rfl (by decide) rfl rfl rfl rfl (C_X6_press R I  (fun hf R' te' => ?_))
  have hb : (op_press S x w mi wa).1 ≤ 3 := by
    unfold op_press
    repeat' split
    all_goals first | exact Nat.zero_le _ | exact of_decide_eq_true rfl
  generalize op_press S x w mi wa = o at hb hq R' ⊢
  obtain ⟨c9, v9, S9⟩ := o
  rcases c9 with _ | c9
  · refine v_i2l 13 dL_press_12 rfl ?_
    refine v_last 14 dL_press_13 (by first | assumption | rfl) (by first | assumption | decide) (by rw [(te' 80 (by decide)).2.1, hl9]; exact in_nI (m := 0) (by decide) (by decide)) rfl ?_
    refine v_goto 29 dL_press_14 (by decide) ?_
    refine v_iconstv (v := 0) 30 dL_press_29 (by decide) rfl ?_
    refine v_ireturn dL_press_30 rfl ?_
    exact hq _ (R'.te (fun t ht => hp_te.l (by omega))) (fun t h1 h2 => (te' t h1).tr (hp_te.l h2)) (by show hp_ln hf 80 0 = 1; rw [(te' 80 (by decide)).2.1]; exact hl9) (Nat.le_of_ble_eq_true rfl) (fun _ => hp_setl_at)
  rcases c9 with _ | c9
  · refine v_catch (E := "java/lang/IndexOutOfBoundsException") (j := 6) (hp := 17) (ln := 2) [] [(0, 14, 21, 13), (0, 14, 25, 23)] (0, 14, 17, 21) rfl (fun z hz => by cases hz) (by decide) (by decide) (by simp [g_ex]) cl_L_21 ca_E3 rfl (by decide) rfl (Or.inr ⟨dL_press_17, rfl⟩) ?_
    refine v_iconstv (v := 1) 20 dL_press_19 (by decide) rfl ?_
    refine v_ireturn dL_press_20 rfl ?_
    exact hq hf R' (fun t h1 _ => te' t h1) (by rw [(te' 80 (by decide)).2.1]; exact hl9) (Nat.le_of_ble_eq_true rfl) (fun e => absurd e (Nat.succ_ne_zero _))
  rcases c9 with _ | c9
  · refine v_catch (E := "java/lang/IllegalArgumentException") (j := 6) (hp := 21) (ln := 2) [(0, 14, 17, 21)] [(0, 14, 25, 23)] (0, 14, 21, 13) rfl (fun z hz => by
      rcases List.mem_cons.mp hz with rfl | hz
      · exact ⟨by decide, "java/lang/IndexOutOfBoundsException", by simp [g_ex], by decide, cl_L_21⟩
      cases hz) (by decide) (by decide) (by simp [g_ex]) cl_L_13 ca_E1 rfl (by decide) rfl (Or.inr ⟨dL_press_21, rfl⟩) ?_
    refine v_iconstv (v := 2) 24 dL_press_23 (by decide) rfl ?_
    refine v_ireturn dL_press_24 rfl ?_
    exact hq hf R' (fun t h1 _ => te' t h1) (by rw [(te' 80 (by decide)).2.1]; exact hl9) (Nat.le_of_ble_eq_true rfl) (fun e => absurd e (Nat.succ_ne_zero _))
  rcases c9 with _ | c9
  · refine v_catch (E := "java/lang/UnsupportedOperationException") (j := 6) (hp := 25) (ln := 2) [(0, 14, 17, 21), (0, 14, 21, 13)] [] (0, 14, 25, 23) rfl (fun z hz => by
      rcases List.mem_cons.mp hz with rfl | hz
      · exact ⟨by decide, "java/lang/IndexOutOfBoundsException", by simp [g_ex], by decide, cl_L_21⟩
      rcases List.mem_cons.mp hz with rfl | hz
      · exact ⟨by decide, "java/lang/IllegalArgumentException", by simp [g_ex], by decide, cl_L_13⟩
      cases hz) (by decide) (by decide) (by simp [g_ex]) cl_L_23 ca_E4 rfl (by decide) rfl (Or.inr ⟨dL_press_25, rfl⟩) ?_
    refine v_iconstv (v := 3) 28 dL_press_27 (by decide) rfl ?_
    refine v_ireturn dL_press_28 rfl ?_
    exact hq hf R' (fun t h1 _ => te' t h1) (by rw [(te' 80 (by decide)).2.1]; exact hl9) (Nat.le_of_ble_eq_true rfl) (fun e => absurd e (Nat.succ_ne_zero _))
  have hb : c9 + 4 ≤ 3 := hb
  omega
set_option maxRecDepth 20000 in
theorem C_L_slit {G : GW} {h : PH} {Q : RS → PH → Prop} {S : SP} {N : Nat} (R : Rp1 S h) (I : Iv S N) {x : Int32} (hl9 : hp_ln h 80 0 = 1) (hq : ∀ h', Rp1 (op_slit S x).2.2 h' → (∀ t, t < 10 ∨ 40 ≤ t → ¬ t = 80 → hp_te h h' t) → hp_ln h' 80 0 = 1 → (op_slit S x).1 ≤ 3 → ((op_slit S x).1 = 0 → hp_vl h' 80 0 0 = (op_slit S x).2.1.toInt64) → Q (.inl (some (pv_I (nI (op_slit S x).1)))) h') : VV G 8 2 12 yL_slit cL_slit 4 (some .int) [(0, 9, 12, 21), (0, 9, 15, 58)] 0 (vv_en 4 [pv_O (10, 0), pv_I x, pv_O (80, 0)]) [] h Q := by
  show VV G 8 2 12 yL_slit cL_slit 4 (some .int) [(0, 9, 12, 21), (0, 9, 15, 58)] 0 [some (pv_O (10, 0)), some (pv_I x), some (pv_O (80, 0)), none] [] h Q
  refine v_aload_n 1 dL_slit_0 rfl rfl ?_
  refine v_iconstv (v := 0) 2 dL_slit_1 (by decide) rfl ?_
  refine v_aload_n 3 dL_slit_2 rfl rfl ?_
  refine v_iload_n 4 dL_slit_3 rfl rfl ?_
  refine v_invv (d' := 7) (k' := 2) (n' := 12) (k2 := 0) (n2 := 0) 7 [_] dL_slit_4 mt_L_67 mi_X6_slit me_X6_slit (by first | assumption | rfl) (by rfl) rfl rfl (of_decide_eq_true rfl) rfl (by decide) rfl rfl rfl rfl (C_X6_slit R I  (fun hf R' te' => ?_))
  have hb : (op_slit S x).1 ≤ 2 := by
    unfold op_slit
    repeat' split
    all_goals first | exact Nat.zero_le _ | exact of_decide_eq_true rfl
  generalize op_slit S x = o at hb hq R' ⊢
  obtain ⟨c9, v9, S9⟩ := o
  rcases c9 with _ | c9
  · refine v_i2l 8 dL_slit_7 rfl ?_
    refine v_last 9 dL_slit_8 (by first | assumption | rfl) (by first | assumption | decide) (by rw [(te' 80 (by decide)).2.1, hl9]; exact in_nI (m := 0) (by decide) (by decide)) rfl ?_
    refine v_goto 18 dL_slit_9 (by decide) ?_
    refine v_iconstv (v := 0) 19 dL_slit_18 (by decide) rfl ?_
    refine v_ireturn dL_slit_19 rfl ?_
    exact hq _ (R'.te (fun t ht => hp_te.l (by omega))) (fun t h1 h2 => (te' t h1).tr (hp_te.l h2)) (by show hp_ln hf 80 0 = 1; rw [(te' 80 (by decide)).2.1]; exact hl9) (Nat.le_of_ble_eq_true rfl) (fun _ => hp_setl_at)
  rcases c9 with _ | c9
  · refine v_catch (E := "java/lang/IndexOutOfBoundsException") (j := 3) (hp := 12) (ln := 1) [] [(0, 9, 15, 58)] (0, 9, 12, 21) rfl (fun z hz => by cases hz) (by decide) (by decide) (by simp [g_ex]) cl_L_21 ca_E3 rfl (by decide) rfl (Or.inl ⟨3, rfl, dL_slit_12, rfl⟩) ?_
    refine v_iconstv (v := 1) 14 dL_slit_13 (by decide) rfl ?_
    refine v_ireturn dL_slit_14 rfl ?_
    exact hq hf R' (fun t h1 _ => te' t h1) (by rw [(te' 80 (by decide)).2.1]; exact hl9) (Nat.le_of_ble_eq_true rfl) (fun e => absurd e (Nat.succ_ne_zero _))
  rcases c9 with _ | c9
  · refine v_catch (E := "java/util/NoSuchElementException") (j := 3) (hp := 15) (ln := 1) [(0, 9, 12, 21)] [] (0, 9, 15, 58) rfl (fun z hz => by
      rcases List.mem_cons.mp hz with rfl | hz
      · exact ⟨by decide, "java/lang/IndexOutOfBoundsException", by simp [g_ex], by decide, cl_L_21⟩
      cases hz) (by decide) (by decide) (by simp [g_ex]) cl_L_58 ca_E5 rfl (by decide) rfl (Or.inl ⟨3, rfl, dL_slit_15, rfl⟩) ?_
    refine v_iconstv (v := 2) 17 dL_slit_16 (by decide) rfl ?_
    refine v_ireturn dL_slit_17 rfl ?_
    exact hq hf R' (fun t h1 _ => te' t h1) (by rw [(te' 80 (by decide)).2.1]; exact hl9) (Nat.le_of_ble_eq_true rfl) (fun e => absurd e (Nat.succ_ne_zero _))
  have hb : c9 + 3 ≤ 2 := hb
  omega
set_option maxRecDepth 20000 in
theorem C_L_air {G : GW} {h : PH} {Q : RS → PH → Prop} {S : SP} {N : Nat} (R : Rp1 S h) (I : Iv S N) {x : Int32} (hl9 : hp_ln h 80 0 = 1) (hq : ∀ h', Rp1 (op_air S x).2.2 h' → (∀ t, t < 10 ∨ 40 ≤ t → ¬ t = 80 → hp_te h h' t) → hp_ln h' 80 0 = 1 → (op_air S x).1 ≤ 3 → ((op_air S x).1 = 0 → hp_vl h' 80 0 0 = (op_air S x).2.1.toInt64) → Q (.inl (some (pv_I (nI (op_air S x).1)))) h') : VV G 7 1 6 yL_air cL_air 4 (some .int) [(0, 9, 12, 13)] 0 (vv_en 4 [pv_O (10, 0), pv_I x, pv_O (80, 0)]) [] h Q := by
  show VV G 7 1 6 yL_air cL_air 4 (some .int) [(0, 9, 12, 13)] 0 [some (pv_O (10, 0)), some (pv_I x), some (pv_O (80, 0)), none] [] h Q
  refine v_aload_n 1 dL_air_0 rfl rfl ?_
  refine v_iconstv (v := 0) 2 dL_air_1 (by decide) rfl ?_
  refine v_aload_n 3 dL_air_2 rfl rfl ?_
  refine v_iload_n 4 dL_air_3 rfl rfl ?_
  refine v_invv (d' := 6) (k' := 1) (n' := 6) (k2 := 0) (n2 := 0) 7 [_] dL_air_4 mt_L_70 mi_X6_air me_X6_air (by first | assumption | rfl) (by rfl) rfl rfl (of_decide_eq_true rfl) rfl (by decide) rfl rfl rfl rfl (C_X6_air R I  (fun hf R' te' => ?_))
  have hb : (op_air S x).1 ≤ 1 := by
    unfold op_air
    repeat' split
    all_goals first | exact Nat.zero_le _ | exact of_decide_eq_true rfl
  generalize op_air S x = o at hb hq R' ⊢
  obtain ⟨c9, v9, S9⟩ := o
  rcases c9 with _ | c9
  · refine v_i2l 8 dL_air_7 rfl ?_
    refine v_last 9 dL_air_8 (by first | assumption | rfl) (by first | assumption | decide) (by rw [(te' 80 (by decide)).2.1, hl9]; exact in_nI (m := 0) (by decide) (by decide)) rfl ?_
    refine v_goto 15 dL_air_9 (by decide) ?_
    refine v_iconstv (v := 0) 16 dL_air_15 (by decide) rfl ?_
    refine v_ireturn dL_air_16 rfl ?_
    exact hq _ (R'.te (fun t ht => hp_te.l (by omega))) (fun t h1 h2 => (te' t h1).tr (hp_te.l h2)) (by show hp_ln hf 80 0 = 1; rw [(te' 80 (by decide)).2.1]; exact hl9) (Nat.le_of_ble_eq_true rfl) (fun _ => hp_setl_at)
  rcases c9 with _ | c9
  · refine v_catch (E := "java/lang/IllegalArgumentException") (j := 3) (hp := 12) (ln := 1) [] [] (0, 9, 12, 13) rfl (fun z hz => by cases hz) (by decide) (by decide) (by simp [g_ex]) cl_L_13 ca_E1 rfl (by decide) rfl (Or.inl ⟨3, rfl, dL_air_12, rfl⟩) ?_
    refine v_iconstv (v := 1) 14 dL_air_13 (by decide) rfl ?_
    refine v_ireturn dL_air_14 rfl ?_
    exact hq hf R' (fun t h1 _ => te' t h1) (by rw [(te' 80 (by decide)).2.1]; exact hl9) (Nat.le_of_ble_eq_true rfl) (fun e => absurd e (Nat.succ_ne_zero _))
  have hb : c9 + 2 ≤ 1 := hb
  omega
set_option maxRecDepth 20000 in
theorem C_L_cup {G : GW} {h : PH} {Q : RS → PH → Prop} {S : SP} {N : Nat} (R : Rp1 S h) (I : Iv S N) {x a : Int32} (hl9 : hp_ln h 80 0 = 1) (hq : ∀ h', Rp1 S h' → (∀ t, t < 10 ∨ 40 ≤ t → ¬ t = 80 → hp_te h h' t) → hp_ln h' 80 0 = 1 → (op_cup S x a).1 ≤ 3 → ((op_cup S x a).1 = 0 → hp_vl h' 80 0 0 = (op_cup S x a).2.toInt64) → Q (.inl (some (pv_I (nI (op_cup S x a).1)))) h') : VV G 8 3 18 yL_cup cL_cup 5 (some .int) [(0, 10, 13, 21), (0, 10, 17, 13), (0, 10, 21, 23)] 0 (vv_en 5 [pv_O (10, 0), pv_I x, pv_I a, pv_O (80, 0)]) [] h Q := by
  show VV G 8 3 18 yL_cup cL_cup 5 (some .int) [(0, 10, 13, 21), (0, 10, 17, 13), (0, 10, 21, 23)] 0 [some (pv_O (10, 0)), some (pv_I x), some (pv_I a), some (pv_O (80, 0)), none] [] h Q
  refine v_aload_n 1 dL_cup_0 rfl rfl ?_
  refine v_iconstv (v := 0) 2 dL_cup_1 (by decide) rfl ?_
  refine v_aload_n 3 dL_cup_2 rfl rfl ?_
  refine v_iload_n 4 dL_cup_3 rfl rfl ?_
  refine v_iload_n 5 dL_cup_4 rfl rfl ?_
  refine v_invv (d' := 7) (k' := 3) (n' := 18) (k2 := 0) (n2 := 0) 8 [_, _] dL_cup_5 mt_L_73 mi_X6_cup me_X6_cup (by first | assumption | rfl) (by rfl) rfl rfl (of_decide_eq_true rfl) rfl (by decide) rfl rfl rfl rfl (C_X6_cup R I  ?_)
  have te' : ∀ t, t < 10 ∨ 40 ≤ t → hp_te h h t := fun _ _ => hp_te.rf
  have R' := R
  have hb : (op_cup S x a).1 ≤ 3 := by
    unfold op_cup
    repeat' split
    all_goals first | exact Nat.zero_le _ | exact of_decide_eq_true rfl
  generalize op_cup S x a = o at hb hq ⊢
  obtain ⟨c9, v9⟩ := o
  rcases c9 with _ | c9
  · refine v_i2l 9 dL_cup_8 rfl ?_
    refine v_last 10 dL_cup_9 (by first | assumption | rfl) (by first | assumption | decide) (by rw [(te' 80 (by decide)).2.1, hl9]; exact in_nI (m := 0) (by decide) (by decide)) rfl ?_
    refine v_goto 25 dL_cup_10 (by decide) ?_
    refine v_iconstv (v := 0) 26 dL_cup_25 (by decide) rfl ?_
    refine v_ireturn dL_cup_26 rfl ?_
    exact hq _ (R'.te (fun t ht => hp_te.l (by omega))) (fun t h1 h2 => (te' t h1).tr (hp_te.l h2)) (by show hp_ln h 80 0 = 1; rw [(te' 80 (by decide)).2.1]; exact hl9) (Nat.le_of_ble_eq_true rfl) (fun _ => hp_setl_at)
  rcases c9 with _ | c9
  · refine v_catch (E := "java/lang/IndexOutOfBoundsException") (j := 4) (hp := 13) (ln := 2) [] [(0, 10, 17, 13), (0, 10, 21, 23)] (0, 10, 13, 21) rfl (fun z hz => by cases hz) (by decide) (by decide) (by simp [g_ex]) cl_L_21 ca_E3 rfl (by decide) rfl (Or.inr ⟨dL_cup_13, rfl⟩) ?_
    refine v_iconstv (v := 1) 16 dL_cup_15 (by decide) rfl ?_
    refine v_ireturn dL_cup_16 rfl ?_
    exact hq h R' (fun t h1 _ => te' t h1) (by rw [(te' 80 (by decide)).2.1]; exact hl9) (Nat.le_of_ble_eq_true rfl) (fun e => absurd e (Nat.succ_ne_zero _))
  rcases c9 with _ | c9
  · refine v_catch (E := "java/lang/IllegalArgumentException") (j := 4) (hp := 17) (ln := 2) [(0, 10, 13, 21)] [(0, 10, 21, 23)] (0, 10, 17, 13) rfl (fun z hz => by
      rcases List.mem_cons.mp hz with rfl | hz
      · exact ⟨by decide, "java/lang/IndexOutOfBoundsException", by simp [g_ex], by decide, cl_L_21⟩
      cases hz) (by decide) (by decide) (by simp [g_ex]) cl_L_13 ca_E1 rfl (by decide) rfl (Or.inr ⟨dL_cup_17, rfl⟩) ?_
    refine v_iconstv (v := 2) 20 dL_cup_19 (by decide) rfl ?_
    refine v_ireturn dL_cup_20 rfl ?_
    exact hq h R' (fun t h1 _ => te' t h1) (by rw [(te' 80 (by decide)).2.1]; exact hl9) (Nat.le_of_ble_eq_true rfl) (fun e => absurd e (Nat.succ_ne_zero _))
  rcases c9 with _ | c9
  · refine v_catch (E := "java/lang/UnsupportedOperationException") (j := 4) (hp := 21) (ln := 2) [(0, 10, 13, 21), (0, 10, 17, 13)] [] (0, 10, 21, 23) rfl (fun z hz => by
      rcases List.mem_cons.mp hz with rfl | hz
      · exact ⟨by decide, "java/lang/IndexOutOfBoundsException", by simp [g_ex], by decide, cl_L_21⟩
      rcases List.mem_cons.mp hz with rfl | hz
      · exact ⟨by decide, "java/lang/IllegalArgumentException", by simp [g_ex], by decide, cl_L_13⟩
      cases hz) (by decide) (by decide) (by simp [g_ex]) cl_L_23 ca_E4 rfl (by decide) rfl (Or.inr ⟨dL_cup_21, rfl⟩) ?_
    refine v_iconstv (v := 3) 24 dL_cup_23 (by decide) rfl ?_
    refine v_ireturn dL_cup_24 rfl ?_
    exact hq h R' (fun t h1 _ => te' t h1) (by rw [(te' 80 (by decide)).2.1]; exact hl9) (Nat.le_of_ble_eq_true rfl) (fun e => absurd e (Nat.succ_ne_zero _))
  have hb : c9 + 4 ≤ 3 := hb
  omega
set_option maxRecDepth 20000 in
theorem C_L_isFlat {G : GW} {h : PH} {Q : RS → PH → Prop} {S : SP} {N : Nat} (R : Rp1 S h) (I : Iv S N) {x : Int32} (hl9 : hp_ln h 80 0 = 1) (hq : ∀ h', Rp1 S h' → (∀ t, t < 10 ∨ 40 ≤ t → ¬ t = 80 → hp_te h h' t) → hp_ln h' 80 0 = 1 → (op_isFlat S x).1 ≤ 3 → ((op_isFlat S x).1 = 0 → hp_vl h' 80 0 0 = (if (op_isFlat S x).2 = 0 then 0 else 1)) → Q (.inl (some (pv_I (nI (op_isFlat S x).1)))) h') : VV G 8 2 12 yL_isFlat cL_isFlat 4 (some .int) [(0, 16, 19, 21), (0, 16, 22, 23)] 0 (vv_en 4 [pv_O (10, 0), pv_I x, pv_O (80, 0)]) [] h Q := by
  show VV G 8 2 12 yL_isFlat cL_isFlat 4 (some .int) [(0, 16, 19, 21), (0, 16, 22, 23)] 0 [some (pv_O (10, 0)), some (pv_I x), some (pv_O (80, 0)), none] [] h Q
  refine v_aload_n 1 dL_isFlat_0 rfl rfl ?_
  refine v_iconstv (v := 0) 2 dL_isFlat_1 (by decide) rfl ?_
  refine v_aload_n 3 dL_isFlat_2 rfl rfl ?_
  refine v_iload_n 4 dL_isFlat_3 rfl rfl ?_
  refine v_invv (d' := 7) (k' := 2) (n' := 12) (k2 := 0) (n2 := 0) 7 [_] dL_isFlat_4 mt_L_76 mi_X6_isFlat me_X6_isFlat (by first | assumption | rfl) (by rfl) rfl rfl (of_decide_eq_true rfl) rfl (by decide) rfl rfl rfl rfl (C_X6_isFlat R I  ?_)
  have te' : ∀ t, t < 10 ∨ 40 ≤ t → hp_te h h t := fun _ _ => hp_te.rf
  have R' := R
  have hb : (op_isFlat S x).1 ≤ 2 := by
    unfold op_isFlat
    repeat' split
    all_goals first | exact Nat.zero_le _ | exact of_decide_eq_true rfl
  generalize op_isFlat S x = o at hb hq ⊢
  obtain ⟨c9, v9⟩ := o
  rcases c9 with _ | c9
  · refine v_if_eq 14 10 dL_isFlat_7 (by decide) rfl (fun c7 => ?_) (fun c7 => ?_)
    · refine v_lconst (v := 0) 15 dL_isFlat_14 (by decide) rfl ?_
      refine v_last 16 dL_isFlat_15 (by first | assumption | rfl) (by first | assumption | decide) (by rw [(te' 80 (by decide)).2.1, hl9]; exact in_nI (m := 0) (by decide) (by decide)) rfl ?_
      refine v_goto 25 dL_isFlat_16 (by decide) ?_
      refine v_iconstv (v := 0) 26 dL_isFlat_25 (by decide) rfl ?_
      refine v_ireturn dL_isFlat_26 rfl ?_
      exact hq _ (R'.te (fun t ht => hp_te.l (by omega))) (fun t h1 h2 => (te' t h1).tr (hp_te.l h2)) (by show hp_ln h 80 0 = 1; rw [(te' 80 (by decide)).2.1]; exact hl9) (Nat.le_of_ble_eq_true rfl) (fun _ => (hp_setl_at.trans (by first | exact (if_pos c7).symm | exact (if_neg c7).symm)))
    · refine v_lconst (v := 1) 11 dL_isFlat_10 (by decide) rfl ?_
      refine v_goto 15 dL_isFlat_11 (by decide) ?_
      refine v_last 16 dL_isFlat_15 (by first | assumption | rfl) (by first | assumption | decide) (by rw [(te' 80 (by decide)).2.1, hl9]; exact in_nI (m := 0) (by decide) (by decide)) rfl ?_
      refine v_goto 25 dL_isFlat_16 (by decide) ?_
      refine v_iconstv (v := 0) 26 dL_isFlat_25 (by decide) rfl ?_
      refine v_ireturn dL_isFlat_26 rfl ?_
      exact hq _ (R'.te (fun t ht => hp_te.l (by omega))) (fun t h1 h2 => (te' t h1).tr (hp_te.l h2)) (by show hp_ln h 80 0 = 1; rw [(te' 80 (by decide)).2.1]; exact hl9) (Nat.le_of_ble_eq_true rfl) (fun _ => (hp_setl_at.trans (by first | exact (if_pos c7).symm | exact (if_neg c7).symm)))
  rcases c9 with _ | c9
  · refine v_catch (E := "java/lang/IndexOutOfBoundsException") (j := 3) (hp := 19) (ln := 1) [] [(0, 16, 22, 23)] (0, 16, 19, 21) rfl (fun z hz => by cases hz) (by decide) (by decide) (by simp [g_ex]) cl_L_21 ca_E3 rfl (by decide) rfl (Or.inl ⟨3, rfl, dL_isFlat_19, rfl⟩) ?_
    refine v_iconstv (v := 1) 21 dL_isFlat_20 (by decide) rfl ?_
    refine v_ireturn dL_isFlat_21 rfl ?_
    exact hq h R' (fun t h1 _ => te' t h1) (by rw [(te' 80 (by decide)).2.1]; exact hl9) (Nat.le_of_ble_eq_true rfl) (fun e => absurd e (Nat.succ_ne_zero _))
  rcases c9 with _ | c9
  · refine v_catch (E := "java/lang/UnsupportedOperationException") (j := 3) (hp := 22) (ln := 1) [(0, 16, 19, 21)] [] (0, 16, 22, 23) rfl (fun z hz => by
      rcases List.mem_cons.mp hz with rfl | hz
      · exact ⟨by decide, "java/lang/IndexOutOfBoundsException", by simp [g_ex], by decide, cl_L_21⟩
      cases hz) (by decide) (by decide) (by simp [g_ex]) cl_L_23 ca_E4 rfl (by decide) rfl (Or.inl ⟨3, rfl, dL_isFlat_22, rfl⟩) ?_
    refine v_iconstv (v := 2) 24 dL_isFlat_23 (by decide) rfl ?_
    refine v_ireturn dL_isFlat_24 rfl ?_
    exact hq h R' (fun t h1 _ => te' t h1) (by rw [(te' 80 (by decide)).2.1]; exact hl9) (Nat.le_of_ble_eq_true rfl) (fun e => absurd e (Nat.succ_ne_zero _))
  have hb : c9 + 3 ≤ 2 := hb
  omega
set_option maxRecDepth 20000 in
theorem C_L_cupMonth {G : GW} {h : PH} {Q : RS → PH → Prop} {S : SP} {N : Nat} (R : Rp1 S h) (I : Iv S N) {x : Int32} (hl9 : hp_ln h 80 0 = 1) (hq : ∀ h', Rp1 S h' → (∀ t, t < 10 ∨ 40 ≤ t → ¬ t = 80 → hp_te h h' t) → hp_ln h' 80 0 = 1 → (op_cupMonth S x).1 ≤ 3 → ((op_cupMonth S x).1 = 0 → hp_vl h' 80 0 0 = (op_cupMonth S x).2.toInt64) → Q (.inl (some (pv_I (nI (op_cupMonth S x).1)))) h') : VV G 9 3 18 yL_cupMonth cL_cupMonth 4 (some .int) [(0, 9, 12, 21), (0, 9, 15, 23), (0, 9, 18, 58)] 0 (vv_en 4 [pv_O (10, 0), pv_I x, pv_O (80, 0)]) [] h Q := by
  show VV G 9 3 18 yL_cupMonth cL_cupMonth 4 (some .int) [(0, 9, 12, 21), (0, 9, 15, 23), (0, 9, 18, 58)] 0 [some (pv_O (10, 0)), some (pv_I x), some (pv_O (80, 0)), none] [] h Q
  refine v_aload_n 1 dL_cupMonth_0 rfl rfl ?_
  refine v_iconstv (v := 0) 2 dL_cupMonth_1 (by decide) rfl ?_
  refine v_aload_n 3 dL_cupMonth_2 rfl rfl ?_
  refine v_iload_n 4 dL_cupMonth_3 rfl rfl ?_
  refine v_invv (d' := 8) (k' := 3) (n' := 18) (k2 := 0) (n2 := 0) 7 [_] dL_cupMonth_4 mt_L_80 mi_X6_cupMonth me_X6_cupMonth (by first | assumption | rfl) (by rfl) rfl rfl (of_decide_eq_true rfl) rfl (by decide) rfl rfl rfl rfl (C_X6_cupMonth R I  ?_)
  have te' : ∀ t, t < 10 ∨ 40 ≤ t → hp_te h h t := fun _ _ => hp_te.rf
  have R' := R
  have hb : (op_cupMonth S x).1 ≤ 3 := by
    unfold op_cupMonth
    repeat' split
    all_goals first | exact cm_3 _ _ _ _ | exact of_decide_eq_true rfl
  generalize op_cupMonth S x = o at hb hq ⊢
  obtain ⟨c9, v9⟩ := o
  rcases c9 with _ | c9
  · refine v_i2l 8 dL_cupMonth_7 rfl ?_
    refine v_last 9 dL_cupMonth_8 (by first | assumption | rfl) (by first | assumption | decide) (by rw [(te' 80 (by decide)).2.1, hl9]; exact in_nI (m := 0) (by decide) (by decide)) rfl ?_
    refine v_goto 21 dL_cupMonth_9 (by decide) ?_
    refine v_iconstv (v := 0) 22 dL_cupMonth_21 (by decide) rfl ?_
    refine v_ireturn dL_cupMonth_22 rfl ?_
    exact hq _ (R'.te (fun t ht => hp_te.l (by omega))) (fun t h1 h2 => (te' t h1).tr (hp_te.l h2)) (by show hp_ln h 80 0 = 1; rw [(te' 80 (by decide)).2.1]; exact hl9) (Nat.le_of_ble_eq_true rfl) (fun _ => hp_setl_at)
  rcases c9 with _ | c9
  · refine v_catch (E := "java/lang/IndexOutOfBoundsException") (j := 3) (hp := 12) (ln := 1) [] [(0, 9, 15, 23), (0, 9, 18, 58)] (0, 9, 12, 21) rfl (fun z hz => by cases hz) (by decide) (by decide) (by simp [g_ex]) cl_L_21 ca_E3 rfl (by decide) rfl (Or.inl ⟨3, rfl, dL_cupMonth_12, rfl⟩) ?_
    refine v_iconstv (v := 1) 14 dL_cupMonth_13 (by decide) rfl ?_
    refine v_ireturn dL_cupMonth_14 rfl ?_
    exact hq h R' (fun t h1 _ => te' t h1) (by rw [(te' 80 (by decide)).2.1]; exact hl9) (Nat.le_of_ble_eq_true rfl) (fun e => absurd e (Nat.succ_ne_zero _))
  rcases c9 with _ | c9
  · refine v_catch (E := "java/lang/UnsupportedOperationException") (j := 3) (hp := 15) (ln := 1) [(0, 9, 12, 21)] [(0, 9, 18, 58)] (0, 9, 15, 23) rfl (fun z hz => by
      rcases List.mem_cons.mp hz with rfl | hz
      · exact ⟨by decide, "java/lang/IndexOutOfBoundsException", by simp [g_ex], by decide, cl_L_21⟩
      cases hz) (by decide) (by decide) (by simp [g_ex]) cl_L_23 ca_E4 rfl (by decide) rfl (Or.inl ⟨3, rfl, dL_cupMonth_15, rfl⟩) ?_
    refine v_iconstv (v := 2) 17 dL_cupMonth_16 (by decide) rfl ?_
    refine v_ireturn dL_cupMonth_17 rfl ?_
    exact hq h R' (fun t h1 _ => te' t h1) (by rw [(te' 80 (by decide)).2.1]; exact hl9) (Nat.le_of_ble_eq_true rfl) (fun e => absurd e (Nat.succ_ne_zero _))
  rcases c9 with _ | c9
  · refine v_catch (E := "java/util/NoSuchElementException") (j := 3) (hp := 18) (ln := 1) [(0, 9, 12, 21), (0, 9, 15, 23)] [] (0, 9, 18, 58) rfl (fun z hz => by
      rcases List.mem_cons.mp hz with rfl | hz
      · exact ⟨by decide, "java/lang/IndexOutOfBoundsException", by simp [g_ex], by decide, cl_L_21⟩
      rcases List.mem_cons.mp hz with rfl | hz
      · exact ⟨by decide, "java/lang/UnsupportedOperationException", by simp [g_ex], by decide, cl_L_23⟩
      cases hz) (by decide) (by decide) (by simp [g_ex]) cl_L_58 ca_E5 rfl (by decide) rfl (Or.inl ⟨3, rfl, dL_cupMonth_18, rfl⟩) ?_
    refine v_iconstv (v := 3) 20 dL_cupMonth_19 (by decide) rfl ?_
    refine v_ireturn dL_cupMonth_20 rfl ?_
    exact hq h R' (fun t h1 _ => te' t h1) (by rw [(te' 80 (by decide)).2.1]; exact hl9) (Nat.le_of_ble_eq_true rfl) (fun e => absurd e (Nat.succ_ne_zero _))
  have hb : c9 + 4 ≤ 3 := hb
  omega
set_option maxRecDepth 20000 in
theorem C_L_scrape {G : GW} {h : PH} {Q : RS → PH → Prop} {S : SP} {N : Nat} (R : Rp1 S h) (I : Iv S N) {x a : Int32} (hl9 : hp_ln h 80 0 = 1) (hq : ∀ h', Rp1 (op_scrape S x a).2.2 h' → (∀ t, t < 10 ∨ 40 ≤ t → ¬ t = 80 → hp_te h h' t) → hp_ln h' 80 0 = 1 → (op_scrape S x a).1 ≤ 3 → ((op_scrape S x a).1 = 0 → hp_vl h' 80 0 0 = (op_scrape S x a).2.1.toInt64) → Q (.inl (some (pv_I (nI (op_scrape S x a).1)))) h') : VV G 8 2 12 yL_scrape cL_scrape 5 (some .int) [(0, 10, 13, 21), (0, 10, 17, 13), (0, 10, 21, 23)] 0 (vv_en 5 [pv_O (10, 0), pv_I x, pv_I a, pv_O (80, 0)]) [] h Q := by
  show VV G 8 2 12 yL_scrape cL_scrape 5 (some .int) [(0, 10, 13, 21), (0, 10, 17, 13), (0, 10, 21, 23)] 0 [some (pv_O (10, 0)), some (pv_I x), some (pv_I a), some (pv_O (80, 0)), none] [] h Q
  refine v_aload_n 1 dL_scrape_0 rfl rfl ?_
  refine v_iconstv (v := 0) 2 dL_scrape_1 (by decide) rfl ?_
  refine v_aload_n 3 dL_scrape_2 rfl rfl ?_
  refine v_iload_n 4 dL_scrape_3 rfl rfl ?_
  refine v_iload_n 5 dL_scrape_4 rfl rfl ?_
  refine v_invv (d' := 7) (k' := 2) (n' := 12) (k2 := 0) (n2 := 0) 8 [_, _] dL_scrape_5 mt_L_83 mi_X6_scrape me_X6_scrape (by first | assumption | rfl) (by rfl) rfl rfl (of_decide_eq_true rfl) rfl (by decide) rfl rfl rfl rfl (C_X6_scrape R I  (fun hf R' te' => ?_))
  have hb : (op_scrape S x a).1 ≤ 3 := by
    unfold op_scrape
    repeat' split
    all_goals first | exact Nat.zero_le _ | exact of_decide_eq_true rfl
  generalize op_scrape S x a = o at hb hq R' ⊢
  obtain ⟨c9, v9, S9⟩ := o
  rcases c9 with _ | c9
  · refine v_i2l 9 dL_scrape_8 rfl ?_
    refine v_last 10 dL_scrape_9 (by first | assumption | rfl) (by first | assumption | decide) (by rw [(te' 80 (by decide)).2.1, hl9]; exact in_nI (m := 0) (by decide) (by decide)) rfl ?_
    refine v_goto 25 dL_scrape_10 (by decide) ?_
    refine v_iconstv (v := 0) 26 dL_scrape_25 (by decide) rfl ?_
    refine v_ireturn dL_scrape_26 rfl ?_
    exact hq _ (R'.te (fun t ht => hp_te.l (by omega))) (fun t h1 h2 => (te' t h1).tr (hp_te.l h2)) (by show hp_ln hf 80 0 = 1; rw [(te' 80 (by decide)).2.1]; exact hl9) (Nat.le_of_ble_eq_true rfl) (fun _ => hp_setl_at)
  rcases c9 with _ | c9
  · refine v_catch (E := "java/lang/IndexOutOfBoundsException") (j := 4) (hp := 13) (ln := 2) [] [(0, 10, 17, 13), (0, 10, 21, 23)] (0, 10, 13, 21) rfl (fun z hz => by cases hz) (by decide) (by decide) (by simp [g_ex]) cl_L_21 ca_E3 rfl (by decide) rfl (Or.inr ⟨dL_scrape_13, rfl⟩) ?_
    refine v_iconstv (v := 1) 16 dL_scrape_15 (by decide) rfl ?_
    refine v_ireturn dL_scrape_16 rfl ?_
    exact hq hf R' (fun t h1 _ => te' t h1) (by rw [(te' 80 (by decide)).2.1]; exact hl9) (Nat.le_of_ble_eq_true rfl) (fun e => absurd e (Nat.succ_ne_zero _))
  rcases c9 with _ | c9
  · refine v_catch (E := "java/lang/IllegalArgumentException") (j := 4) (hp := 17) (ln := 2) [(0, 10, 13, 21)] [(0, 10, 21, 23)] (0, 10, 17, 13) rfl (fun z hz => by
      rcases List.mem_cons.mp hz with rfl | hz
      · exact ⟨by decide, "java/lang/IndexOutOfBoundsException", by simp [g_ex], by decide, cl_L_21⟩
      cases hz) (by decide) (by decide) (by simp [g_ex]) cl_L_13 ca_E1 rfl (by decide) rfl (Or.inr ⟨dL_scrape_17, rfl⟩) ?_
    refine v_iconstv (v := 2) 20 dL_scrape_19 (by decide) rfl ?_
    refine v_ireturn dL_scrape_20 rfl ?_
    exact hq hf R' (fun t h1 _ => te' t h1) (by rw [(te' 80 (by decide)).2.1]; exact hl9) (Nat.le_of_ble_eq_true rfl) (fun e => absurd e (Nat.succ_ne_zero _))
  rcases c9 with _ | c9
  · refine v_catch (E := "java/lang/UnsupportedOperationException") (j := 4) (hp := 21) (ln := 2) [(0, 10, 13, 21), (0, 10, 17, 13)] [] (0, 10, 21, 23) rfl (fun z hz => by
      rcases List.mem_cons.mp hz with rfl | hz
      · exact ⟨by decide, "java/lang/IndexOutOfBoundsException", by simp [g_ex], by decide, cl_L_21⟩
      rcases List.mem_cons.mp hz with rfl | hz
      · exact ⟨by decide, "java/lang/IllegalArgumentException", by simp [g_ex], by decide, cl_L_13⟩
      cases hz) (by decide) (by decide) (by simp [g_ex]) cl_L_23 ca_E4 rfl (by decide) rfl (Or.inr ⟨dL_scrape_21, rfl⟩) ?_
    refine v_iconstv (v := 3) 24 dL_scrape_23 (by decide) rfl ?_
    refine v_ireturn dL_scrape_24 rfl ?_
    exact hq hf R' (fun t h1 _ => te' t h1) (by rw [(te' 80 (by decide)).2.1]; exact hl9) (Nat.le_of_ble_eq_true rfl) (fun e => absurd e (Nat.succ_ne_zero _))
  have hb : c9 + 4 ≤ 3 := hb
  omega
set_option maxRecDepth 20000 in
theorem C_L_isThrough {G : GW} {h : PH} {Q : RS → PH → Prop} {S : SP} {N : Nat} (R : Rp1 S h) (I : Iv S N) {x : Int32} (hl9 : hp_ln h 80 0 = 1) (hq : ∀ h', Rp1 S h' → (∀ t, t < 10 ∨ 40 ≤ t → ¬ t = 80 → hp_te h h' t) → hp_ln h' 80 0 = 1 → (op_isThrough S x).1 ≤ 3 → ((op_isThrough S x).1 = 0 → hp_vl h' 80 0 0 = (if (op_isThrough S x).2 = 0 then 0 else 1)) → Q (.inl (some (pv_I (nI (op_isThrough S x).1)))) h') : VV G 8 1 6 yL_isThrough cL_isThrough 4 (some .int) [(0, 16, 19, 21)] 0 (vv_en 4 [pv_O (10, 0), pv_I x, pv_O (80, 0)]) [] h Q := by
  show VV G 8 1 6 yL_isThrough cL_isThrough 4 (some .int) [(0, 16, 19, 21)] 0 [some (pv_O (10, 0)), some (pv_I x), some (pv_O (80, 0)), none] [] h Q
  refine v_aload_n 1 dL_isThrough_0 rfl rfl ?_
  refine v_iconstv (v := 0) 2 dL_isThrough_1 (by decide) rfl ?_
  refine v_aload_n 3 dL_isThrough_2 rfl rfl ?_
  refine v_iload_n 4 dL_isThrough_3 rfl rfl ?_
  refine v_invv (d' := 7) (k' := 1) (n' := 6) (k2 := 0) (n2 := 0) 7 [_] dL_isThrough_4 mt_L_86 mi_X6_isThrough me_X6_isThrough (by first | assumption | rfl) (by rfl) rfl rfl (of_decide_eq_true rfl) rfl (by decide) rfl rfl rfl rfl (C_X6_isThrough R I  ?_)
  have te' : ∀ t, t < 10 ∨ 40 ≤ t → hp_te h h t := fun _ _ => hp_te.rf
  have R' := R
  have hb : (op_isThrough S x).1 ≤ 1 := by
    unfold op_isThrough
    repeat' split
    all_goals first | exact Nat.zero_le _ | exact of_decide_eq_true rfl
  generalize op_isThrough S x = o at hb hq ⊢
  obtain ⟨c9, v9⟩ := o
  rcases c9 with _ | c9
  · refine v_if_eq 14 10 dL_isThrough_7 (by decide) rfl (fun c7 => ?_) (fun c7 => ?_)
    · refine v_lconst (v := 0) 15 dL_isThrough_14 (by decide) rfl ?_
      refine v_last 16 dL_isThrough_15 (by first | assumption | rfl) (by first | assumption | decide) (by rw [(te' 80 (by decide)).2.1, hl9]; exact in_nI (m := 0) (by decide) (by decide)) rfl ?_
      refine v_goto 22 dL_isThrough_16 (by decide) ?_
      refine v_iconstv (v := 0) 23 dL_isThrough_22 (by decide) rfl ?_
      refine v_ireturn dL_isThrough_23 rfl ?_
      exact hq _ (R'.te (fun t ht => hp_te.l (by omega))) (fun t h1 h2 => (te' t h1).tr (hp_te.l h2)) (by show hp_ln h 80 0 = 1; rw [(te' 80 (by decide)).2.1]; exact hl9) (Nat.le_of_ble_eq_true rfl) (fun _ => (hp_setl_at.trans (by first | exact (if_pos c7).symm | exact (if_neg c7).symm)))
    · refine v_lconst (v := 1) 11 dL_isThrough_10 (by decide) rfl ?_
      refine v_goto 15 dL_isThrough_11 (by decide) ?_
      refine v_last 16 dL_isThrough_15 (by first | assumption | rfl) (by first | assumption | decide) (by rw [(te' 80 (by decide)).2.1, hl9]; exact in_nI (m := 0) (by decide) (by decide)) rfl ?_
      refine v_goto 22 dL_isThrough_16 (by decide) ?_
      refine v_iconstv (v := 0) 23 dL_isThrough_22 (by decide) rfl ?_
      refine v_ireturn dL_isThrough_23 rfl ?_
      exact hq _ (R'.te (fun t ht => hp_te.l (by omega))) (fun t h1 h2 => (te' t h1).tr (hp_te.l h2)) (by show hp_ln h 80 0 = 1; rw [(te' 80 (by decide)).2.1]; exact hl9) (Nat.le_of_ble_eq_true rfl) (fun _ => (hp_setl_at.trans (by first | exact (if_pos c7).symm | exact (if_neg c7).symm)))
  rcases c9 with _ | c9
  · refine v_catch (E := "java/lang/IndexOutOfBoundsException") (j := 3) (hp := 19) (ln := 1) [] [] (0, 16, 19, 21) rfl (fun z hz => by cases hz) (by decide) (by decide) (by simp [g_ex]) cl_L_21 ca_E3 rfl (by decide) rfl (Or.inl ⟨3, rfl, dL_isThrough_19, rfl⟩) ?_
    refine v_iconstv (v := 1) 21 dL_isThrough_20 (by decide) rfl ?_
    refine v_ireturn dL_isThrough_21 rfl ?_
    exact hq h R' (fun t h1 _ => te' t h1) (by rw [(te' 80 (by decide)).2.1]; exact hl9) (Nat.le_of_ble_eq_true rfl) (fun e => absurd e (Nat.succ_ne_zero _))
  have hb : c9 + 2 ≤ 1 := hb
  omega
set_option maxRecDepth 20000 in
theorem C_L_pad {G : GW} {h : PH} {Q : RS → PH → Prop} {S : SP} {N : Nat} (R : Rp1 S h) (I : Iv S N) {x a : Int32} (hl9 : hp_ln h 80 0 = 1) (hq : ∀ h', Rp1 (op_pad S x a).2.2 h' → (∀ t, t < 10 ∨ 40 ≤ t → ¬ t = 80 → hp_te h h' t) → hp_ln h' 80 0 = 1 → (op_pad S x a).1 ≤ 3 → ((op_pad S x a).1 = 0 → hp_vl h' 80 0 0 = (op_pad S x a).2.1.toInt64) → Q (.inl (some (pv_I (nI (op_pad S x a).1)))) h') : VV G 8 2 12 yL_pad cL_pad 5 (some .int) [(0, 10, 13, 21), (0, 10, 17, 13), (0, 10, 21, 23)] 0 (vv_en 5 [pv_O (10, 0), pv_I x, pv_I a, pv_O (80, 0)]) [] h Q := by
  show VV G 8 2 12 yL_pad cL_pad 5 (some .int) [(0, 10, 13, 21), (0, 10, 17, 13), (0, 10, 21, 23)] 0 [some (pv_O (10, 0)), some (pv_I x), some (pv_I a), some (pv_O (80, 0)), none] [] h Q
  refine v_aload_n 1 dL_pad_0 rfl rfl ?_
  refine v_iconstv (v := 0) 2 dL_pad_1 (by decide) rfl ?_
  refine v_aload_n 3 dL_pad_2 rfl rfl ?_
  refine v_iload_n 4 dL_pad_3 rfl rfl ?_
  refine v_iload_n 5 dL_pad_4 rfl rfl ?_
  refine v_invv (d' := 7) (k' := 2) (n' := 12) (k2 := 0) (n2 := 0) 8 [_, _] dL_pad_5 mt_L_89 mi_X6_pad me_X6_pad (by first | assumption | rfl) (by rfl) rfl rfl (of_decide_eq_true rfl) rfl (by decide) rfl rfl rfl rfl (C_X6_pad R I  (fun hf R' te' => ?_))
  have hb : (op_pad S x a).1 ≤ 3 := by
    unfold op_pad
    repeat' split
    all_goals first | exact Nat.zero_le _ | exact of_decide_eq_true rfl
  generalize op_pad S x a = o at hb hq R' ⊢
  obtain ⟨c9, v9, S9⟩ := o
  rcases c9 with _ | c9
  · refine v_i2l 9 dL_pad_8 rfl ?_
    refine v_last 10 dL_pad_9 (by first | assumption | rfl) (by first | assumption | decide) (by rw [(te' 80 (by decide)).2.1, hl9]; exact in_nI (m := 0) (by decide) (by decide)) rfl ?_
    refine v_goto 25 dL_pad_10 (by decide) ?_
    refine v_iconstv (v := 0) 26 dL_pad_25 (by decide) rfl ?_
    refine v_ireturn dL_pad_26 rfl ?_
    exact hq _ (R'.te (fun t ht => hp_te.l (by omega))) (fun t h1 h2 => (te' t h1).tr (hp_te.l h2)) (by show hp_ln hf 80 0 = 1; rw [(te' 80 (by decide)).2.1]; exact hl9) (Nat.le_of_ble_eq_true rfl) (fun _ => hp_setl_at)
  rcases c9 with _ | c9
  · refine v_catch (E := "java/lang/IndexOutOfBoundsException") (j := 4) (hp := 13) (ln := 2) [] [(0, 10, 17, 13), (0, 10, 21, 23)] (0, 10, 13, 21) rfl (fun z hz => by cases hz) (by decide) (by decide) (by simp [g_ex]) cl_L_21 ca_E3 rfl (by decide) rfl (Or.inr ⟨dL_pad_13, rfl⟩) ?_
    refine v_iconstv (v := 1) 16 dL_pad_15 (by decide) rfl ?_
    refine v_ireturn dL_pad_16 rfl ?_
    exact hq hf R' (fun t h1 _ => te' t h1) (by rw [(te' 80 (by decide)).2.1]; exact hl9) (Nat.le_of_ble_eq_true rfl) (fun e => absurd e (Nat.succ_ne_zero _))
  rcases c9 with _ | c9
  · refine v_catch (E := "java/lang/IllegalArgumentException") (j := 4) (hp := 17) (ln := 2) [(0, 10, 13, 21)] [(0, 10, 21, 23)] (0, 10, 17, 13) rfl (fun z hz => by
      rcases List.mem_cons.mp hz with rfl | hz
      · exact ⟨by decide, "java/lang/IndexOutOfBoundsException", by simp [g_ex], by decide, cl_L_21⟩
      cases hz) (by decide) (by decide) (by simp [g_ex]) cl_L_13 ca_E1 rfl (by decide) rfl (Or.inr ⟨dL_pad_17, rfl⟩) ?_
    refine v_iconstv (v := 2) 20 dL_pad_19 (by decide) rfl ?_
    refine v_ireturn dL_pad_20 rfl ?_
    exact hq hf R' (fun t h1 _ => te' t h1) (by rw [(te' 80 (by decide)).2.1]; exact hl9) (Nat.le_of_ble_eq_true rfl) (fun e => absurd e (Nat.succ_ne_zero _))
  rcases c9 with _ | c9
  · refine v_catch (E := "java/lang/UnsupportedOperationException") (j := 4) (hp := 21) (ln := 2) [(0, 10, 13, 21), (0, 10, 17, 13)] [] (0, 10, 21, 23) rfl (fun z hz => by
      rcases List.mem_cons.mp hz with rfl | hz
      · exact ⟨by decide, "java/lang/IndexOutOfBoundsException", by simp [g_ex], by decide, cl_L_21⟩
      rcases List.mem_cons.mp hz with rfl | hz
      · exact ⟨by decide, "java/lang/IllegalArgumentException", by simp [g_ex], by decide, cl_L_13⟩
      cases hz) (by decide) (by decide) (by simp [g_ex]) cl_L_23 ca_E4 rfl (by decide) rfl (Or.inr ⟨dL_pad_21, rfl⟩) ?_
    refine v_iconstv (v := 3) 24 dL_pad_23 (by decide) rfl ?_
    refine v_ireturn dL_pad_24 rfl ?_
    exact hq hf R' (fun t h1 _ => te' t h1) (by rw [(te' 80 (by decide)).2.1]; exact hl9) (Nat.le_of_ble_eq_true rfl) (fun e => absurd e (Nat.succ_ne_zero _))
  have hb : c9 + 4 ≤ 3 := hb
  omega
set_option maxRecDepth 20000 in
theorem C_L_ghosts {G : GW} {h : PH} {Q : RS → PH → Prop} {S : SP} {N : Nat} (R : Rp1 S h) (I : Iv S N) {x : Int32} (hl9 : hp_ln h 80 0 = 1) (hq : ∀ h', Rp1 S h' → (∀ t, t < 10 ∨ 40 ≤ t → ¬ t = 80 → hp_te h h' t) → hp_ln h' 80 0 = 1 → (op_ghosts S x).1 ≤ 3 → ((op_ghosts S x).1 = 0 → hp_vl h' 80 0 0 = (op_ghosts S x).2.toInt64) → Q (.inl (some (pv_I (nI (op_ghosts S x).1)))) h') : VV G 8 1 6 yL_ghosts cL_ghosts 4 (some .int) [(0, 9, 12, 21)] 0 (vv_en 4 [pv_O (10, 0), pv_I x, pv_O (80, 0)]) [] h Q := by
  show VV G 8 1 6 yL_ghosts cL_ghosts 4 (some .int) [(0, 9, 12, 21)] 0 [some (pv_O (10, 0)), some (pv_I x), some (pv_O (80, 0)), none] [] h Q
  refine v_aload_n 1 dL_ghosts_0 rfl rfl ?_
  refine v_iconstv (v := 0) 2 dL_ghosts_1 (by decide) rfl ?_
  refine v_aload_n 3 dL_ghosts_2 rfl rfl ?_
  refine v_iload_n 4 dL_ghosts_3 rfl rfl ?_
  refine v_invv (d' := 7) (k' := 1) (n' := 6) (k2 := 0) (n2 := 0) 7 [_] dL_ghosts_4 mt_L_92 mi_X6_ghosts me_X6_ghosts (by first | assumption | rfl) (by rfl) rfl rfl (of_decide_eq_true rfl) rfl (by decide) rfl rfl rfl rfl (C_X6_ghosts R I  ?_)
  have te' : ∀ t, t < 10 ∨ 40 ≤ t → hp_te h h t := fun _ _ => hp_te.rf
  have R' := R
  have hb : (op_ghosts S x).1 ≤ 1 := by
    unfold op_ghosts
    repeat' split
    all_goals first | exact Nat.zero_le _ | exact of_decide_eq_true rfl
  generalize op_ghosts S x = o at hb hq ⊢
  obtain ⟨c9, v9⟩ := o
  rcases c9 with _ | c9
  · refine v_i2l 8 dL_ghosts_7 rfl ?_
    refine v_last 9 dL_ghosts_8 (by first | assumption | rfl) (by first | assumption | decide) (by rw [(te' 80 (by decide)).2.1, hl9]; exact in_nI (m := 0) (by decide) (by decide)) rfl ?_
    refine v_goto 15 dL_ghosts_9 (by decide) ?_
    refine v_iconstv (v := 0) 16 dL_ghosts_15 (by decide) rfl ?_
    refine v_ireturn dL_ghosts_16 rfl ?_
    exact hq _ (R'.te (fun t ht => hp_te.l (by omega))) (fun t h1 h2 => (te' t h1).tr (hp_te.l h2)) (by show hp_ln h 80 0 = 1; rw [(te' 80 (by decide)).2.1]; exact hl9) (Nat.le_of_ble_eq_true rfl) (fun _ => hp_setl_at)
  rcases c9 with _ | c9
  · refine v_catch (E := "java/lang/IndexOutOfBoundsException") (j := 3) (hp := 12) (ln := 1) [] [] (0, 9, 12, 21) rfl (fun z hz => by cases hz) (by decide) (by decide) (by simp [g_ex]) cl_L_21 ca_E3 rfl (by decide) rfl (Or.inl ⟨3, rfl, dL_ghosts_12, rfl⟩) ?_
    refine v_iconstv (v := 1) 14 dL_ghosts_13 (by decide) rfl ?_
    refine v_ireturn dL_ghosts_14 rfl ?_
    exact hq h R' (fun t h1 _ => te' t h1) (by rw [(te' 80 (by decide)).2.1]; exact hl9) (Nat.le_of_ble_eq_true rfl) (fun e => absurd e (Nat.succ_ne_zero _))
  have hb : c9 + 2 ≤ 1 := hb
  omega
set_option maxRecDepth 20000 in
theorem C_L_picture {G : GW} {h : PH} {Q : RS → PH → Prop} {S : SP} {N : Nat} (R : Rp1 S h) (I : Iv S N) (hl9 : hp_ln h 80 0 = 1) (hq : ∀ h', Rp1 (op_picture S).2.2 h' → (∀ t, t < 10 ∨ 40 ≤ t → ¬ t = 80 → hp_te h h' t) → hp_ln h' 80 0 = 1 → (op_picture S).1 ≤ 3 → ((op_picture S).1 = 0 → hp_vl h' 80 0 0 = (op_picture S).2.1.toInt64) → Q (.inl (some (pv_I (nI (op_picture S).1)))) h') : VV G 9 8 260 yL_picture cL_picture 3 (some .int) [(0, 8, 11, 15)] 0 (vv_en 3 [pv_O (10, 0), pv_O (80, 0)]) [] h Q := by
  show VV G 9 8 260 yL_picture cL_picture 3 (some .int) [(0, 8, 11, 15)] 0 [some (pv_O (10, 0)), some (pv_O (80, 0)), none] [] h Q
  refine v_aload_n 1 dL_picture_0 rfl rfl ?_
  refine v_iconstv (v := 0) 2 dL_picture_1 (by decide) rfl ?_
  refine v_aload_n 3 dL_picture_2 rfl rfl ?_
  refine v_invv (d' := 8) (k' := 8) (n' := 260) (k2 := 0) (n2 := 0) 6 [] dL_picture_3 mt_L_95 mi_X6_picture me_X6_picture (by first | assumption | rfl) (by rfl) rfl rfl (of_decide_eq_true rfl) rfl (by decide) rfl rfl rfl rfl (C_X6_picture R I  (fun hf R' te' => ?_))
  have hb : (op_picture S).1 ≤ 1 := by
    unfold op_picture
    repeat' split
    all_goals first | exact Nat.zero_le _ | exact of_decide_eq_true rfl
  generalize op_picture S = o at hb hq R' ⊢
  obtain ⟨c9, v9, S9⟩ := o
  rcases c9 with _ | c9
  · refine v_i2l 7 dL_picture_6 rfl ?_
    refine v_last 8 dL_picture_7 (by first | assumption | rfl) (by first | assumption | decide) (by rw [(te' 80 (by decide)).2.1, hl9]; exact in_nI (m := 0) (by decide) (by decide)) rfl ?_
    refine v_goto 14 dL_picture_8 (by decide) ?_
    refine v_iconstv (v := 0) 15 dL_picture_14 (by decide) rfl ?_
    refine v_ireturn dL_picture_15 rfl ?_
    exact hq _ (R'.te (fun t ht => hp_te.l (by omega))) (fun t h1 h2 => (te' t h1).tr (hp_te.l h2)) (by show hp_ln hf 80 0 = 1; rw [(te' 80 (by decide)).2.1]; exact hl9) (Nat.le_of_ble_eq_true rfl) (fun _ => hp_setl_at)
  rcases c9 with _ | c9
  · refine v_catch (E := "java/lang/IllegalStateException") (j := 2) (hp := 11) (ln := 1) [] [] (0, 8, 11, 15) rfl (fun z hz => by cases hz) (by decide) (by decide) (by simp [g_ex]) cl_L_15 ca_E2 rfl (by decide) rfl (Or.inl ⟨2, rfl, dL_picture_11, rfl⟩) ?_
    refine v_iconstv (v := 1) 13 dL_picture_12 (by decide) rfl ?_
    refine v_ireturn dL_picture_13 rfl ?_
    exact hq hf R' (fun t h1 _ => te' t h1) (by rw [(te' 80 (by decide)).2.1]; exact hl9) (Nat.le_of_ble_eq_true rfl) (fun e => absurd e (Nat.succ_ne_zero _))
  have hb : c9 + 2 ≤ 1 := hb
  omega
set_option maxRecDepth 20000 in
theorem C_L_draw {G : GW} {h : PH} {Q : RS → PH → Prop} {S : SP} {N : Nat} (R : Rp1 S h) (I : Iv S N) {x a b m c : Int32} {pp ii : Nat} (hpc : pc_ (pt_ (hp_vi S.1 63 (cl_ x)) (cl_ (a * 8 + b)) (cl_ m) (c - 97)) pp ii) (hl9 : hp_ln h 80 0 = 1) (hq : ∀ h', Rp1 (op_draw S x a b m c pp ii).2.2 h' → (∀ t, t < 10 ∨ 40 ≤ t → ¬ t = 80 → hp_te h h' t) → hp_ln h' 80 0 = 1 → (op_draw S x a b m c pp ii).1 ≤ 3 → ((op_draw S x a b m c pp ii).1 = 0 → hp_vl h' 80 0 0 = (op_draw S x a b m c pp ii).2.1.toInt64) → Q (.inl (some (pv_I (nI (op_draw S x a b m c pp ii).1)))) h') : VV G 8 2 12 yL_draw cL_draw 8 (some .int) [(0, 16, 19, 21), (0, 16, 23, 13), (0, 16, 27, 23)] 0 (vv_en 8 [pv_O (10, 0), pv_I x, pv_I a, pv_I b, pv_I m, pv_I c, pv_O (80, 0)]) [] h Q := by
  show VV G 8 2 12 yL_draw cL_draw 8 (some .int) [(0, 16, 19, 21), (0, 16, 23, 13), (0, 16, 27, 23)] 0 [some (pv_O (10, 0)), some (pv_I x), some (pv_I a), some (pv_I b), some (pv_I m), some (pv_I c), some (pv_O (80, 0)), none] [] h Q
  refine v_aload 2 dL_draw_0 rfl rfl ?_
  refine v_iconstv (v := 0) 3 dL_draw_2 (by decide) rfl ?_
  refine v_aload_n 4 dL_draw_3 rfl rfl ?_
  refine v_iload_n 5 dL_draw_4 rfl rfl ?_
  refine v_iload_n 6 dL_draw_5 rfl rfl ?_
  refine v_iload_n 7 dL_draw_6 rfl rfl ?_
  refine v_iload 9 dL_draw_7 rfl rfl ?_
  refine v_iload 11 dL_draw_9 rfl rfl ?_
  refine v_invv (d' := 7) (k' := 2) (n' := 12) (k2 := 0) (n2 := 0) 14 [_, _, _, _, _] dL_draw_11 mt_L_99 mi_X6_draw me_X6_draw (by first | assumption | rfl) (by rfl) rfl rfl (of_decide_eq_true rfl) rfl (by decide) rfl rfl rfl rfl (C_X6_draw R I hpc (fun hf R' te' => ?_))
  have hb : (op_draw S x a b m c pp ii).1 ≤ 3 := by
    unfold op_draw
    repeat' split
    all_goals first | exact Nat.zero_le _ | exact of_decide_eq_true rfl
  generalize op_draw S x a b m c pp ii = o at hb hq R' ⊢
  obtain ⟨c9, v9, S9⟩ := o
  rcases c9 with _ | c9
  · refine v_i2l 15 dL_draw_14 rfl ?_
    refine v_last 16 dL_draw_15 (by first | assumption | rfl) (by first | assumption | decide) (by rw [(te' 80 (by decide)).2.1, hl9]; exact in_nI (m := 0) (by decide) (by decide)) rfl ?_
    refine v_goto 31 dL_draw_16 (by decide) ?_
    refine v_iconstv (v := 0) 32 dL_draw_31 (by decide) rfl ?_
    refine v_ireturn dL_draw_32 rfl ?_
    exact hq _ (R'.te (fun t ht => hp_te.l (by omega))) (fun t h1 h2 => (te' t h1).tr (hp_te.l h2)) (by show hp_ln hf 80 0 = 1; rw [(te' 80 (by decide)).2.1]; exact hl9) (Nat.le_of_ble_eq_true rfl) (fun _ => hp_setl_at)
  rcases c9 with _ | c9
  · refine v_catch (E := "java/lang/IndexOutOfBoundsException") (j := 7) (hp := 19) (ln := 2) [] [(0, 16, 23, 13), (0, 16, 27, 23)] (0, 16, 19, 21) rfl (fun z hz => by cases hz) (by decide) (by decide) (by simp [g_ex]) cl_L_21 ca_E3 rfl (by decide) rfl (Or.inr ⟨dL_draw_19, rfl⟩) ?_
    refine v_iconstv (v := 1) 22 dL_draw_21 (by decide) rfl ?_
    refine v_ireturn dL_draw_22 rfl ?_
    exact hq hf R' (fun t h1 _ => te' t h1) (by rw [(te' 80 (by decide)).2.1]; exact hl9) (Nat.le_of_ble_eq_true rfl) (fun e => absurd e (Nat.succ_ne_zero _))
  rcases c9 with _ | c9
  · refine v_catch (E := "java/lang/IllegalArgumentException") (j := 7) (hp := 23) (ln := 2) [(0, 16, 19, 21)] [(0, 16, 27, 23)] (0, 16, 23, 13) rfl (fun z hz => by
      rcases List.mem_cons.mp hz with rfl | hz
      · exact ⟨by decide, "java/lang/IndexOutOfBoundsException", by simp [g_ex], by decide, cl_L_21⟩
      cases hz) (by decide) (by decide) (by simp [g_ex]) cl_L_13 ca_E1 rfl (by decide) rfl (Or.inr ⟨dL_draw_23, rfl⟩) ?_
    refine v_iconstv (v := 2) 26 dL_draw_25 (by decide) rfl ?_
    refine v_ireturn dL_draw_26 rfl ?_
    exact hq hf R' (fun t h1 _ => te' t h1) (by rw [(te' 80 (by decide)).2.1]; exact hl9) (Nat.le_of_ble_eq_true rfl) (fun e => absurd e (Nat.succ_ne_zero _))
  rcases c9 with _ | c9
  · refine v_catch (E := "java/lang/UnsupportedOperationException") (j := 7) (hp := 27) (ln := 2) [(0, 16, 19, 21), (0, 16, 23, 13)] [] (0, 16, 27, 23) rfl (fun z hz => by
      rcases List.mem_cons.mp hz with rfl | hz
      · exact ⟨by decide, "java/lang/IndexOutOfBoundsException", by simp [g_ex], by decide, cl_L_21⟩
      rcases List.mem_cons.mp hz with rfl | hz
      · exact ⟨by decide, "java/lang/IllegalArgumentException", by simp [g_ex], by decide, cl_L_13⟩
      cases hz) (by decide) (by decide) (by simp [g_ex]) cl_L_23 ca_E4 rfl (by decide) rfl (Or.inr ⟨dL_draw_27, rfl⟩) ?_
    refine v_iconstv (v := 3) 30 dL_draw_29 (by decide) rfl ?_
    refine v_ireturn dL_draw_30 rfl ?_
    exact hq hf R' (fun t h1 _ => te' t h1) (by rw [(te' 80 (by decide)).2.1]; exact hl9) (Nat.le_of_ble_eq_true rfl) (fun e => absurd e (Nat.succ_ne_zero _))
  have hb : c9 + 4 ≤ 3 := hb
  omega
set_option maxRecDepth 20000 in
theorem C_L_fieldAt {G : GW} {h : PH} {Q : RS → PH → Prop} {S : SP} {N : Nat} (R : Rp1 S h) (I : Iv S N) {x a b : Int32} (hl9 : hp_ln h 80 0 = 1) (hq : ∀ h', Rp1 S h' → (∀ t, t < 10 ∨ 40 ≤ t → ¬ t = 80 → hp_te h h' t) → hp_ln h' 80 0 = 1 → (op_fieldAt S x a b).1 ≤ 3 → ((op_fieldAt S x a b).1 = 0 → hp_vl h' 80 0 0 = (op_fieldAt S x a b).2.toInt64) → Q (.inl (some (pv_I (nI (op_fieldAt S x a b).1)))) h') : VV G 9 2 12 yL_fieldAt cL_fieldAt 6 (some .int) [(0, 12, 15, 21)] 0 (vv_en 6 [pv_O (10, 0), pv_I x, pv_I a, pv_I b, pv_O (80, 0)]) [] h Q := by
  show VV G 9 2 12 yL_fieldAt cL_fieldAt 6 (some .int) [(0, 12, 15, 21)] 0 [some (pv_O (10, 0)), some (pv_I x), some (pv_I a), some (pv_I b), some (pv_O (80, 0)), none] [] h Q
  refine v_aload 2 dL_fieldAt_0 rfl rfl ?_
  refine v_iconstv (v := 0) 3 dL_fieldAt_2 (by decide) rfl ?_
  refine v_aload_n 4 dL_fieldAt_3 rfl rfl ?_
  refine v_iload_n 5 dL_fieldAt_4 rfl rfl ?_
  refine v_iload_n 6 dL_fieldAt_5 rfl rfl ?_
  refine v_iload_n 7 dL_fieldAt_6 rfl rfl ?_
  refine v_invv (d' := 8) (k' := 2) (n' := 12) (k2 := 0) (n2 := 0) 10 [_, _, _] dL_fieldAt_7 mt_L_102 mi_X6_fieldAt me_X6_fieldAt (by first | assumption | rfl) (by rfl) rfl rfl (of_decide_eq_true rfl) rfl (by decide) rfl rfl rfl rfl (C_X6_fieldAt R I  ?_)
  have te' : ∀ t, t < 10 ∨ 40 ≤ t → hp_te h h t := fun _ _ => hp_te.rf
  have R' := R
  have hb : (op_fieldAt S x a b).1 ≤ 1 := by
    unfold op_fieldAt
    repeat' split
    all_goals first | exact Nat.zero_le _ | exact of_decide_eq_true rfl
  generalize op_fieldAt S x a b = o at hb hq ⊢
  obtain ⟨c9, v9⟩ := o
  rcases c9 with _ | c9
  · refine v_i2l 11 dL_fieldAt_10 rfl ?_
    refine v_last 12 dL_fieldAt_11 (by first | assumption | rfl) (by first | assumption | decide) (by rw [(te' 80 (by decide)).2.1, hl9]; exact in_nI (m := 0) (by decide) (by decide)) rfl ?_
    refine v_goto 19 dL_fieldAt_12 (by decide) ?_
    refine v_iconstv (v := 0) 20 dL_fieldAt_19 (by decide) rfl ?_
    refine v_ireturn dL_fieldAt_20 rfl ?_
    exact hq _ (R'.te (fun t ht => hp_te.l (by omega))) (fun t h1 h2 => (te' t h1).tr (hp_te.l h2)) (by show hp_ln h 80 0 = 1; rw [(te' 80 (by decide)).2.1]; exact hl9) (Nat.le_of_ble_eq_true rfl) (fun _ => hp_setl_at)
  rcases c9 with _ | c9
  · refine v_catch (E := "java/lang/IndexOutOfBoundsException") (j := 5) (hp := 15) (ln := 2) [] [] (0, 12, 15, 21) rfl (fun z hz => by cases hz) (by decide) (by decide) (by simp [g_ex]) cl_L_21 ca_E3 rfl (by decide) rfl (Or.inr ⟨dL_fieldAt_15, rfl⟩) ?_
    refine v_iconstv (v := 1) 18 dL_fieldAt_17 (by decide) rfl ?_
    refine v_ireturn dL_fieldAt_18 rfl ?_
    exact hq h R' (fun t h1 _ => te' t h1) (by rw [(te' 80 (by decide)).2.1]; exact hl9) (Nat.le_of_ble_eq_true rfl) (fun e => absurd e (Nat.succ_ne_zero _))
  have hb : c9 + 2 ≤ 1 := hb
  omega
set_option maxRecDepth 20000 in
theorem C_L_pieces {G : GW} {h : PH} {Q : RS → PH → Prop} {S : SP} {N : Nat} (R : Rp1 S h) (I : Iv S N) {x : Int32} (hl9 : hp_ln h 80 0 = 1) (hq : ∀ h', Rp1 S h' → (∀ t, t < 10 ∨ 40 ≤ t → ¬ t = 80 → hp_te h h' t) → hp_ln h' 80 0 = 1 → (op_pieces S x).1 ≤ 3 → ((op_pieces S x).1 = 0 → hp_vl h' 80 0 0 = (op_pieces S x).2.toInt64) → Q (.inl (some (pv_I (nI (op_pieces S x).1)))) h') : VV G 8 1 6 yL_pieces cL_pieces 4 (some .int) [(0, 9, 12, 21)] 0 (vv_en 4 [pv_O (10, 0), pv_I x, pv_O (80, 0)]) [] h Q := by
  show VV G 8 1 6 yL_pieces cL_pieces 4 (some .int) [(0, 9, 12, 21)] 0 [some (pv_O (10, 0)), some (pv_I x), some (pv_O (80, 0)), none] [] h Q
  refine v_aload_n 1 dL_pieces_0 rfl rfl ?_
  refine v_iconstv (v := 0) 2 dL_pieces_1 (by decide) rfl ?_
  refine v_aload_n 3 dL_pieces_2 rfl rfl ?_
  refine v_iload_n 4 dL_pieces_3 rfl rfl ?_
  refine v_invv (d' := 7) (k' := 1) (n' := 6) (k2 := 0) (n2 := 0) 7 [_] dL_pieces_4 mt_L_106 mi_X6_pieces me_X6_pieces (by first | assumption | rfl) (by rfl) rfl rfl (of_decide_eq_true rfl) rfl (by decide) rfl rfl rfl rfl (C_X6_pieces R I  ?_)
  have te' : ∀ t, t < 10 ∨ 40 ≤ t → hp_te h h t := fun _ _ => hp_te.rf
  have R' := R
  have hb : (op_pieces S x).1 ≤ 1 := by
    unfold op_pieces
    repeat' split
    all_goals first | exact Nat.zero_le _ | exact of_decide_eq_true rfl
  generalize op_pieces S x = o at hb hq ⊢
  obtain ⟨c9, v9⟩ := o
  rcases c9 with _ | c9
  · refine v_i2l 8 dL_pieces_7 rfl ?_
    refine v_last 9 dL_pieces_8 (by first | assumption | rfl) (by first | assumption | decide) (by rw [(te' 80 (by decide)).2.1, hl9]; exact in_nI (m := 0) (by decide) (by decide)) rfl ?_
    refine v_goto 15 dL_pieces_9 (by decide) ?_
    refine v_iconstv (v := 0) 16 dL_pieces_15 (by decide) rfl ?_
    refine v_ireturn dL_pieces_16 rfl ?_
    exact hq _ (R'.te (fun t ht => hp_te.l (by omega))) (fun t h1 h2 => (te' t h1).tr (hp_te.l h2)) (by show hp_ln h 80 0 = 1; rw [(te' 80 (by decide)).2.1]; exact hl9) (Nat.le_of_ble_eq_true rfl) (fun _ => hp_setl_at)
  rcases c9 with _ | c9
  · refine v_catch (E := "java/lang/IndexOutOfBoundsException") (j := 3) (hp := 12) (ln := 1) [] [] (0, 9, 12, 21) rfl (fun z hz => by cases hz) (by decide) (by decide) (by simp [g_ex]) cl_L_21 ca_E3 rfl (by decide) rfl (Or.inl ⟨3, rfl, dL_pieces_12, rfl⟩) ?_
    refine v_iconstv (v := 1) 14 dL_pieces_13 (by decide) rfl ?_
    refine v_ireturn dL_pieces_14 rfl ?_
    exact hq h R' (fun t h1 _ => te' t h1) (by rw [(te' 80 (by decide)).2.1]; exact hl9) (Nat.le_of_ble_eq_true rfl) (fun e => absurd e (Nat.succ_ne_zero _))
  have hb : c9 + 2 ≤ 1 := hb
  omega
set_option maxRecDepth 20000 in
theorem C_L_islands {G : GW} {h : PH} {Q : RS → PH → Prop} {S : SP} {N : Nat} (R : Rp1 S h) (I : Iv S N) {x : Int32} (hl9 : hp_ln h 80 0 = 1) (hq : ∀ h', Rp1 S h' → (∀ t, t < 10 ∨ 40 ≤ t → ¬ t = 80 → hp_te h h' t) → hp_ln h' 80 0 = 1 → (op_islands S x).1 ≤ 3 → ((op_islands S x).1 = 0 → hp_vl h' 80 0 0 = (op_islands S x).2.toInt64) → Q (.inl (some (pv_I (nI (op_islands S x).1)))) h') : VV G 8 1 6 yL_islands cL_islands 4 (some .int) [(0, 9, 12, 21)] 0 (vv_en 4 [pv_O (10, 0), pv_I x, pv_O (80, 0)]) [] h Q := by
  show VV G 8 1 6 yL_islands cL_islands 4 (some .int) [(0, 9, 12, 21)] 0 [some (pv_O (10, 0)), some (pv_I x), some (pv_O (80, 0)), none] [] h Q
  refine v_aload_n 1 dL_islands_0 rfl rfl ?_
  refine v_iconstv (v := 0) 2 dL_islands_1 (by decide) rfl ?_
  refine v_aload_n 3 dL_islands_2 rfl rfl ?_
  refine v_iload_n 4 dL_islands_3 rfl rfl ?_
  refine v_invv (d' := 7) (k' := 1) (n' := 6) (k2 := 0) (n2 := 0) 7 [_] dL_islands_4 mt_L_109 mi_X6_islands me_X6_islands (by first | assumption | rfl) (by rfl) rfl rfl (of_decide_eq_true rfl) rfl (by decide) rfl rfl rfl rfl (C_X6_islands R I  ?_)
  have te' : ∀ t, t < 10 ∨ 40 ≤ t → hp_te h h t := fun _ _ => hp_te.rf
  have R' := R
  have hb : (op_islands S x).1 ≤ 1 := by
    unfold op_islands
    repeat' split
    all_goals first | exact Nat.zero_le _ | exact of_decide_eq_true rfl
  generalize op_islands S x = o at hb hq ⊢
  obtain ⟨c9, v9⟩ := o
  rcases c9 with _ | c9
  · refine v_i2l 8 dL_islands_7 rfl ?_
    refine v_last 9 dL_islands_8 (by first | assumption | rfl) (by first | assumption | decide) (by rw [(te' 80 (by decide)).2.1, hl9]; exact in_nI (m := 0) (by decide) (by decide)) rfl ?_
    refine v_goto 15 dL_islands_9 (by decide) ?_
    refine v_iconstv (v := 0) 16 dL_islands_15 (by decide) rfl ?_
    refine v_ireturn dL_islands_16 rfl ?_
    exact hq _ (R'.te (fun t ht => hp_te.l (by omega))) (fun t h1 h2 => (te' t h1).tr (hp_te.l h2)) (by show hp_ln h 80 0 = 1; rw [(te' 80 (by decide)).2.1]; exact hl9) (Nat.le_of_ble_eq_true rfl) (fun _ => hp_setl_at)
  rcases c9 with _ | c9
  · refine v_catch (E := "java/lang/IndexOutOfBoundsException") (j := 3) (hp := 12) (ln := 1) [] [] (0, 9, 12, 21) rfl (fun z hz => by cases hz) (by decide) (by decide) (by simp [g_ex]) cl_L_21 ca_E3 rfl (by decide) rfl (Or.inl ⟨3, rfl, dL_islands_12, rfl⟩) ?_
    refine v_iconstv (v := 1) 14 dL_islands_13 (by decide) rfl ?_
    refine v_ireturn dL_islands_14 rfl ?_
    exact hq h R' (fun t h1 _ => te' t h1) (by rw [(te' 80 (by decide)).2.1]; exact hl9) (Nat.le_of_ble_eq_true rfl) (fun e => absurd e (Nat.succ_ne_zero _))
  have hb : c9 + 2 ≤ 1 := hb
  omega
set_option maxRecDepth 20000 in
theorem C_L_saw {G : GW} {h : PH} {Q : RS → PH → Prop} {S : SP} {N : Nat} (R : Rp1 S h) (I : Iv S N) {x y a m : Int32} (hl9 : hp_ln h 80 0 = 1) (hq : ∀ h', Rp1 (op_saw S x y a m).2.2 h' → (∀ t, t < 10 ∨ 40 ≤ t → ¬ t = 80 → hp_te h h' t) → hp_ln h' 80 0 = 1 → (op_saw S x y a m).1 ≤ 3 → ((op_saw S x y a m).1 = 0 → hp_vl h' 80 0 0 = (op_saw S x y a m).2.1.toInt64) → Q (.inl (some (pv_I (nI (op_saw S x y a m).1)))) h') : VV G 10 6 40 yL_saw cL_saw 7 (some .int) [(0, 14, 17, 21), (0, 14, 21, 13), (0, 14, 25, 23)] 0 (vv_en 7 [pv_O (10, 0), pv_I x, pv_I y, pv_I a, pv_I m, pv_O (80, 0)]) [] h Q := by
  show VV G 10 6 40 yL_saw cL_saw 7 (some .int) [(0, 14, 17, 21), (0, 14, 21, 13), (0, 14, 25, 23)] 0 [some (pv_O (10, 0)), some (pv_I x), some (pv_I y), some (pv_I a), some (pv_I m), some (pv_O (80, 0)), none] [] h Q
  refine v_aload 2 dL_saw_0 rfl rfl ?_
  refine v_iconstv (v := 0) 3 dL_saw_2 (by decide) rfl ?_
  refine v_aload_n 4 dL_saw_3 rfl rfl ?_
  refine v_iload_n 5 dL_saw_4 rfl rfl ?_
  refine v_iload_n 6 dL_saw_5 rfl rfl ?_
  refine v_iload_n 7 dL_saw_6 rfl rfl ?_
  refine v_iload 9 dL_saw_7 rfl rfl ?_
  refine v_invv (d' := 9) (k' := 6) (n' := 40) (k2 := 0) (n2 := 0) 12 [_, _, _, _] dL_saw_9 mt_L_112 mi_X6_saw me_X6_saw (by first | assumption | rfl) (by rfl) rfl rfl (of_decide_eq_true rfl) rfl (by decide) rfl rfl rfl rfl (C_X6_saw R I  (fun hf R' te' => ?_))
  have hb : (op_saw S x y a m).1 ≤ 3 := by
    unfold op_saw
    repeat' split
    all_goals first | exact Nat.zero_le _ | exact of_decide_eq_true rfl
  generalize op_saw S x y a m = o at hb hq R' ⊢
  obtain ⟨c9, v9, S9⟩ := o
  rcases c9 with _ | c9
  · refine v_i2l 13 dL_saw_12 rfl ?_
    refine v_last 14 dL_saw_13 (by first | assumption | rfl) (by first | assumption | decide) (by rw [(te' 80 (by decide)).2.1, hl9]; exact in_nI (m := 0) (by decide) (by decide)) rfl ?_
    refine v_goto 29 dL_saw_14 (by decide) ?_
    refine v_iconstv (v := 0) 30 dL_saw_29 (by decide) rfl ?_
    refine v_ireturn dL_saw_30 rfl ?_
    exact hq _ (R'.te (fun t ht => hp_te.l (by omega))) (fun t h1 h2 => (te' t h1).tr (hp_te.l h2)) (by show hp_ln hf 80 0 = 1; rw [(te' 80 (by decide)).2.1]; exact hl9) (Nat.le_of_ble_eq_true rfl) (fun _ => hp_setl_at)
  rcases c9 with _ | c9
  · refine v_catch (E := "java/lang/IndexOutOfBoundsException") (j := 6) (hp := 17) (ln := 2) [] [(0, 14, 21, 13), (0, 14, 25, 23)] (0, 14, 17, 21) rfl (fun z hz => by cases hz) (by decide) (by decide) (by simp [g_ex]) cl_L_21 ca_E3 rfl (by decide) rfl (Or.inr ⟨dL_saw_17, rfl⟩) ?_
    refine v_iconstv (v := 1) 20 dL_saw_19 (by decide) rfl ?_
    refine v_ireturn dL_saw_20 rfl ?_
    exact hq hf R' (fun t h1 _ => te' t h1) (by rw [(te' 80 (by decide)).2.1]; exact hl9) (Nat.le_of_ble_eq_true rfl) (fun e => absurd e (Nat.succ_ne_zero _))
  rcases c9 with _ | c9
  · refine v_catch (E := "java/lang/IllegalArgumentException") (j := 6) (hp := 21) (ln := 2) [(0, 14, 17, 21)] [(0, 14, 25, 23)] (0, 14, 21, 13) rfl (fun z hz => by
      rcases List.mem_cons.mp hz with rfl | hz
      · exact ⟨by decide, "java/lang/IndexOutOfBoundsException", by simp [g_ex], by decide, cl_L_21⟩
      cases hz) (by decide) (by decide) (by simp [g_ex]) cl_L_13 ca_E1 rfl (by decide) rfl (Or.inr ⟨dL_saw_21, rfl⟩) ?_
    refine v_iconstv (v := 2) 24 dL_saw_23 (by decide) rfl ?_
    refine v_ireturn dL_saw_24 rfl ?_
    exact hq hf R' (fun t h1 _ => te' t h1) (by rw [(te' 80 (by decide)).2.1]; exact hl9) (Nat.le_of_ble_eq_true rfl) (fun e => absurd e (Nat.succ_ne_zero _))
  rcases c9 with _ | c9
  · refine v_catch (E := "java/lang/UnsupportedOperationException") (j := 6) (hp := 25) (ln := 2) [(0, 14, 17, 21), (0, 14, 21, 13)] [] (0, 14, 25, 23) rfl (fun z hz => by
      rcases List.mem_cons.mp hz with rfl | hz
      · exact ⟨by decide, "java/lang/IndexOutOfBoundsException", by simp [g_ex], by decide, cl_L_21⟩
      rcases List.mem_cons.mp hz with rfl | hz
      · exact ⟨by decide, "java/lang/IllegalArgumentException", by simp [g_ex], by decide, cl_L_13⟩
      cases hz) (by decide) (by decide) (by simp [g_ex]) cl_L_23 ca_E4 rfl (by decide) rfl (Or.inr ⟨dL_saw_25, rfl⟩) ?_
    refine v_iconstv (v := 3) 28 dL_saw_27 (by decide) rfl ?_
    refine v_ireturn dL_saw_28 rfl ?_
    exact hq hf R' (fun t h1 _ => te' t h1) (by rw [(te' 80 (by decide)).2.1]; exact hl9) (Nat.le_of_ble_eq_true rfl) (fun e => absurd e (Nat.succ_ne_zero _))
  have hb : c9 + 4 ≤ 3 := hb
  omega
set_option maxRecDepth 20000 in
theorem C_L_leafAt {G : GW} {h : PH} {Q : RS → PH → Prop} {S : SP} {N : Nat} (R : Rp1 S h) (I : Iv S N) {x c a b : Int32} (hl9 : hp_ln h 80 0 = 1) (hq : ∀ h', Rp1 S h' → (∀ t, t < 10 ∨ 40 ≤ t → ¬ t = 80 → hp_te h h' t) → hp_ln h' 80 0 = 1 → (op_leafAt S x c a b).1 ≤ 3 → ((op_leafAt S x c a b).1 = 0 → hp_vl h' 80 0 0 = (op_leafAt S x c a b).2.toInt64) → Q (.inl (some (pv_I (nI (op_leafAt S x c a b).1)))) h') : VV G 9 3 18 yL_leafAt cL_leafAt 7 (some .int) [(0, 14, 17, 21), (0, 14, 21, 58)] 0 (vv_en 7 [pv_O (10, 0), pv_I x, pv_I c, pv_I a, pv_I b, pv_O (80, 0)]) [] h Q := by
  show VV G 9 3 18 yL_leafAt cL_leafAt 7 (some .int) [(0, 14, 17, 21), (0, 14, 21, 58)] 0 [some (pv_O (10, 0)), some (pv_I x), some (pv_I c), some (pv_I a), some (pv_I b), some (pv_O (80, 0)), none] [] h Q
  refine v_aload 2 dL_leafAt_0 rfl rfl ?_
  refine v_iconstv (v := 0) 3 dL_leafAt_2 (by decide) rfl ?_
  refine v_aload_n 4 dL_leafAt_3 rfl rfl ?_
  refine v_iload_n 5 dL_leafAt_4 rfl rfl ?_
  refine v_iload_n 6 dL_leafAt_5 rfl rfl ?_
  refine v_iload_n 7 dL_leafAt_6 rfl rfl ?_
  refine v_iload 9 dL_leafAt_7 rfl rfl ?_
  refine v_invv (d' := 8) (k' := 3) (n' := 18) (k2 := 0) (n2 := 0) 12 [_, _, _, _] dL_leafAt_9 mt_L_115 mi_X6_leafAt me_X6_leafAt (by first | assumption | rfl) (by rfl) rfl rfl (of_decide_eq_true rfl) rfl (by decide) rfl rfl rfl rfl (C_X6_leafAt R I  ?_)
  have te' : ∀ t, t < 10 ∨ 40 ≤ t → hp_te h h t := fun _ _ => hp_te.rf
  have R' := R
  have hb : (op_leafAt S x c a b).1 ≤ 2 := by
    unfold op_leafAt
    repeat' split
    all_goals first | exact Nat.zero_le _ | exact of_decide_eq_true rfl
  generalize op_leafAt S x c a b = o at hb hq ⊢
  obtain ⟨c9, v9⟩ := o
  rcases c9 with _ | c9
  · refine v_i2l 13 dL_leafAt_12 rfl ?_
    refine v_last 14 dL_leafAt_13 (by first | assumption | rfl) (by first | assumption | decide) (by rw [(te' 80 (by decide)).2.1, hl9]; exact in_nI (m := 0) (by decide) (by decide)) rfl ?_
    refine v_goto 25 dL_leafAt_14 (by decide) ?_
    refine v_iconstv (v := 0) 26 dL_leafAt_25 (by decide) rfl ?_
    refine v_ireturn dL_leafAt_26 rfl ?_
    exact hq _ (R'.te (fun t ht => hp_te.l (by omega))) (fun t h1 h2 => (te' t h1).tr (hp_te.l h2)) (by show hp_ln h 80 0 = 1; rw [(te' 80 (by decide)).2.1]; exact hl9) (Nat.le_of_ble_eq_true rfl) (fun _ => hp_setl_at)
  rcases c9 with _ | c9
  · refine v_catch (E := "java/lang/IndexOutOfBoundsException") (j := 6) (hp := 17) (ln := 2) [] [(0, 14, 21, 58)] (0, 14, 17, 21) rfl (fun z hz => by cases hz) (by decide) (by decide) (by simp [g_ex]) cl_L_21 ca_E3 rfl (by decide) rfl (Or.inr ⟨dL_leafAt_17, rfl⟩) ?_
    refine v_iconstv (v := 1) 20 dL_leafAt_19 (by decide) rfl ?_
    refine v_ireturn dL_leafAt_20 rfl ?_
    exact hq h R' (fun t h1 _ => te' t h1) (by rw [(te' 80 (by decide)).2.1]; exact hl9) (Nat.le_of_ble_eq_true rfl) (fun e => absurd e (Nat.succ_ne_zero _))
  rcases c9 with _ | c9
  · refine v_catch (E := "java/util/NoSuchElementException") (j := 6) (hp := 21) (ln := 2) [(0, 14, 17, 21)] [] (0, 14, 21, 58) rfl (fun z hz => by
      rcases List.mem_cons.mp hz with rfl | hz
      · exact ⟨by decide, "java/lang/IndexOutOfBoundsException", by simp [g_ex], by decide, cl_L_21⟩
      cases hz) (by decide) (by decide) (by simp [g_ex]) cl_L_58 ca_E5 rfl (by decide) rfl (Or.inr ⟨dL_leafAt_21, rfl⟩) ?_
    refine v_iconstv (v := 2) 24 dL_leafAt_23 (by decide) rfl ?_
    refine v_ireturn dL_leafAt_24 rfl ?_
    exact hq h R' (fun t h1 _ => te' t h1) (by rw [(te' 80 (by decide)).2.1]; exact hl9) (Nat.le_of_ble_eq_true rfl) (fun e => absurd e (Nat.succ_ne_zero _))
  have hb : c9 + 3 ≤ 2 := hb
  omega
set_option maxRecDepth 20000 in
theorem C_L_contrast {G : GW} {h : PH} {Q : RS → PH → Prop} {S : SP} {N : Nat} (R : Rp1 S h) (I : Iv S N) {x c : Int32} (hl9 : hp_ln h 80 0 = 1) (hq : ∀ h', Rp1 S h' → (∀ t, t < 10 ∨ 40 ≤ t → ¬ t = 80 → hp_te h h' t) → hp_ln h' 80 0 = 1 → (op_contrast S x c).1 ≤ 3 → ((op_contrast S x c).1 = 0 → hp_vl h' 80 0 0 = (op_contrast S x c).2.toInt64) → Q (.inl (some (pv_I (nI (op_contrast S x c).1)))) h') : VV G 8 2 12 yL_contrast cL_contrast 5 (some .int) [(0, 10, 13, 21), (0, 10, 17, 58)] 0 (vv_en 5 [pv_O (10, 0), pv_I x, pv_I c, pv_O (80, 0)]) [] h Q := by
  show VV G 8 2 12 yL_contrast cL_contrast 5 (some .int) [(0, 10, 13, 21), (0, 10, 17, 58)] 0 [some (pv_O (10, 0)), some (pv_I x), some (pv_I c), some (pv_O (80, 0)), none] [] h Q
  refine v_aload_n 1 dL_contrast_0 rfl rfl ?_
  refine v_iconstv (v := 0) 2 dL_contrast_1 (by decide) rfl ?_
  refine v_aload_n 3 dL_contrast_2 rfl rfl ?_
  refine v_iload_n 4 dL_contrast_3 rfl rfl ?_
  refine v_iload_n 5 dL_contrast_4 rfl rfl ?_
  refine v_invv (d' := 7) (k' := 2) (n' := 12) (k2 := 0) (n2 := 0) 8 [_, _] dL_contrast_5 mt_L_118 mi_X6_contrast me_X6_contrast (by first | assumption | rfl) (by rfl) rfl rfl (of_decide_eq_true rfl) rfl (by decide) rfl rfl rfl rfl (C_X6_contrast R I  ?_)
  have te' : ∀ t, t < 10 ∨ 40 ≤ t → hp_te h h t := fun _ _ => hp_te.rf
  have R' := R
  have hb : (op_contrast S x c).1 ≤ 2 := by
    unfold op_contrast
    repeat' split
    all_goals first | exact Nat.zero_le _ | exact of_decide_eq_true rfl
  generalize op_contrast S x c = o at hb hq ⊢
  obtain ⟨c9, v9⟩ := o
  rcases c9 with _ | c9
  · refine v_i2l 9 dL_contrast_8 rfl ?_
    refine v_last 10 dL_contrast_9 (by first | assumption | rfl) (by first | assumption | decide) (by rw [(te' 80 (by decide)).2.1, hl9]; exact in_nI (m := 0) (by decide) (by decide)) rfl ?_
    refine v_goto 21 dL_contrast_10 (by decide) ?_
    refine v_iconstv (v := 0) 22 dL_contrast_21 (by decide) rfl ?_
    refine v_ireturn dL_contrast_22 rfl ?_
    exact hq _ (R'.te (fun t ht => hp_te.l (by omega))) (fun t h1 h2 => (te' t h1).tr (hp_te.l h2)) (by show hp_ln h 80 0 = 1; rw [(te' 80 (by decide)).2.1]; exact hl9) (Nat.le_of_ble_eq_true rfl) (fun _ => hp_setl_at)
  rcases c9 with _ | c9
  · refine v_catch (E := "java/lang/IndexOutOfBoundsException") (j := 4) (hp := 13) (ln := 2) [] [(0, 10, 17, 58)] (0, 10, 13, 21) rfl (fun z hz => by cases hz) (by decide) (by decide) (by simp [g_ex]) cl_L_21 ca_E3 rfl (by decide) rfl (Or.inr ⟨dL_contrast_13, rfl⟩) ?_
    refine v_iconstv (v := 1) 16 dL_contrast_15 (by decide) rfl ?_
    refine v_ireturn dL_contrast_16 rfl ?_
    exact hq h R' (fun t h1 _ => te' t h1) (by rw [(te' 80 (by decide)).2.1]; exact hl9) (Nat.le_of_ble_eq_true rfl) (fun e => absurd e (Nat.succ_ne_zero _))
  rcases c9 with _ | c9
  · refine v_catch (E := "java/util/NoSuchElementException") (j := 4) (hp := 17) (ln := 2) [(0, 10, 13, 21)] [] (0, 10, 17, 58) rfl (fun z hz => by
      rcases List.mem_cons.mp hz with rfl | hz
      · exact ⟨by decide, "java/lang/IndexOutOfBoundsException", by simp [g_ex], by decide, cl_L_21⟩
      cases hz) (by decide) (by decide) (by simp [g_ex]) cl_L_58 ca_E5 rfl (by decide) rfl (Or.inr ⟨dL_contrast_17, rfl⟩) ?_
    refine v_iconstv (v := 2) 20 dL_contrast_19 (by decide) rfl ?_
    refine v_ireturn dL_contrast_20 rfl ?_
    exact hq h R' (fun t h1 _ => te' t h1) (by rw [(te' 80 (by decide)).2.1]; exact hl9) (Nat.le_of_ble_eq_true rfl) (fun e => absurd e (Nat.succ_ne_zero _))
  have hb : c9 + 3 ≤ 2 := hb
  omega
set_option maxRecDepth 20000 in
theorem C_L_sand {G : GW} {h : PH} {Q : RS → PH → Prop} {S : SP} {N : Nat} (R : Rp1 S h) (I : Iv S N) {x fd dg sc : Int32} (hl9 : hp_ln h 80 0 = 1) (hq : ∀ h', Rp1 (op_sand S x fd dg sc).2.2 h' → (∀ t, t < 10 ∨ 40 ≤ t → ¬ t = 80 → hp_te h h' t) → hp_ln h' 80 0 = 1 → (op_sand S x fd dg sc).1 ≤ 3 → ((op_sand S x fd dg sc).1 = 0 → hp_vl h' 80 0 0 = (op_sand S x fd dg sc).2.1.toInt64) → Q (.inl (some (pv_I (nI (op_sand S x fd dg sc).1)))) h') : VV G 8 2 12 yL_sand cL_sand 7 (some .int) [(0, 14, 17, 21), (0, 14, 21, 13), (0, 14, 25, 23)] 0 (vv_en 7 [pv_O (10, 0), pv_I x, pv_I fd, pv_I dg, pv_I sc, pv_O (80, 0)]) [] h Q := by
  show VV G 8 2 12 yL_sand cL_sand 7 (some .int) [(0, 14, 17, 21), (0, 14, 21, 13), (0, 14, 25, 23)] 0 [some (pv_O (10, 0)), some (pv_I x), some (pv_I fd), some (pv_I dg), some (pv_I sc), some (pv_O (80, 0)), none] [] h Q
  refine v_aload 2 dL_sand_0 rfl rfl ?_
  refine v_iconstv (v := 0) 3 dL_sand_2 (by decide) rfl ?_
  refine v_aload_n 4 dL_sand_3 rfl rfl ?_
  refine v_iload_n 5 dL_sand_4 rfl rfl ?_
  refine v_iload_n 6 dL_sand_5 rfl rfl ?_
  refine v_iload_n 7 dL_sand_6 rfl rfl ?_
  refine v_iload 9 dL_sand_7 rfl rfl ?_
  refine v_invv (d' := 7) (k' := 2) (n' := 12) (k2 := 0) (n2 := 0) 12 [_, _, _, _] dL_sand_9 mt_L_121 mi_X6_sand me_X6_sand (by first | assumption | rfl) (by rfl) rfl rfl (of_decide_eq_true rfl) rfl (by decide) rfl rfl rfl rfl (C_X6_sand R I  (fun hf R' te' => ?_))
  have hb : (op_sand S x fd dg sc).1 ≤ 3 := by
    unfold op_sand
    repeat' split
    all_goals first | exact Nat.zero_le _ | exact of_decide_eq_true rfl
  generalize op_sand S x fd dg sc = o at hb hq R' ⊢
  obtain ⟨c9, v9, S9⟩ := o
  rcases c9 with _ | c9
  · refine v_i2l 13 dL_sand_12 rfl ?_
    refine v_last 14 dL_sand_13 (by first | assumption | rfl) (by first | assumption | decide) (by rw [(te' 80 (by decide)).2.1, hl9]; exact in_nI (m := 0) (by decide) (by decide)) rfl ?_
    refine v_goto 29 dL_sand_14 (by decide) ?_
    refine v_iconstv (v := 0) 30 dL_sand_29 (by decide) rfl ?_
    refine v_ireturn dL_sand_30 rfl ?_
    exact hq _ (R'.te (fun t ht => hp_te.l (by omega))) (fun t h1 h2 => (te' t h1).tr (hp_te.l h2)) (by show hp_ln hf 80 0 = 1; rw [(te' 80 (by decide)).2.1]; exact hl9) (Nat.le_of_ble_eq_true rfl) (fun _ => hp_setl_at)
  rcases c9 with _ | c9
  · refine v_catch (E := "java/lang/IndexOutOfBoundsException") (j := 6) (hp := 17) (ln := 2) [] [(0, 14, 21, 13), (0, 14, 25, 23)] (0, 14, 17, 21) rfl (fun z hz => by cases hz) (by decide) (by decide) (by simp [g_ex]) cl_L_21 ca_E3 rfl (by decide) rfl (Or.inr ⟨dL_sand_17, rfl⟩) ?_
    refine v_iconstv (v := 1) 20 dL_sand_19 (by decide) rfl ?_
    refine v_ireturn dL_sand_20 rfl ?_
    exact hq hf R' (fun t h1 _ => te' t h1) (by rw [(te' 80 (by decide)).2.1]; exact hl9) (Nat.le_of_ble_eq_true rfl) (fun e => absurd e (Nat.succ_ne_zero _))
  rcases c9 with _ | c9
  · refine v_catch (E := "java/lang/IllegalArgumentException") (j := 6) (hp := 21) (ln := 2) [(0, 14, 17, 21)] [(0, 14, 25, 23)] (0, 14, 21, 13) rfl (fun z hz => by
      rcases List.mem_cons.mp hz with rfl | hz
      · exact ⟨by decide, "java/lang/IndexOutOfBoundsException", by simp [g_ex], by decide, cl_L_21⟩
      cases hz) (by decide) (by decide) (by simp [g_ex]) cl_L_13 ca_E1 rfl (by decide) rfl (Or.inr ⟨dL_sand_21, rfl⟩) ?_
    refine v_iconstv (v := 2) 24 dL_sand_23 (by decide) rfl ?_
    refine v_ireturn dL_sand_24 rfl ?_
    exact hq hf R' (fun t h1 _ => te' t h1) (by rw [(te' 80 (by decide)).2.1]; exact hl9) (Nat.le_of_ble_eq_true rfl) (fun e => absurd e (Nat.succ_ne_zero _))
  rcases c9 with _ | c9
  · refine v_catch (E := "java/lang/UnsupportedOperationException") (j := 6) (hp := 25) (ln := 2) [(0, 14, 17, 21), (0, 14, 21, 13)] [] (0, 14, 25, 23) rfl (fun z hz => by
      rcases List.mem_cons.mp hz with rfl | hz
      · exact ⟨by decide, "java/lang/IndexOutOfBoundsException", by simp [g_ex], by decide, cl_L_21⟩
      rcases List.mem_cons.mp hz with rfl | hz
      · exact ⟨by decide, "java/lang/IllegalArgumentException", by simp [g_ex], by decide, cl_L_13⟩
      cases hz) (by decide) (by decide) (by simp [g_ex]) cl_L_23 ca_E4 rfl (by decide) rfl (Or.inr ⟨dL_sand_25, rfl⟩) ?_
    refine v_iconstv (v := 3) 28 dL_sand_27 (by decide) rfl ?_
    refine v_ireturn dL_sand_28 rfl ?_
    exact hq hf R' (fun t h1 _ => te' t h1) (by rw [(te' 80 (by decide)).2.1]; exact hl9) (Nat.le_of_ble_eq_true rfl) (fun e => absurd e (Nat.succ_ne_zero _))
  have hb : c9 + 4 ≤ 3 := hb
  omega
set_option maxRecDepth 20000 in
theorem C_L_burnt {G : GW} {h : PH} {Q : RS → PH → Prop} {S : SP} {N : Nat} (R : Rp1 S h) (I : Iv S N) {x : Int32} (hl9 : hp_ln h 80 0 = 1) (hq : ∀ h', Rp1 S h' → (∀ t, t < 10 ∨ 40 ≤ t → ¬ t = 80 → hp_te h h' t) → hp_ln h' 80 0 = 1 → (op_burnt S x).1 ≤ 3 → ((op_burnt S x).1 = 0 → hp_vl h' 80 0 0 = (op_burnt S x).2.toInt64) → Q (.inl (some (pv_I (nI (op_burnt S x).1)))) h') : VV G 8 1 6 yL_burnt cL_burnt 4 (some .int) [(0, 9, 12, 21)] 0 (vv_en 4 [pv_O (10, 0), pv_I x, pv_O (80, 0)]) [] h Q := by
  show VV G 8 1 6 yL_burnt cL_burnt 4 (some .int) [(0, 9, 12, 21)] 0 [some (pv_O (10, 0)), some (pv_I x), some (pv_O (80, 0)), none] [] h Q
  refine v_aload_n 1 dL_burnt_0 rfl rfl ?_
  refine v_iconstv (v := 0) 2 dL_burnt_1 (by decide) rfl ?_
  refine v_aload_n 3 dL_burnt_2 rfl rfl ?_
  refine v_iload_n 4 dL_burnt_3 rfl rfl ?_
  refine v_invv (d' := 7) (k' := 1) (n' := 6) (k2 := 0) (n2 := 0) 7 [_] dL_burnt_4 mt_L_125 mi_X6_burnt me_X6_burnt (by first | assumption | rfl) (by rfl) rfl rfl (of_decide_eq_true rfl) rfl (by decide) rfl rfl rfl rfl (C_X6_burnt R I  ?_)
  have te' : ∀ t, t < 10 ∨ 40 ≤ t → hp_te h h t := fun _ _ => hp_te.rf
  have R' := R
  have hb : (op_burnt S x).1 ≤ 1 := by
    unfold op_burnt
    repeat' split
    all_goals first | exact Nat.zero_le _ | exact of_decide_eq_true rfl
  generalize op_burnt S x = o at hb hq ⊢
  obtain ⟨c9, v9⟩ := o
  rcases c9 with _ | c9
  · refine v_i2l 8 dL_burnt_7 rfl ?_
    refine v_last 9 dL_burnt_8 (by first | assumption | rfl) (by first | assumption | decide) (by rw [(te' 80 (by decide)).2.1, hl9]; exact in_nI (m := 0) (by decide) (by decide)) rfl ?_
    refine v_goto 15 dL_burnt_9 (by decide) ?_
    refine v_iconstv (v := 0) 16 dL_burnt_15 (by decide) rfl ?_
    refine v_ireturn dL_burnt_16 rfl ?_
    exact hq _ (R'.te (fun t ht => hp_te.l (by omega))) (fun t h1 h2 => (te' t h1).tr (hp_te.l h2)) (by show hp_ln h 80 0 = 1; rw [(te' 80 (by decide)).2.1]; exact hl9) (Nat.le_of_ble_eq_true rfl) (fun _ => hp_setl_at)
  rcases c9 with _ | c9
  · refine v_catch (E := "java/lang/IndexOutOfBoundsException") (j := 3) (hp := 12) (ln := 1) [] [] (0, 9, 12, 21) rfl (fun z hz => by cases hz) (by decide) (by decide) (by simp [g_ex]) cl_L_21 ca_E3 rfl (by decide) rfl (Or.inl ⟨3, rfl, dL_burnt_12, rfl⟩) ?_
    refine v_iconstv (v := 1) 14 dL_burnt_13 (by decide) rfl ?_
    refine v_ireturn dL_burnt_14 rfl ?_
    exact hq h R' (fun t h1 _ => te' t h1) (by rw [(te' 80 (by decide)).2.1]; exact hl9) (Nat.le_of_ble_eq_true rfl) (fun e => absurd e (Nat.succ_ne_zero _))
  have hb : c9 + 2 ≤ 1 := hb
  omega
set_option maxRecDepth 20000 in
theorem C_L_gap {G : GW} {h : PH} {Q : RS → PH → Prop} {S : SP} {N : Nat} (R : Rp1 S h) (I : Iv S N) {x a b : Int32} (hl9 : hp_ln h 80 0 = 1) (hq : ∀ h', Rp1 S h' → (∀ t, t < 10 ∨ 40 ≤ t → ¬ t = 80 → hp_te h h' t) → hp_ln h' 80 0 = 1 → (op_gap x a b).1 ≤ 3 → ((op_gap x a b).1 = 0 → hp_vl h' 80 0 0 = (op_gap x a b).2.toInt64) → Q (.inl (some (pv_I (nI (op_gap x a b).1)))) h') : VV G 7 1 6 yL_gap cL_gap 6 (some .int) [(0, 12, 15, 13)] 0 (vv_en 6 [pv_O (10, 0), pv_I x, pv_I a, pv_I b, pv_O (80, 0)]) [] h Q := by
  show VV G 7 1 6 yL_gap cL_gap 6 (some .int) [(0, 12, 15, 13)] 0 [some (pv_O (10, 0)), some (pv_I x), some (pv_I a), some (pv_I b), some (pv_O (80, 0)), none] [] h Q
  refine v_aload 2 dL_gap_0 rfl rfl ?_
  refine v_iconstv (v := 0) 3 dL_gap_2 (by decide) rfl ?_
  refine v_aload_n 4 dL_gap_3 rfl rfl ?_
  refine v_iload_n 5 dL_gap_4 rfl rfl ?_
  refine v_iload_n 6 dL_gap_5 rfl rfl ?_
  refine v_iload_n 7 dL_gap_6 rfl rfl ?_
  refine v_invv (d' := 6) (k' := 1) (n' := 6) (k2 := 0) (n2 := 0) 10 [_, _, _] dL_gap_7 mt_L_128 mi_X6_gap me_X6_gap (by first | assumption | rfl) (by rfl) rfl rfl (of_decide_eq_true rfl) rfl (by decide) rfl rfl rfl rfl (C_X6_gap R I  ?_)
  have te' : ∀ t, t < 10 ∨ 40 ≤ t → hp_te h h t := fun _ _ => hp_te.rf
  have R' := R
  have hb : (op_gap x a b).1 ≤ 1 := by
    unfold op_gap
    repeat' split
    all_goals first | exact Nat.zero_le _ | exact of_decide_eq_true rfl
  generalize op_gap x a b = o at hb hq ⊢
  obtain ⟨c9, v9⟩ := o
  rcases c9 with _ | c9
  · refine v_i2l 11 dL_gap_10 rfl ?_
    refine v_last 12 dL_gap_11 (by first | assumption | rfl) (by first | assumption | decide) (by rw [(te' 80 (by decide)).2.1, hl9]; exact in_nI (m := 0) (by decide) (by decide)) rfl ?_
    refine v_goto 19 dL_gap_12 (by decide) ?_
    refine v_iconstv (v := 0) 20 dL_gap_19 (by decide) rfl ?_
    refine v_ireturn dL_gap_20 rfl ?_
    exact hq _ (R'.te (fun t ht => hp_te.l (by omega))) (fun t h1 h2 => (te' t h1).tr (hp_te.l h2)) (by show hp_ln h 80 0 = 1; rw [(te' 80 (by decide)).2.1]; exact hl9) (Nat.le_of_ble_eq_true rfl) (fun _ => hp_setl_at)
  rcases c9 with _ | c9
  · refine v_catch (E := "java/lang/IllegalArgumentException") (j := 5) (hp := 15) (ln := 2) [] [] (0, 12, 15, 13) rfl (fun z hz => by cases hz) (by decide) (by decide) (by simp [g_ex]) cl_L_13 ca_E1 rfl (by decide) rfl (Or.inr ⟨dL_gap_15, rfl⟩) ?_
    refine v_iconstv (v := 1) 18 dL_gap_17 (by decide) rfl ?_
    refine v_ireturn dL_gap_18 rfl ?_
    exact hq h R' (fun t h1 _ => te' t h1) (by rw [(te' 80 (by decide)).2.1]; exact hl9) (Nat.le_of_ble_eq_true rfl) (fun e => absurd e (Nat.succ_ne_zero _))
  have hb : c9 + 2 ≤ 1 := hb
  omega
set_option maxRecDepth 20000 in
theorem C_L_takeOffcut {G : GW} {h : PH} {Q : RS → PH → Prop} {S : SP} {N : Nat} (R : Rp1 S h) (I : Iv S N) {w d : Int32} (hl9 : hp_ln h 80 0 = 1) (hq : ∀ h', Rp1 (op_takeOffcut S w d).2.2 h' → (∀ t, t < 10 ∨ 40 ≤ t → ¬ t = 80 → hp_te h h' t) → hp_ln h' 80 0 = 1 → (op_takeOffcut S w d).1 ≤ 3 → ((op_takeOffcut S w d).1 = 0 → hp_vl h' 80 0 0 = (op_takeOffcut S w d).2.1.toInt64) → Q (.inl (some (pv_I (nI (op_takeOffcut S w d).1)))) h') : VV G 9 2 12 yL_takeOffcut cL_takeOffcut 5 (some .int) [(0, 10, 13, 13), (0, 10, 17, 58)] 0 (vv_en 5 [pv_O (10, 0), pv_I w, pv_I d, pv_O (80, 0)]) [] h Q := by
  show VV G 9 2 12 yL_takeOffcut cL_takeOffcut 5 (some .int) [(0, 10, 13, 13), (0, 10, 17, 58)] 0 [some (pv_O (10, 0)), some (pv_I w), some (pv_I d), some (pv_O (80, 0)), none] [] h Q
  refine v_aload_n 1 dL_takeOffcut_0 rfl rfl ?_
  refine v_iconstv (v := 0) 2 dL_takeOffcut_1 (by decide) rfl ?_
  refine v_aload_n 3 dL_takeOffcut_2 rfl rfl ?_
  refine v_iload_n 4 dL_takeOffcut_3 rfl rfl ?_
  refine v_iload_n 5 dL_takeOffcut_4 rfl rfl ?_
  refine v_invv (d' := 8) (k' := 2) (n' := 12) (k2 := 0) (n2 := 0) 8 [_, _] dL_takeOffcut_5 mt_L_132 mi_X6_takeOffcut me_X6_takeOffcut (by first | assumption | rfl) (by rfl) rfl rfl (of_decide_eq_true rfl) rfl (by decide) rfl rfl rfl rfl (C_X6_takeOffcut R I  (fun hf R' te' => ?_))
  have hb : (op_takeOffcut S w d).1 ≤ 2 := by
    unfold op_takeOffcut
    split
    · cases bo_ S w d (nn_ S 5) <;> exact of_decide_eq_true rfl
    · exact of_decide_eq_true rfl
  generalize op_takeOffcut S w d = o at hb hq R' ⊢
  obtain ⟨c9, v9, S9⟩ := o
  rcases c9 with _ | c9
  · refine v_i2l 9 dL_takeOffcut_8 rfl ?_
    refine v_last 10 dL_takeOffcut_9 (by first | assumption | rfl) (by first | assumption | decide) (by rw [(te' 80 (by decide)).2.1, hl9]; exact in_nI (m := 0) (by decide) (by decide)) rfl ?_
    refine v_goto 21 dL_takeOffcut_10 (by decide) ?_
    refine v_iconstv (v := 0) 22 dL_takeOffcut_21 (by decide) rfl ?_
    refine v_ireturn dL_takeOffcut_22 rfl ?_
    exact hq _ (R'.te (fun t ht => hp_te.l (by omega))) (fun t h1 h2 => (te' t h1).tr (hp_te.l h2)) (by show hp_ln hf 80 0 = 1; rw [(te' 80 (by decide)).2.1]; exact hl9) (Nat.le_of_ble_eq_true rfl) (fun _ => hp_setl_at)
  rcases c9 with _ | c9
  · refine v_catch (E := "java/lang/IllegalArgumentException") (j := 4) (hp := 13) (ln := 2) [] [(0, 10, 17, 58)] (0, 10, 13, 13) rfl (fun z hz => by cases hz) (by decide) (by decide) (by simp [g_ex]) cl_L_13 ca_E1 rfl (by decide) rfl (Or.inr ⟨dL_takeOffcut_13, rfl⟩) ?_
    refine v_iconstv (v := 1) 16 dL_takeOffcut_15 (by decide) rfl ?_
    refine v_ireturn dL_takeOffcut_16 rfl ?_
    exact hq hf R' (fun t h1 _ => te' t h1) (by rw [(te' 80 (by decide)).2.1]; exact hl9) (Nat.le_of_ble_eq_true rfl) (fun e => absurd e (Nat.succ_ne_zero _))
  rcases c9 with _ | c9
  · refine v_catch (E := "java/util/NoSuchElementException") (j := 4) (hp := 17) (ln := 2) [(0, 10, 13, 13)] [] (0, 10, 17, 58) rfl (fun z hz => by
      rcases List.mem_cons.mp hz with rfl | hz
      · exact ⟨by decide, "java/lang/IllegalArgumentException", by simp [g_ex], by decide, cl_L_13⟩
      cases hz) (by decide) (by decide) (by simp [g_ex]) cl_L_58 ca_E5 rfl (by decide) rfl (Or.inr ⟨dL_takeOffcut_17, rfl⟩) ?_
    refine v_iconstv (v := 2) 20 dL_takeOffcut_19 (by decide) rfl ?_
    refine v_ireturn dL_takeOffcut_20 rfl ?_
    exact hq hf R' (fun t h1 _ => te' t h1) (by rw [(te' 80 (by decide)).2.1]; exact hl9) (Nat.le_of_ble_eq_true rfl) (fun e => absurd e (Nat.succ_ne_zero _))
  have hb : c9 + 3 ≤ 2 := hb
  omega
set_option maxRecDepth 20000 in
theorem C_L_account {G : GW} {h : PH} {Q : RS → PH → Prop} {S : SP} {N : Nat} (R : Rp1 S h) (I : Iv S N) {c : Int32} (hl9 : hp_ln h 80 0 = 1) (hq : ∀ h', Rp1 S h' → (∀ t, t < 10 ∨ 40 ≤ t → ¬ t = 80 → hp_te h h' t) → hp_ln h' 80 0 = 1 → (op_account S c).1 ≤ 3 → ((op_account S c).1 = 0 → hp_vl h' 80 0 0 = (op_account S c).2.toInt64) → Q (.inl (some (pv_I (nI (op_account S c).1)))) h') : VV G 7 1 6 yL_account cL_account 4 (some .int) [(0, 9, 12, 13)] 0 (vv_en 4 [pv_O (10, 0), pv_I c, pv_O (80, 0)]) [] h Q := by
  show VV G 7 1 6 yL_account cL_account 4 (some .int) [(0, 9, 12, 13)] 0 [some (pv_O (10, 0)), some (pv_I c), some (pv_O (80, 0)), none] [] h Q
  refine v_aload_n 1 dL_account_0 rfl rfl ?_
  refine v_iconstv (v := 0) 2 dL_account_1 (by decide) rfl ?_
  refine v_aload_n 3 dL_account_2 rfl rfl ?_
  refine v_iload_n 4 dL_account_3 rfl rfl ?_
  refine v_invv (d' := 6) (k' := 1) (n' := 6) (k2 := 0) (n2 := 0) 7 [_] dL_account_4 mt_L_135 mi_X6_account me_X6_account (by first | assumption | rfl) (by rfl) rfl rfl (of_decide_eq_true rfl) rfl (by decide) rfl rfl rfl rfl (C_X6_account R I  ?_)
  have te' : ∀ t, t < 10 ∨ 40 ≤ t → hp_te h h t := fun _ _ => hp_te.rf
  have R' := R
  have hb : (op_account S c).1 ≤ 1 := by
    unfold op_account
    repeat' split
    all_goals first | exact Nat.zero_le _ | exact of_decide_eq_true rfl
  generalize op_account S c = o at hb hq ⊢
  obtain ⟨c9, v9⟩ := o
  rcases c9 with _ | c9
  · refine v_i2l 8 dL_account_7 rfl ?_
    refine v_last 9 dL_account_8 (by first | assumption | rfl) (by first | assumption | decide) (by rw [(te' 80 (by decide)).2.1, hl9]; exact in_nI (m := 0) (by decide) (by decide)) rfl ?_
    refine v_goto 15 dL_account_9 (by decide) ?_
    refine v_iconstv (v := 0) 16 dL_account_15 (by decide) rfl ?_
    refine v_ireturn dL_account_16 rfl ?_
    exact hq _ (R'.te (fun t ht => hp_te.l (by omega))) (fun t h1 h2 => (te' t h1).tr (hp_te.l h2)) (by show hp_ln h 80 0 = 1; rw [(te' 80 (by decide)).2.1]; exact hl9) (Nat.le_of_ble_eq_true rfl) (fun _ => hp_setl_at)
  rcases c9 with _ | c9
  · refine v_catch (E := "java/lang/IllegalArgumentException") (j := 3) (hp := 12) (ln := 1) [] [] (0, 9, 12, 13) rfl (fun z hz => by cases hz) (by decide) (by decide) (by simp [g_ex]) cl_L_13 ca_E1 rfl (by decide) rfl (Or.inl ⟨3, rfl, dL_account_12, rfl⟩) ?_
    refine v_iconstv (v := 1) 14 dL_account_13 (by decide) rfl ?_
    refine v_ireturn dL_account_14 rfl ?_
    exact hq h R' (fun t h1 _ => te' t h1) (by rw [(te' 80 (by decide)).2.1]; exact hl9) (Nat.le_of_ble_eq_true rfl) (fun e => absurd e (Nat.succ_ne_zero _))
  have hb : c9 + 2 ≤ 1 := hb
  omega
set_option maxRecDepth 20000 in
theorem C_L_price {G : GW} {h : PH} {Q : RS → PH → Prop} {S : SP} {N : Nat} (R : Rp1 S h) (I : Iv S N) {x : Int32} (hl9 : hp_ln h 80 0 = 1) (hq : ∀ h', Rp1 S h' → (∀ t, t < 10 ∨ 40 ≤ t → ¬ t = 80 → hp_te h h' t) → hp_ln h' 80 0 = 1 → (op_price S x).1 ≤ 3 → ((op_price S x).1 = 0 → hp_vl h' 80 0 0 = (op_price S x).2.toInt64) → Q (.inl (some (pv_I (nI (op_price S x).1)))) h') : VV G 8 1 6 yL_price cL_price 4 (some .int) [(0, 9, 12, 21)] 0 (vv_en 4 [pv_O (10, 0), pv_I x, pv_O (80, 0)]) [] h Q := by
  show VV G 8 1 6 yL_price cL_price 4 (some .int) [(0, 9, 12, 21)] 0 [some (pv_O (10, 0)), some (pv_I x), some (pv_O (80, 0)), none] [] h Q
  refine v_aload_n 1 dL_price_0 rfl rfl ?_
  refine v_iconstv (v := 0) 2 dL_price_1 (by decide) rfl ?_
  refine v_aload_n 3 dL_price_2 rfl rfl ?_
  refine v_iload_n 4 dL_price_3 rfl rfl ?_
  refine v_invv (d' := 7) (k' := 1) (n' := 6) (k2 := 0) (n2 := 0) 7 [_] dL_price_4 mt_L_139 mi_X6_price me_X6_price (by first | assumption | rfl) (by rfl) rfl rfl (of_decide_eq_true rfl) rfl (by decide) rfl rfl rfl rfl (C_X6_price R I  ?_)
  have te' : ∀ t, t < 10 ∨ 40 ≤ t → hp_te h h t := fun _ _ => hp_te.rf
  have R' := R
  have hb : (op_price S x).1 ≤ 1 := by
    unfold op_price
    repeat' split
    all_goals first | exact Nat.zero_le _ | exact of_decide_eq_true rfl
  generalize op_price S x = o at hb hq ⊢
  obtain ⟨c9, v9⟩ := o
  rcases c9 with _ | c9
  · refine v_i2l 8 dL_price_7 rfl ?_
    refine v_last 9 dL_price_8 (by first | assumption | rfl) (by first | assumption | decide) (by rw [(te' 80 (by decide)).2.1, hl9]; exact in_nI (m := 0) (by decide) (by decide)) rfl ?_
    refine v_goto 15 dL_price_9 (by decide) ?_
    refine v_iconstv (v := 0) 16 dL_price_15 (by decide) rfl ?_
    refine v_ireturn dL_price_16 rfl ?_
    exact hq _ (R'.te (fun t ht => hp_te.l (by omega))) (fun t h1 h2 => (te' t h1).tr (hp_te.l h2)) (by show hp_ln h 80 0 = 1; rw [(te' 80 (by decide)).2.1]; exact hl9) (Nat.le_of_ble_eq_true rfl) (fun _ => hp_setl_at)
  rcases c9 with _ | c9
  · refine v_catch (E := "java/lang/IndexOutOfBoundsException") (j := 3) (hp := 12) (ln := 1) [] [] (0, 9, 12, 21) rfl (fun z hz => by cases hz) (by decide) (by decide) (by simp [g_ex]) cl_L_21 ca_E3 rfl (by decide) rfl (Or.inl ⟨3, rfl, dL_price_12, rfl⟩) ?_
    refine v_iconstv (v := 1) 14 dL_price_13 (by decide) rfl ?_
    refine v_ireturn dL_price_14 rfl ?_
    exact hq h R' (fun t h1 _ => te' t h1) (by rw [(te' 80 (by decide)).2.1]; exact hl9) (Nat.le_of_ble_eq_true rfl) (fun e => absurd e (Nat.succ_ne_zero _))
  have hb : c9 + 2 ≤ 1 := hb
  omega
set_option maxRecDepth 20000 in
theorem C_L_usedShare {G : GW} {h : PH} {Q : RS → PH → Prop} {S : SP} {N : Nat} (R : Rp1 S h) (I : Iv S N) (hl9 : hp_ln h 81 0 = 1) (hq : ∀ h', Rp1 S h' → (∀ t, t < 10 ∨ 40 ≤ t → ¬ t = 81 → hp_te h h' t) → hp_ln h' 81 0 = 1 → (¬ as_ S (nn_ S 1) = 0 → hp_vd h' 81 0 0 = FP.f2d (op_us S)) → Q (.inl (some (pv_I (if as_ S (nn_ S 1) = 0 then 1 else 0)))) h') : VV G 8 1 6 yL_usedShare cL_usedShare 3 (some .int) [(0, 8, 11, 146)] 0 (vv_en 3 [pv_O (10, 0), pv_O (81, 0)]) [] h Q := by
  show VV G 8 1 6 yL_usedShare cL_usedShare 3 (some .int) [(0, 8, 11, 146)] 0 [some (pv_O (10, 0)), some (pv_O (81, 0)), none] [] h Q
  refine v_aload_n 1 dL_usedShare_0 rfl rfl ?_
  refine v_iconstv (v := 0) 2 dL_usedShare_1 (by decide) rfl ?_
  refine v_aload_n 3 dL_usedShare_2 rfl rfl ?_
  refine v_invv (d' := 7) (k' := 1) (n' := 6) (k2 := 0) (n2 := 0) 6 [] dL_usedShare_3 mt_L_142 mi_X6_usedShare me_X6_usedShare (by first | assumption | rfl) (by rfl) rfl rfl (of_decide_eq_true rfl) rfl (by decide) rfl rfl rfl rfl (C_X6_usedShare R I (fun hz => ?_) (fun hz => ?_))
  · have te' : ∀ t, t < 10 ∨ 40 ≤ t → hp_te h h t := fun _ _ => hp_te.rf
    have R' := R
    refine v_catch (E := "java/lang/ArithmeticException") (j := 2) (hp := 11) (ln := 1) [] [] (0, 8, 11, 146) rfl (fun z hz => by cases hz) (by decide) (by decide) (by simp [g_ex]) cl_L_146 ca_E0 rfl (by decide) rfl (Or.inl ⟨2, rfl, dL_usedShare_11, rfl⟩) ?_
    refine v_iconstv (v := 1) 13 dL_usedShare_12 (by decide) rfl ?_
    refine v_ireturn dL_usedShare_13 rfl ?_
    have e9 : (if as_ S (nn_ S 1) = 0 then 1 else 0) = (1 : Int32) := if_pos hz
    rw [e9] at hq
    exact hq h R' (fun t h1 _ => te' t h1) (by rw [(te' 81 (by decide)).2.1]; exact hl9) (fun e => absurd hz e)
  · have te' : ∀ t, t < 10 ∨ 40 ≤ t → hp_te h h t := fun _ _ => hp_te.rf
    have R' := R
    refine v_f2d 7 dL_usedShare_6 (vf64_of (fl_f2 (us_nn I hz))) rfl ?_
    refine v_dast 8 dL_usedShare_7 (by first | assumption | rfl) (by first | assumption | decide) (by rw [(te' 81 (by decide)).2.1, hl9]; exact in_nI (m := 0) (by decide) (by decide)) rfl ?_
    refine v_goto 14 dL_usedShare_8 (by decide) ?_
    refine v_iconstv (v := 0) 15 dL_usedShare_14 (by decide) rfl ?_
    refine v_ireturn dL_usedShare_15 rfl ?_
    have e9 : (if as_ S (nn_ S 1) = 0 then 1 else 0) = (0 : Int32) := if_neg hz
    rw [e9] at hq
    exact hq _ (R'.te (fun t ht => hp_te.d (by omega))) (fun t h1 h2 => (te' t h1).tr (hp_te.d h2)) (by show hp_ln h 81 0 = 1; rw [(te' 81 (by decide)).2.1]; exact hl9) (fun _ => hp_setd_at)
set_option maxRecDepth 20000 in
theorem C_L_meanFigure {G : GW} {h : PH} {Q : RS → PH → Prop} {S : SP} {N : Nat} (R : Rp1 S h) (I : Iv S N) (hl9 : hp_ln h 81 0 = 1) (hq : ∀ h', Rp1 S h' → (∀ t, t < 10 ∨ 40 ≤ t → ¬ t = 81 → hp_te h h' t) → hp_ln h' 81 0 = 1 → (¬ as_ S (nn_ S 1) = 0 → hp_vd h' 81 0 0 = op_mf S) → Q (.inl (some (pv_I (if as_ S (nn_ S 1) = 0 then 1 else 0)))) h') : VV G 8 1 6 yL_meanFigure cL_meanFigure 3 (some .int) [(0, 7, 10, 146)] 0 (vv_en 3 [pv_O (10, 0), pv_O (81, 0)]) [] h Q := by
  show VV G 8 1 6 yL_meanFigure cL_meanFigure 3 (some .int) [(0, 7, 10, 146)] 0 [some (pv_O (10, 0)), some (pv_O (81, 0)), none] [] h Q
  refine v_aload_n 1 dL_meanFigure_0 rfl rfl ?_
  refine v_iconstv (v := 0) 2 dL_meanFigure_1 (by decide) rfl ?_
  refine v_aload_n 3 dL_meanFigure_2 rfl rfl ?_
  refine v_invv (d' := 7) (k' := 1) (n' := 6) (k2 := 0) (n2 := 0) 6 [] dL_meanFigure_3 mt_L_148 mi_X6_meanFigure me_X6_meanFigure (by first | assumption | rfl) (by rfl) rfl rfl (of_decide_eq_true rfl) rfl (by decide) rfl rfl rfl rfl (C_X6_meanFigure R I (fun hz => ?_) (fun hz => ?_))
  · have te' : ∀ t, t < 10 ∨ 40 ≤ t → hp_te h h t := fun _ _ => hp_te.rf
    have R' := R
    refine v_catch (E := "java/lang/ArithmeticException") (j := 2) (hp := 10) (ln := 1) [] [] (0, 7, 10, 146) rfl (fun z hz => by cases hz) (by decide) (by decide) (by simp [g_ex]) cl_L_146 ca_E0 rfl (by decide) rfl (Or.inl ⟨2, rfl, dL_meanFigure_10, rfl⟩) ?_
    refine v_iconstv (v := 1) 12 dL_meanFigure_11 (by decide) rfl ?_
    refine v_ireturn dL_meanFigure_12 rfl ?_
    have e9 : (if as_ S (nn_ S 1) = 0 then 1 else 0) = (1 : Int32) := if_pos hz
    rw [e9] at hq
    exact hq h R' (fun t h1 _ => te' t h1) (by rw [(te' 81 (by decide)).2.1]; exact hl9) (fun e => absurd hz e)
  · have te' : ∀ t, t < 10 ∨ 40 ≤ t → hp_te h h t := fun _ _ => hp_te.rf
    have R' := R
    refine v_dast 7 dL_meanFigure_6 (by first | assumption | rfl) (by first | assumption | decide) (by rw [(te' 81 (by decide)).2.1, hl9]; exact in_nI (m := 0) (by decide) (by decide)) rfl ?_
    refine v_goto 13 dL_meanFigure_7 (by decide) ?_
    refine v_iconstv (v := 0) 14 dL_meanFigure_13 (by decide) rfl ?_
    refine v_ireturn dL_meanFigure_14 rfl ?_
    have e9 : (if as_ S (nn_ S 1) = 0 then 1 else 0) = (0 : Int32) := if_neg hz
    rw [e9] at hq
    exact hq _ (R'.te (fun t ht => hp_te.d (by omega))) (fun t h1 h2 => (te' t h1).tr (hp_te.d h2)) (by show hp_ln h 81 0 = 1; rw [(te' 81 (by decide)).2.1]; exact hl9) (fun _ => hp_setd_at)
