set_option maxRecDepth 20000 in
theorem C_X12_leaves {G : GW} {h : PH} {Q : RS → PH → Prop} {S : SP} {N : Nat} (R : Rp2 S h) (I : Iv S N) {x : Int32} (hq : ∀ v h', ((op_leaves S x).1 = 0 → v = (op_leaves S x).2) → Rp2 S h' → hp_vi h' 40 0 0 = nI (op_leaves S x).1 → ke_ h h' → Q (.inl (some (pv_I v))) h') : VV G 9 0 0 yX12_leaves cX12_leaves 2 (some .int) [] 0 (vv_en 2 [pv_O (40, 0), pv_I x]) [] h Q := by
  show VV G 9 0 0 yX12_leaves cX12_leaves 2 (some .int) [] 0 [some (pv_O (40, 0)), some (pv_I x)] [] h Q
  obtain ⟨z0, z1, z2, z3, z4, z5⟩ := I.cs
  refine v_aload_n 1 dX12_leaves_0 rfl rfl ?_
  refine v_invv (d' := 0) (k' := 0) (n' := 0) (k2 := 0) (n2 := 0) 4 [] dX12_leaves_1 mt_X12_48 mi_X12_begins me_X12_begins (by first | assumption | rfl) (by rfl) rfl rfl (of_decide_eq_true rfl) rfl (by decide) rfl rfl rfl rfl (C2_begins R (fun h0 R e0 ke0 => ?_))
  refine v_aload_n 5 dX12_leaves_4 rfl rfl ?_
  refine v_aload_n 6 dX12_leaves_5 rfl rfl ?_
  refine v_getfr 9 dX12_leaves_6 fl_X12_16 (by first | assumption | rfl) (by rfl) rfl ?_
  rw [R.1.1.2.2.1]
  refine v_iload_n 10 dX12_leaves_9 rfl rfl ?_
  refine v_invs (d' := 2) (k' := 0) (n' := 0) (k2 := 0) (n2 := 0) 13 [_, _] dX12_leaves_10 mt_X12_80 ms_X12_isOf rfl rfl (of_decide_eq_true rfl) rfl (by decide) rfl rfl rfl rfl (C_isOf (tl := 51) (ta := 57) rfl rfl R.2.1.2.1 (fun a10 => ?_) (fun b10 => ?_))
  · have hc := a10.cl (by omega)
    refine v_if_ne 20 16 dX12_leaves_13 (by decide) rfl (fun c13 => ?_) (fun c13 => ?_)
    · refine v_iconstv (v := 0) 21 dX12_leaves_20 (by decide) rfl ?_
      refine v_iconstv (v := 1) 22 dX12_leaves_21 (by decide) rfl ?_
      refine v_invv (d' := 0) (k' := 0) (n' := 0) (k2 := 0) (n2 := 0) 25 [_, _] dX12_leaves_22 mt_X12_67 mi_X12_fails me_X12_fails (by first | assumption | rfl) (by rfl) rfl rfl (of_decide_eq_true rfl) rfl (by decide) rfl rfl rfl rfl (C_f0 e0 ?_)
      refine v_if_eq 32 28 dX12_leaves_25 (by decide) rfl (fun c25 => ?_) (fun c25 => ?_)
      · refine v_aload_n 33 dX12_leaves_32 rfl rfl ?_
        refine v_getfr 36 dX12_leaves_33 fl_X12_16 (by first | assumption | rfl) (by rfl) rfl ?_
        rw [R.1.1.2.2.1]
        refine v_iload_n 37 dX12_leaves_36 rfl rfl ?_
        refine v_invf (z := ("java/util/ArrayList", TJx4a65c, 3)) (d' := 2) (k' := 0) (n' := 0) (k2 := 0) (n2 := 0) 42 [_] dX12_leaves_37 mf_X12_90 md_Jx4a65c_get_915e3 mi_Jx4a65c_get_915e3 se_Jx4a65c_get_915e3 (by simp [g_fw]; rfl) ⟨by decide, by decide +kernel⟩ (by first | assumption | rfl) (by rfl) rfl rfl (of_decide_eq_true rfl) rfl (by decide) rfl rfl rfl rfl (C_gt (tl := 51) (ta := 57) rfl rfl R.2.1.2.1 (by assumption) ?_)
        refine v_cast 45 dX12_leaves_42 ⟨_, _, rfl, rfl, cl_X12_98⟩ rfl ?_
        refine v_getfr 48 dX12_leaves_45 fl_X12_103 (by first | assumption | rfl) (by rfl) rfl ?_
        rw [R.vr (t := 42) (by decide), I.us hc.1]
        refine v_alen 49 dX12_leaves_48 (by first | assumption | rfl) (by simp [g_tys]) rfl ?_
        rw [R.ln (t := 62) (by decide)]
        refine v_ireturn dX12_leaves_49 rfl ?_
        have ev : op_leaves S x = (0, nI (s_n S (cl_ x))) := by unfold op_leaves; simp only [eq_true a10, ↓reduceIte, and_self, and_true, true_and, and_false, false_and, not_true_eq_false, not_false_eq_true]
        rw [ev] at hq
        exact hq _ _ (fun _ => rfl) R e0 ke0
      · first | exact absurd c25 (by decide) | exact absurd rfl c25 | exact absurd (of_decide_eq_true rfl) c25
    · first | exact absurd c13 (by decide) | exact absurd rfl c13 | exact absurd (of_decide_eq_true rfl) c13
  · refine v_if_ne 20 16 dX12_leaves_13 (by decide) rfl (fun c13 => ?_) (fun c13 => ?_)
    · first | exact absurd c13 (by decide) | exact absurd rfl c13 | exact absurd (of_decide_eq_true rfl) c13
    · refine v_iconstv (v := 1) 17 dX12_leaves_16 (by decide) rfl ?_
      refine v_goto 21 dX12_leaves_17 (by decide) ?_
      refine v_iconstv (v := 1) 22 dX12_leaves_21 (by decide) rfl ?_
      refine v_invv (d' := 0) (k' := 0) (n' := 0) (k2 := 0) (n2 := 0) 25 [_, _] dX12_leaves_22 mt_X12_67 mi_X12_fails me_X12_fails (by first | assumption | rfl) (by rfl) rfl rfl (of_decide_eq_true rfl) rfl (by decide) rfl rfl rfl rfl (C_f1 e0 (by decide) ?_)
      refine v_if_eq 32 28 dX12_leaves_25 (by decide) rfl (fun c25 => ?_) (fun c25 => ?_)
      · first | exact absurd c25 (by decide) | exact absurd rfl c25 | exact absurd (of_decide_eq_true rfl) c25
      · refine v_iconstv (v := -1) 29 dX12_leaves_28 (by decide) rfl ?_
        refine v_goto 49 dX12_leaves_29 (by decide) ?_
        refine v_ireturn dX12_leaves_49 rfl ?_
        have ev : op_leaves S x = (1, 0) := by unfold op_leaves; simp only [b10, ↓reduceIte, and_self, and_true, true_and, and_false, false_and, not_true_eq_false, not_false_eq_true]
        rw [ev] at hq
        exact hq _ _ (fun e => absurd e (Nat.succ_ne_zero _)) R.th hp_seti_at (ke0.tr (ke_.i (by decide) (by decide)))
set_option maxRecDepth 20000 in
theorem C_X12_width {G : GW} {h : PH} {Q : RS → PH → Prop} {S : SP} {N : Nat} (R : Rp2 S h) (I : Iv S N) {x l : Int32} (hq : ∀ v h', ((op_width S x l).1 = 0 → v = (op_width S x l).2) → Rp2 S h' → hp_vi h' 40 0 0 = nI (op_width S x l).1 → ke_ h h' → Q (.inl (some (pv_I v))) h') : VV G 9 0 0 yX12_width cX12_width 3 (some .int) [] 0 (vv_en 3 [pv_O (40, 0), pv_I x, pv_I l]) [] h Q := by
  show VV G 9 0 0 yX12_width cX12_width 3 (some .int) [] 0 [some (pv_O (40, 0)), some (pv_I x), some (pv_I l)] [] h Q
  obtain ⟨z0, z1, z2, z3, z4, z5⟩ := I.cs
  refine v_aload_n 1 dX12_width_0 rfl rfl ?_
  refine v_invv (d' := 0) (k' := 0) (n' := 0) (k2 := 0) (n2 := 0) 4 [] dX12_width_1 mt_X12_48 mi_X12_begins me_X12_begins (by first | assumption | rfl) (by rfl) rfl rfl (of_decide_eq_true rfl) rfl (by decide) rfl rfl rfl rfl (C2_begins R (fun h0 R e0 ke0 => ?_))
  refine v_aload_n 5 dX12_width_4 rfl rfl ?_
  refine v_iload_n 6 dX12_width_5 rfl rfl ?_
  refine v_iload_n 7 dX12_width_6 rfl rfl ?_
  refine v_invv (d' := 5) (k' := 0) (n' := 0) (k2 := 0) (n2 := 0) 10 [_, _] dX12_width_7 mt_X12_111 mi_X12_noLeaf me_X12_noLeaf (by first | assumption | rfl) (by rfl) rfl rfl (of_decide_eq_true rfl) rfl (by decide) rfl rfl rfl rfl (C_X12_noLeaf R I e0 (fun a7 => ?_) (fun b7 => ?_))
  · have hc := a7.1.cl (by omega)
    have hl := a7.2.cl (by have := I.n24 hc.1; omega)
    have hc2 : cl_ l < 24 := by have := I.n24 hc.1; omega
    refine v_if_eq 17 13 dX12_width_10 (by decide) rfl (fun c10 => ?_) (fun c10 => ?_)
    · refine v_aload_n 18 dX12_width_17 rfl rfl ?_
      refine v_getfr 21 dX12_width_18 fl_X12_16 (by first | assumption | rfl) (by rfl) rfl ?_
      rw [R.1.1.2.2.1]
      refine v_iload_n 22 dX12_width_21 rfl rfl ?_
      refine v_invf (z := ("java/util/ArrayList", TJx4a65c, 3)) (d' := 2) (k' := 0) (n' := 0) (k2 := 0) (n2 := 0) 27 [_] dX12_width_22 mf_X12_90 md_Jx4a65c_get_915e3 mi_Jx4a65c_get_915e3 se_Jx4a65c_get_915e3 (by simp [g_fw]; rfl) ⟨by decide, by decide +kernel⟩ (by first | assumption | rfl) (by rfl) rfl rfl (of_decide_eq_true rfl) rfl (by decide) rfl rfl rfl rfl (C_gt (tl := 51) (ta := 57) rfl rfl R.2.1.2.1 a7.1 ?_)
      refine v_cast 30 dX12_width_27 ⟨_, _, rfl, rfl, cl_X12_98⟩ rfl ?_
      refine v_iload_n 31 dX12_width_30 rfl rfl ?_
      rw [← hl.2]
      refine v_invv (d' := 1) (k' := 0) (n' := 0) (k2 := 0) (n2 := 0) 34 [_] dX12_width_31 mt_X12_114 mi_X7_width me_X7_width (by first | assumption | rfl) (by rfl) rfl rfl (of_decide_eq_true rfl) rfl (by decide) rfl rfl rfl rfl (C_X7_width (R.tg (by decide)) (R.tg (by decide)) I hc.1 hc2 ?_)
      rw [hl.2]
      refine v_ireturn dX12_width_34 rfl ?_
      have ev : op_width S x l = (0, s_w S (cl_ x) l) := by unfold op_width; simp only [eq_true a7, ↓reduceIte, and_self, and_true, true_and, and_false, false_and, not_true_eq_false, not_false_eq_true]
      rw [ev] at hq
      exact hq _ _ (fun _ => rfl) R e0 ke0
    · first | exact absurd c10 (by decide) | exact absurd rfl c10 | exact absurd (of_decide_eq_true rfl) c10
  · refine v_if_eq 17 13 dX12_width_10 (by decide) rfl (fun c10 => ?_) (fun c10 => ?_)
    · first | exact absurd c10 (by decide) | exact absurd rfl c10 | exact absurd (of_decide_eq_true rfl) c10
    · refine v_iconstv (v := -1) 14 dX12_width_13 (by decide) rfl ?_
      refine v_goto 34 dX12_width_14 (by decide) ?_
      refine v_ireturn dX12_width_34 rfl ?_
      have ev : op_width S x l = (1, 0) := by unfold op_width; simp only [b7, ↓reduceIte, and_self, and_true, true_and, and_false, false_and, not_true_eq_false, not_false_eq_true]
      rw [ev] at hq
      exact hq _ _ (fun e => absurd e (Nat.succ_ne_zero _)) R.th hp_seti_at (ke0.tr (ke_.i (by decide) (by decide)))
set_option maxRecDepth 20000 in
theorem C_X12_area {G : GW} {h : PH} {Q : RS → PH → Prop} {S : SP} {N : Nat} (R : Rp2 S h) (I : Iv S N) {x l : Int32} (hq : ∀ v h', ((op_area S x l).1 = 0 → v = (op_area S x l).2) → Rp2 S h' → hp_vi h' 40 0 0 = nI (op_area S x l).1 → ke_ h h' → Q (.inl (some (pv_I v))) h') : VV G 9 0 0 yX12_area cX12_area 3 (some .int) [] 0 (vv_en 3 [pv_O (40, 0), pv_I x, pv_I l]) [] h Q := by
  show VV G 9 0 0 yX12_area cX12_area 3 (some .int) [] 0 [some (pv_O (40, 0)), some (pv_I x), some (pv_I l)] [] h Q
  obtain ⟨z0, z1, z2, z3, z4, z5⟩ := I.cs
  refine v_aload_n 1 dX12_area_0 rfl rfl ?_
  refine v_invv (d' := 0) (k' := 0) (n' := 0) (k2 := 0) (n2 := 0) 4 [] dX12_area_1 mt_X12_48 mi_X12_begins me_X12_begins (by first | assumption | rfl) (by rfl) rfl rfl (of_decide_eq_true rfl) rfl (by decide) rfl rfl rfl rfl (C2_begins R (fun h0 R e0 ke0 => ?_))
  refine v_aload_n 5 dX12_area_4 rfl rfl ?_
  refine v_iload_n 6 dX12_area_5 rfl rfl ?_
  refine v_iload_n 7 dX12_area_6 rfl rfl ?_
  refine v_invv (d' := 5) (k' := 0) (n' := 0) (k2 := 0) (n2 := 0) 10 [_, _] dX12_area_7 mt_X12_111 mi_X12_noLeaf me_X12_noLeaf (by first | assumption | rfl) (by rfl) rfl rfl (of_decide_eq_true rfl) rfl (by decide) rfl rfl rfl rfl (C_X12_noLeaf R I e0 (fun a7 => ?_) (fun b7 => ?_))
  · have hc := a7.1.cl (by omega)
    have hl := a7.2.cl (by have := I.n24 hc.1; omega)
    have hc2 : cl_ l < 24 := by have := I.n24 hc.1; omega
    refine v_if_eq 17 13 dX12_area_10 (by decide) rfl (fun c10 => ?_) (fun c10 => ?_)
    · refine v_aload_n 18 dX12_area_17 rfl rfl ?_
      refine v_getfr 21 dX12_area_18 fl_X12_16 (by first | assumption | rfl) (by rfl) rfl ?_
      rw [R.1.1.2.2.1]
      refine v_iload_n 22 dX12_area_21 rfl rfl ?_
      refine v_invf (z := ("java/util/ArrayList", TJx4a65c, 3)) (d' := 2) (k' := 0) (n' := 0) (k2 := 0) (n2 := 0) 27 [_] dX12_area_22 mf_X12_90 md_Jx4a65c_get_915e3 mi_Jx4a65c_get_915e3 se_Jx4a65c_get_915e3 (by simp [g_fw]; rfl) ⟨by decide, by decide +kernel⟩ (by first | assumption | rfl) (by rfl) rfl rfl (of_decide_eq_true rfl) rfl (by decide) rfl rfl rfl rfl (C_gt (tl := 51) (ta := 57) rfl rfl R.2.1.2.1 a7.1 ?_)
      refine v_cast 30 dX12_area_27 ⟨_, _, rfl, rfl, cl_X12_98⟩ rfl ?_
      refine v_iload_n 31 dX12_area_30 rfl rfl ?_
      rw [← hl.2]
      refine v_invv (d' := 2) (k' := 0) (n' := 0) (k2 := 0) (n2 := 0) 34 [_] dX12_area_31 mt_X12_117 mi_X7_area me_X7_area (by first | assumption | rfl) (by rfl) rfl rfl (of_decide_eq_true rfl) rfl (by decide) rfl rfl rfl rfl (C_X7_area (R.tg (by decide)) (R.tg (by decide)) I hc.1 hc2 ?_)
      rw [hl.2]
      refine v_ireturn dX12_area_34 rfl ?_
      have ev : op_area S x l = (0, s_a S (cl_ x) l) := by unfold op_area; simp only [eq_true a7, ↓reduceIte, and_self, and_true, true_and, and_false, false_and, not_true_eq_false, not_false_eq_true]
      rw [ev] at hq
      exact hq _ _ (fun _ => rfl) R e0 ke0
    · first | exact absurd c10 (by decide) | exact absurd rfl c10 | exact absurd (of_decide_eq_true rfl) c10
  · refine v_if_eq 17 13 dX12_area_10 (by decide) rfl (fun c10 => ?_) (fun c10 => ?_)
    · first | exact absurd c10 (by decide) | exact absurd rfl c10 | exact absurd (of_decide_eq_true rfl) c10
    · refine v_iconstv (v := -1) 14 dX12_area_13 (by decide) rfl ?_
      refine v_goto 34 dX12_area_14 (by decide) ?_
      refine v_ireturn dX12_area_34 rfl ?_
      have ev : op_area S x l = (1, 0) := by unfold op_area; simp only [b7, ↓reduceIte, and_self, and_true, true_and, and_false, false_and, not_true_eq_false, not_false_eq_true]
      rw [ev] at hq
      exact hq _ _ (fun e => absurd e (Nat.succ_ne_zero _)) R.th hp_seti_at (ke0.tr (ke_.i (by decide) (by decide)))
set_option maxRecDepth 20000 in
theorem C_X12_figure {G : GW} {h : PH} {Q : RS → PH → Prop} {S : SP} {N : Nat} (R : Rp2 S h) (I : Iv S N) {x l : Int32} (hq : ∀ v h', ((op_figure S x l).1 = 0 → v = (op_figure S x l).2) → Rp2 S h' → hp_vi h' 40 0 0 = nI (op_figure S x l).1 → ke_ h h' → Q (.inl (some (pv_I v))) h') : VV G 9 0 0 yX12_figure cX12_figure 3 (some .int) [] 0 (vv_en 3 [pv_O (40, 0), pv_I x, pv_I l]) [] h Q := by
  show VV G 9 0 0 yX12_figure cX12_figure 3 (some .int) [] 0 [some (pv_O (40, 0)), some (pv_I x), some (pv_I l)] [] h Q
  obtain ⟨z0, z1, z2, z3, z4, z5⟩ := I.cs
  refine v_aload_n 1 dX12_figure_0 rfl rfl ?_
  refine v_invv (d' := 0) (k' := 0) (n' := 0) (k2 := 0) (n2 := 0) 4 [] dX12_figure_1 mt_X12_48 mi_X12_begins me_X12_begins (by first | assumption | rfl) (by rfl) rfl rfl (of_decide_eq_true rfl) rfl (by decide) rfl rfl rfl rfl (C2_begins R (fun h0 R e0 ke0 => ?_))
  refine v_aload_n 5 dX12_figure_4 rfl rfl ?_
  refine v_iload_n 6 dX12_figure_5 rfl rfl ?_
  refine v_iload_n 7 dX12_figure_6 rfl rfl ?_
  refine v_invv (d' := 5) (k' := 0) (n' := 0) (k2 := 0) (n2 := 0) 10 [_, _] dX12_figure_7 mt_X12_111 mi_X12_noLeaf me_X12_noLeaf (by first | assumption | rfl) (by rfl) rfl rfl (of_decide_eq_true rfl) rfl (by decide) rfl rfl rfl rfl (C_X12_noLeaf R I e0 (fun a7 => ?_) (fun b7 => ?_))
  · have hc := a7.1.cl (by omega)
    have hl := a7.2.cl (by have := I.n24 hc.1; omega)
    have hc2 : cl_ l < 24 := by have := I.n24 hc.1; omega
    refine v_if_eq 17 13 dX12_figure_10 (by decide) rfl (fun c10 => ?_) (fun c10 => ?_)
    · refine v_aload_n 18 dX12_figure_17 rfl rfl ?_
      refine v_getfr 21 dX12_figure_18 fl_X12_16 (by first | assumption | rfl) (by rfl) rfl ?_
      rw [R.1.1.2.2.1]
      refine v_iload_n 22 dX12_figure_21 rfl rfl ?_
      refine v_invf (z := ("java/util/ArrayList", TJx4a65c, 3)) (d' := 2) (k' := 0) (n' := 0) (k2 := 0) (n2 := 0) 27 [_] dX12_figure_22 mf_X12_90 md_Jx4a65c_get_915e3 mi_Jx4a65c_get_915e3 se_Jx4a65c_get_915e3 (by simp [g_fw]; rfl) ⟨by decide, by decide +kernel⟩ (by first | assumption | rfl) (by rfl) rfl rfl (of_decide_eq_true rfl) rfl (by decide) rfl rfl rfl rfl (C_gt (tl := 51) (ta := 57) rfl rfl R.2.1.2.1 a7.1 ?_)
      refine v_cast 30 dX12_figure_27 ⟨_, _, rfl, rfl, cl_X12_98⟩ rfl ?_
      refine v_iload_n 31 dX12_figure_30 rfl rfl ?_
      
      refine v_invv (d' := 1) (k' := 0) (n' := 0) (k2 := 0) (n2 := 0) 34 [_] dX12_figure_31 mt_X12_120 mi_X7_figure me_X7_figure (by first | assumption | rfl) (by rfl) rfl rfl (of_decide_eq_true rfl) rfl (by decide) rfl rfl rfl rfl (C_X7_figure (R.tg (by decide)) (R.tg (by decide)) I hc.1 ?_)
      
      refine v_ireturn dX12_figure_34 rfl ?_
      have ev : op_figure S x l = (0, s_f S (cl_ x) l) := by unfold op_figure; simp only [eq_true a7, ↓reduceIte, and_self, and_true, true_and, and_false, false_and, not_true_eq_false, not_false_eq_true]
      rw [ev] at hq
      exact hq _ _ (fun _ => rfl) R e0 ke0
    · first | exact absurd c10 (by decide) | exact absurd rfl c10 | exact absurd (of_decide_eq_true rfl) c10
  · refine v_if_eq 17 13 dX12_figure_10 (by decide) rfl (fun c10 => ?_) (fun c10 => ?_)
    · first | exact absurd c10 (by decide) | exact absurd rfl c10 | exact absurd (of_decide_eq_true rfl) c10
    · refine v_iconstv (v := -1) 14 dX12_figure_13 (by decide) rfl ?_
      refine v_goto 34 dX12_figure_14 (by decide) ?_
      refine v_ireturn dX12_figure_34 rfl ?_
      have ev : op_figure S x l = (1, 0) := by unfold op_figure; simp only [b7, ↓reduceIte, and_self, and_true, true_and, and_false, false_and, not_true_eq_false, not_false_eq_true]
      rw [ev] at hq
      exact hq _ _ (fun e => absurd e (Nat.succ_ne_zero _)) R.th hp_seti_at (ke0.tr (ke_.i (by decide) (by decide)))
set_option maxRecDepth 20000 in
theorem C_X12_isUsed {G : GW} {h : PH} {Q : RS → PH → Prop} {S : SP} {N : Nat} (R : Rp2 S h) (I : Iv S N) {x l : Int32} (hq : ∀ v h', ((op_isUsed S x l).1 = 0 → v = (op_isUsed S x l).2) → Rp2 S h' → hp_vi h' 40 0 0 = nI (op_isUsed S x l).1 → ke_ h h' → Q (.inl (some (pv_I v))) h') : VV G 9 0 0 yX12_isUsed cX12_isUsed 3 (some .boolean) [] 0 (vv_en 3 [pv_O (40, 0), pv_I x, pv_I l]) [] h Q := by
  show VV G 9 0 0 yX12_isUsed cX12_isUsed 3 (some .boolean) [] 0 [some (pv_O (40, 0)), some (pv_I x), some (pv_I l)] [] h Q
  obtain ⟨z0, z1, z2, z3, z4, z5⟩ := I.cs
  refine v_aload_n 1 dX12_isUsed_0 rfl rfl ?_
  refine v_invv (d' := 0) (k' := 0) (n' := 0) (k2 := 0) (n2 := 0) 4 [] dX12_isUsed_1 mt_X12_48 mi_X12_begins me_X12_begins (by first | assumption | rfl) (by rfl) rfl rfl (of_decide_eq_true rfl) rfl (by decide) rfl rfl rfl rfl (C2_begins R (fun h0 R e0 ke0 => ?_))
  refine v_aload_n 5 dX12_isUsed_4 rfl rfl ?_
  refine v_iload_n 6 dX12_isUsed_5 rfl rfl ?_
  refine v_iload_n 7 dX12_isUsed_6 rfl rfl ?_
  refine v_invv (d' := 5) (k' := 0) (n' := 0) (k2 := 0) (n2 := 0) 10 [_, _] dX12_isUsed_7 mt_X12_111 mi_X12_noLeaf me_X12_noLeaf (by first | assumption | rfl) (by rfl) rfl rfl (of_decide_eq_true rfl) rfl (by decide) rfl rfl rfl rfl (C_X12_noLeaf R I e0 (fun a7 => ?_) (fun b7 => ?_))
  · have hc := a7.1.cl (by omega)
    have hl := a7.2.cl (by have := I.n24 hc.1; omega)
    refine v_if_ne 38 13 dX12_isUsed_10 (by decide) rfl (fun c10 => ?_) (fun c10 => ?_)
    · first | exact absurd c10 (by decide) | exact absurd rfl c10 | exact absurd (of_decide_eq_true rfl) c10
    · refine v_aload_n 14 dX12_isUsed_13 rfl rfl ?_
      refine v_getfr 17 dX12_isUsed_14 fl_X12_16 (by first | assumption | rfl) (by rfl) rfl ?_
      rw [R.1.1.2.2.1]
      refine v_iload_n 18 dX12_isUsed_17 rfl rfl ?_
      refine v_invf (z := ("java/util/ArrayList", TJx4a65c, 3)) (d' := 2) (k' := 0) (n' := 0) (k2 := 0) (n2 := 0) 23 [_] dX12_isUsed_18 mf_X12_90 md_Jx4a65c_get_915e3 mi_Jx4a65c_get_915e3 se_Jx4a65c_get_915e3 (by simp [g_fw]; rfl) ⟨by decide, by decide +kernel⟩ (by first | assumption | rfl) (by rfl) rfl rfl (of_decide_eq_true rfl) rfl (by decide) rfl rfl rfl rfl (C_gt (tl := 51) (ta := 57) rfl rfl R.2.1.2.1 a7.1 ?_)
      refine v_cast 26 dX12_isUsed_23 ⟨_, _, rfl, rfl, cl_X12_98⟩ rfl ?_
      refine v_getfr 29 dX12_isUsed_26 fl_X12_103 (by first | assumption | rfl) (by rfl) rfl ?_
      rw [R.vr (t := 42) (by decide), I.us hc.1]
      refine v_iload_n 30 dX12_isUsed_29 rfl rfl ?_
      refine v_zald 31 dX12_isUsed_30 (by first | assumption | rfl) (by rw [R.ln (t := 62) (by decide)]; exact a7.2.inn (by have := I.n24 hc.1; omega) (Nat.le_refl _) (by have := I.n24 hc.1; show s_n S (cl_ x) < 2 ^ 31; omega)) rfl ?_
      rw [R.vi (t := 62) (by decide)]
      refine v_if_eq 38 34 dX12_isUsed_31 (by decide) rfl (fun c31 => ?_) (fun c31 => ?_)
      · refine v_iconstv (v := 0) 39 dX12_isUsed_38 (by decide) rfl ?_
        refine v_zreturn (ty := .boolean) (by first | rfl | decide | exact nz_if | exact nz_fi) dX12_isUsed_39 rfl ?_
        have ev : op_isUsed S x l = (0, hp_vi S.1 62 (cl_ x) (cl_ l)) := by unfold op_isUsed; simp only [eq_true a7, ↓reduceIte, and_self, and_true, true_and, and_false, false_and, not_true_eq_false, not_false_eq_true]
        rw [ev] at hq
        exact hq _ _ (fun _ => (by first | exact c31.symm | exact ((I.u01 hc.1 (cl_ l)).resolve_left c31).symm)) R e0 ke0
      · refine v_iconstv (v := 1) 35 dX12_isUsed_34 (by decide) rfl ?_
        refine v_goto 39 dX12_isUsed_35 (by decide) ?_
        refine v_zreturn (ty := .boolean) (by first | rfl | decide | exact nz_if | exact nz_fi) dX12_isUsed_39 rfl ?_
        have ev : op_isUsed S x l = (0, hp_vi S.1 62 (cl_ x) (cl_ l)) := by unfold op_isUsed; simp only [eq_true a7, ↓reduceIte, and_self, and_true, true_and, and_false, false_and, not_true_eq_false, not_false_eq_true]
        rw [ev] at hq
        exact hq _ _ (fun _ => (by first | exact c31.symm | exact ((I.u01 hc.1 (cl_ l)).resolve_left c31).symm)) R e0 ke0
  · refine v_if_ne 38 13 dX12_isUsed_10 (by decide) rfl (fun c10 => ?_) (fun c10 => ?_)
    · refine v_iconstv (v := 0) 39 dX12_isUsed_38 (by decide) rfl ?_
      refine v_zreturn (ty := .boolean) (by first | rfl | decide | exact nz_if | exact nz_fi) dX12_isUsed_39 rfl ?_
      have ev : op_isUsed S x l = (1, 0) := by unfold op_isUsed; simp only [b7, ↓reduceIte, and_self, and_true, true_and, and_false, false_and, not_true_eq_false, not_false_eq_true]
      rw [ev] at hq
      exact hq _ _ (fun e => absurd e (Nat.succ_ne_zero _)) R.th hp_seti_at (ke0.tr (ke_.i (by decide) (by decide)))
    · first | exact absurd c10 (by decide) | exact absurd rfl c10 | exact absurd (of_decide_eq_true rfl) c10
set_option maxRecDepth 20000 in
theorem C_X12_jump {G : GW} {h : PH} {Q : RS → PH → Prop} {S : SP} {N : Nat} (R : Rp2 S h) (I : Iv S N) {x : Int32} (hq : ∀ v h', ((op_jump S x).1 = 0 → v = (op_jump S x).2) → Rp2 S h' → hp_vi h' 40 0 0 = nI (op_jump S x).1 → ke_ h h' → Q (.inl (some (pv_I v))) h') : VV G 9 0 0 yX12_jump cX12_jump 2 (some .int) [] 0 (vv_en 2 [pv_O (40, 0), pv_I x]) [] h Q := by
  show VV G 9 0 0 yX12_jump cX12_jump 2 (some .int) [] 0 [some (pv_O (40, 0)), some (pv_I x)] [] h Q
  obtain ⟨z0, z1, z2, z3, z4, z5⟩ := I.cs
  refine v_aload_n 1 dX12_jump_0 rfl rfl ?_
  refine v_invv (d' := 0) (k' := 0) (n' := 0) (k2 := 0) (n2 := 0) 4 [] dX12_jump_1 mt_X12_48 mi_X12_begins me_X12_begins (by first | assumption | rfl) (by rfl) rfl rfl (of_decide_eq_true rfl) rfl (by decide) rfl rfl rfl rfl (C2_begins R (fun h0 R e0 ke0 => ?_))
  refine v_aload_n 5 dX12_jump_4 rfl rfl ?_
  refine v_iload_n 6 dX12_jump_5 rfl rfl ?_
  refine v_invv (d' := 4) (k' := 0) (n' := 0) (k2 := 0) (n2 := 0) 9 [_] dX12_jump_6 mt_X12_171 mi_X12_noPanel me_X12_noPanel (by first | assumption | rfl) (by rfl) rfl rfl (of_decide_eq_true rfl) rfl (by decide) rfl rfl rfl rfl (C_X12_noPanel R e0 (fun a6 => ?_) (fun b6 => ?_))
  · refine v_if_ne 44 12 dX12_jump_9 (by decide) rfl (fun c9 => ?_) (fun c9 => ?_)
    · first | exact absurd c9 (by decide) | exact absurd rfl c9 | exact absurd (of_decide_eq_true rfl) c9
    · refine v_aload_n 13 dX12_jump_12 rfl rfl ?_
      refine v_aload_n 14 dX12_jump_13 rfl rfl ?_
      refine v_getfr 17 dX12_jump_14 fl_X12_19 (by first | assumption | rfl) (by rfl) rfl ?_
      rw [R.1.1.2.2.2.1]
      refine v_iload_n 18 dX12_jump_17 rfl rfl ?_
      refine v_invf (z := ("java/util/ArrayList", TJx4a65c, 3)) (d' := 2) (k' := 0) (n' := 0) (k2 := 0) (n2 := 0) 23 [_] dX12_jump_18 mf_X12_90 md_Jx4a65c_get_915e3 mi_Jx4a65c_get_915e3 se_Jx4a65c_get_915e3 (by simp [g_fw]; rfl) ⟨by decide, by decide +kernel⟩ (by first | assumption | rfl) (by rfl) rfl rfl (of_decide_eq_true rfl) rfl (by decide) rfl rfl rfl rfl (C_gt (tl := 52) (ta := 58) rfl rfl R.2.1.2.2.1 (by assumption) ?_)
      refine v_cast 26 dX12_jump_23 ⟨_, _, rfl, rfl, cl_X12_129⟩ rfl ?_
      refine v_getfr 29 dX12_jump_26 fl_X12_186 (by first | assumption | rfl) (by rfl) rfl ?_
      rw [R.vr (t := 43) (by decide)]
      refine v_ifnonnull 36 32 dX12_jump_29 (by decide) rfl (fun c29 => ?_) (fun c29 => ?_)
      · refine v_iconstv (v := 0) 37 dX12_jump_36 (by decide) rfl ?_
        refine v_iconstv (v := 2) 38 dX12_jump_37 (by decide) rfl ?_
        refine v_invv (d' := 0) (k' := 0) (n' := 0) (k2 := 0) (n2 := 0) 41 [_, _] dX12_jump_38 mt_X12_67 mi_X12_fails me_X12_fails (by first | assumption | rfl) (by rfl) rfl rfl (of_decide_eq_true rfl) rfl (by decide) rfl rfl rfl rfl (C_f0 e0 ?_)
        refine v_if_eq 48 44 dX12_jump_41 (by decide) rfl (fun c41 => ?_) (fun c41 => ?_)
        · refine v_aload_n 49 dX12_jump_48 rfl rfl ?_
          refine v_getfr 52 dX12_jump_49 fl_X12_19 (by first | assumption | rfl) (by rfl) rfl ?_
          rw [R.1.1.2.2.2.1]
          refine v_iload_n 53 dX12_jump_52 rfl rfl ?_
          refine v_invf (z := ("java/util/ArrayList", TJx4a65c, 3)) (d' := 2) (k' := 0) (n' := 0) (k2 := 0) (n2 := 0) 58 [_] dX12_jump_53 mf_X12_90 md_Jx4a65c_get_915e3 mi_Jx4a65c_get_915e3 se_Jx4a65c_get_915e3 (by simp [g_fw]; rfl) ⟨by decide, by decide +kernel⟩ (by first | assumption | rfl) (by rfl) rfl rfl (of_decide_eq_true rfl) rfl (by decide) rfl rfl rfl rfl (C_gt (tl := 52) (ta := 58) rfl rfl R.2.1.2.2.1 (by assumption) ?_)
          refine v_cast 61 dX12_jump_58 ⟨_, _, rfl, rfl, cl_X12_129⟩ rfl ?_
          refine v_getfi 64 dX12_jump_61 fl_X12_202 (by first | assumption | rfl) (by rfl) rfl ?_
          rw [R.vi (t := 43) (by decide)]
          refine v_ireturn dX12_jump_64 rfl ?_
          have ev : op_jump S x = (0, hp_vi S.1 43 (cl_ x) 5) := by unfold op_jump; simp only [eq_true a6, c29, ↓reduceIte, and_self, and_true, true_and, and_false, false_and, not_true_eq_false, not_false_eq_true]
          rw [ev] at hq
          exact hq _ _ (fun _ => rfl) R e0 ke0
        · first | exact absurd c41 (by decide) | exact absurd rfl c41 | exact absurd (of_decide_eq_true rfl) c41
      · refine v_iconstv (v := 1) 33 dX12_jump_32 (by decide) rfl ?_
        refine v_goto 37 dX12_jump_33 (by decide) ?_
        refine v_iconstv (v := 2) 38 dX12_jump_37 (by decide) rfl ?_
        refine v_invv (d' := 0) (k' := 0) (n' := 0) (k2 := 0) (n2 := 0) 41 [_, _] dX12_jump_38 mt_X12_67 mi_X12_fails me_X12_fails (by first | assumption | rfl) (by rfl) rfl rfl (of_decide_eq_true rfl) rfl (by decide) rfl rfl rfl rfl (C_f1 e0 (by decide) ?_)
        refine v_if_eq 48 44 dX12_jump_41 (by decide) rfl (fun c41 => ?_) (fun c41 => ?_)
        · first | exact absurd c41 (by decide) | exact absurd rfl c41 | exact absurd (of_decide_eq_true rfl) c41
        · refine v_iconstv (v := -1) 45 dX12_jump_44 (by decide) rfl ?_
          refine v_goto 64 dX12_jump_45 (by decide) ?_
          refine v_ireturn dX12_jump_64 rfl ?_
          have ev : op_jump S x = (2, 0) := by unfold op_jump; simp only [eq_true a6, c29, ↓reduceIte, and_self, and_true, true_and, and_false, false_and, not_true_eq_false, not_false_eq_true]
          rw [ev] at hq
          exact hq _ _ (fun e => absurd e (Nat.succ_ne_zero _)) R.th hp_seti_at (ke0.tr (ke_.i (by decide) (by decide)))
  · refine v_if_ne 44 12 dX12_jump_9 (by decide) rfl (fun c9 => ?_) (fun c9 => ?_)
    · refine v_iconstv (v := -1) 45 dX12_jump_44 (by decide) rfl ?_
      refine v_goto 64 dX12_jump_45 (by decide) ?_
      refine v_ireturn dX12_jump_64 rfl ?_
      have ev : op_jump S x = (1, 0) := by unfold op_jump; simp only [b6, ↓reduceIte, and_self, and_true, true_and, and_false, false_and, not_true_eq_false, not_false_eq_true]
      rw [ev] at hq
      exact hq _ _ (fun e => absurd e (Nat.succ_ne_zero _)) R.th hp_seti_at (ke0.tr (ke_.i (by decide) (by decide)))
    · first | exact absurd c9 (by decide) | exact absurd rfl c9 | exact absurd (of_decide_eq_true rfl) c9
set_option maxRecDepth 20000 in
theorem C_X12_cup {G : GW} {h : PH} {Q : RS → PH → Prop} {S : SP} {N : Nat} (R : Rp2 S h) (I : Iv S N) {x a : Int32} (hq : ∀ v h', ((op_cup S x a).1 = 0 → v = (op_cup S x a).2) → Rp2 S h' → hp_vi h' 40 0 0 = nI (op_cup S x a).1 → ke_ h h' → Q (.inl (some (pv_I v))) h') : VV G 9 0 0 yX12_cup cX12_cup 3 (some .int) [] 0 (vv_en 3 [pv_O (40, 0), pv_I x, pv_I a]) [] h Q := by
  show VV G 9 0 0 yX12_cup cX12_cup 3 (some .int) [] 0 [some (pv_O (40, 0)), some (pv_I x), some (pv_I a)] [] h Q
  obtain ⟨z0, z1, z2, z3, z4, z5⟩ := I.cs
  refine v_aload_n 1 dX12_cup_0 rfl rfl ?_
  refine v_invv (d' := 0) (k' := 0) (n' := 0) (k2 := 0) (n2 := 0) 4 [] dX12_cup_1 mt_X12_48 mi_X12_begins me_X12_begins (by first | assumption | rfl) (by rfl) rfl rfl (of_decide_eq_true rfl) rfl (by decide) rfl rfl rfl rfl (C2_begins R (fun h0 R e0 ke0 => ?_))
  refine v_aload_n 5 dX12_cup_4 rfl rfl ?_
  refine v_iload_n 6 dX12_cup_5 rfl rfl ?_
  refine v_invv (d' := 4) (k' := 0) (n' := 0) (k2 := 0) (n2 := 0) 9 [_] dX12_cup_6 mt_X12_171 mi_X12_noPanel me_X12_noPanel (by first | assumption | rfl) (by rfl) rfl rfl (of_decide_eq_true rfl) rfl (by decide) rfl rfl rfl rfl (C_X12_noPanel R e0 (fun a6 => ?_) (fun b6 => ?_))
  · have hc := a6.cl (by omega)
    refine v_if_ne 71 12 dX12_cup_9 (by decide) rfl (fun c9 => ?_) (fun c9 => ?_)
    · first | exact absurd c9 (by decide) | exact absurd rfl c9 | exact absurd (of_decide_eq_true rfl) c9
    · refine v_aload_n 13 dX12_cup_12 rfl rfl ?_
      refine v_iload_n 14 dX12_cup_13 rfl rfl ?_
      refine v_i2l 15 dX12_cup_14 rfl ?_
      refine v_ldc2 18 dX12_cup_15 cn_X12_229 rfl rfl ?_
      refine v_ldc2 21 dX12_cup_18 cn_X12_125 rfl rfl ?_
      refine v_invs (d' := 0) (k' := 0) (n' := 0) (k2 := 0) (n2 := 0) 24 [_, _, _] dX12_cup_21 mt_X12_44 ms_X12_in rfl rfl (of_decide_eq_true rfl) rfl (by decide) rfl rfl rfl rfl (C_in2 (lo := 4) (hi := 20) rfl (by decide) (by decide) (fun a21 => ?_) (fun b21 => ?_))
      · refine v_if_ne 31 27 dX12_cup_24 (by decide) rfl (fun c24 => ?_) (fun c24 => ?_)
        · refine v_iconstv (v := 0) 32 dX12_cup_31 (by decide) rfl ?_
          refine v_iconstv (v := 2) 33 dX12_cup_32 (by decide) rfl ?_
          refine v_invv (d' := 0) (k' := 0) (n' := 0) (k2 := 0) (n2 := 0) 36 [_, _] dX12_cup_33 mt_X12_67 mi_X12_fails me_X12_fails (by first | assumption | rfl) (by rfl) rfl rfl (of_decide_eq_true rfl) rfl (by decide) rfl rfl rfl rfl (C_f0 e0 ?_)
          refine v_if_ne 71 39 dX12_cup_36 (by decide) rfl (fun c36 => ?_) (fun c36 => ?_)
          · first | exact absurd c36 (by decide) | exact absurd rfl c36 | exact absurd (of_decide_eq_true rfl) c36
          · refine v_aload_n 40 dX12_cup_39 rfl rfl ?_
            refine v_aload_n 41 dX12_cup_40 rfl rfl ?_
            refine v_getfr 44 dX12_cup_41 fl_X12_19 (by first | assumption | rfl) (by rfl) rfl ?_
            rw [R.1.1.2.2.2.1]
            refine v_iload_n 45 dX12_cup_44 rfl rfl ?_
            refine v_invf (z := ("java/util/ArrayList", TJx4a65c, 3)) (d' := 2) (k' := 0) (n' := 0) (k2 := 0) (n2 := 0) 50 [_] dX12_cup_45 mf_X12_90 md_Jx4a65c_get_915e3 mi_Jx4a65c_get_915e3 se_Jx4a65c_get_915e3 (by simp [g_fw]; rfl) ⟨by decide, by decide +kernel⟩ (by first | assumption | rfl) (by rfl) rfl rfl (of_decide_eq_true rfl) rfl (by decide) rfl rfl rfl rfl (C_gt (tl := 52) (ta := 58) rfl rfl R.2.1.2.2.1 (by assumption) ?_)
            refine v_cast 53 dX12_cup_50 ⟨_, _, rfl, rfl, cl_X12_129⟩ rfl ?_
            refine v_getfi 56 dX12_cup_53 fl_X12_210 (by first | assumption | rfl) (by rfl) rfl ?_
            rw [R.vi (t := 43) (by decide)]
            refine v_if_ne 63 59 dX12_cup_56 (by decide) rfl (fun c56 => ?_) (fun c56 => ?_)
            · refine v_iconstv (v := 0) 64 dX12_cup_63 (by decide) rfl ?_
              refine v_iconstv (v := 3) 65 dX12_cup_64 (by decide) rfl ?_
              refine v_invv (d' := 0) (k' := 0) (n' := 0) (k2 := 0) (n2 := 0) 68 [_, _] dX12_cup_65 mt_X12_67 mi_X12_fails me_X12_fails (by first | assumption | rfl) (by rfl) rfl rfl (of_decide_eq_true rfl) rfl (by decide) rfl rfl rfl rfl (C_f0 e0 ?_)
              refine v_if_eq 75 71 dX12_cup_68 (by decide) rfl (fun c68 => ?_) (fun c68 => ?_)
              · refine v_aload_n 76 dX12_cup_75 rfl rfl ?_
                refine v_getfr 79 dX12_cup_76 fl_X12_19 (by first | assumption | rfl) (by rfl) rfl ?_
                rw [R.1.1.2.2.2.1]
                refine v_iload_n 80 dX12_cup_79 rfl rfl ?_
                refine v_invf (z := ("java/util/ArrayList", TJx4a65c, 3)) (d' := 2) (k' := 0) (n' := 0) (k2 := 0) (n2 := 0) 85 [_] dX12_cup_80 mf_X12_90 md_Jx4a65c_get_915e3 mi_Jx4a65c_get_915e3 se_Jx4a65c_get_915e3 (by simp [g_fw]; rfl) ⟨by decide, by decide +kernel⟩ (by first | assumption | rfl) (by rfl) rfl rfl (of_decide_eq_true rfl) rfl (by decide) rfl rfl rfl rfl (C_gt (tl := 52) (ta := 58) rfl rfl R.2.1.2.2.1 (by assumption) ?_)
                refine v_cast 88 dX12_cup_85 ⟨_, _, rfl, rfl, cl_X12_129⟩ rfl ?_
                refine v_iload_n 89 dX12_cup_88 rfl rfl ?_
                refine v_invs (d' := 1) (k' := 0) (n' := 0) (k2 := 0) (n2 := 0) 92 [_, _] dX12_cup_89 mt_X12_248 ms_X12_cupOf rfl rfl (of_decide_eq_true rfl) rfl (by decide) rfl rfl rfl rfl (C_X12_cupOf R I hc.1 ?_)
                refine v_ireturn dX12_cup_92 rfl ?_
                have ev : op_cup S x a = (0, s_cu S (cl_ x) a) := by unfold op_cup; simp only [eq_true a6, eq_true a21, c56, ↓reduceIte, and_self, and_true, true_and, and_false, false_and, not_true_eq_false, not_false_eq_true]
                rw [ev] at hq
                exact hq _ _ (fun _ => rfl) R e0 ke0
              · first | exact absurd c68 (by decide) | exact absurd rfl c68 | exact absurd (of_decide_eq_true rfl) c68
            · refine v_iconstv (v := 1) 60 dX12_cup_59 (by decide) rfl ?_
              refine v_goto 64 dX12_cup_60 (by decide) ?_
              refine v_iconstv (v := 3) 65 dX12_cup_64 (by decide) rfl ?_
              refine v_invv (d' := 0) (k' := 0) (n' := 0) (k2 := 0) (n2 := 0) 68 [_, _] dX12_cup_65 mt_X12_67 mi_X12_fails me_X12_fails (by first | assumption | rfl) (by rfl) rfl rfl (of_decide_eq_true rfl) rfl (by decide) rfl rfl rfl rfl (C_f1 e0 (by decide) ?_)
              refine v_if_eq 75 71 dX12_cup_68 (by decide) rfl (fun c68 => ?_) (fun c68 => ?_)
              · first | exact absurd c68 (by decide) | exact absurd rfl c68 | exact absurd (of_decide_eq_true rfl) c68
              · refine v_iconstv (v := -1) 72 dX12_cup_71 (by decide) rfl ?_
                refine v_goto 92 dX12_cup_72 (by decide) ?_
                refine v_ireturn dX12_cup_92 rfl ?_
                have ev : op_cup S x a = (3, 0) := by unfold op_cup; simp only [eq_true a6, eq_true a21, c56, ↓reduceIte, and_self, and_true, true_and, and_false, false_and, not_true_eq_false, not_false_eq_true]
                rw [ev] at hq
                exact hq _ _ (fun e => absurd e (Nat.succ_ne_zero _)) R.th hp_seti_at (ke0.tr (ke_.i (by decide) (by decide)))
        · first | exact absurd c24 (by decide) | exact absurd rfl c24 | exact absurd (of_decide_eq_true rfl) c24
      · refine v_if_ne 31 27 dX12_cup_24 (by decide) rfl (fun c24 => ?_) (fun c24 => ?_)
        · first | exact absurd c24 (by decide) | exact absurd rfl c24 | exact absurd (of_decide_eq_true rfl) c24
        · refine v_iconstv (v := 1) 28 dX12_cup_27 (by decide) rfl ?_
          refine v_goto 32 dX12_cup_28 (by decide) ?_
          refine v_iconstv (v := 2) 33 dX12_cup_32 (by decide) rfl ?_
          refine v_invv (d' := 0) (k' := 0) (n' := 0) (k2 := 0) (n2 := 0) 36 [_, _] dX12_cup_33 mt_X12_67 mi_X12_fails me_X12_fails (by first | assumption | rfl) (by rfl) rfl rfl (of_decide_eq_true rfl) rfl (by decide) rfl rfl rfl rfl (C_f1 e0 (by decide) ?_)
          refine v_if_ne 71 39 dX12_cup_36 (by decide) rfl (fun c36 => ?_) (fun c36 => ?_)
          · refine v_iconstv (v := -1) 72 dX12_cup_71 (by decide) rfl ?_
            refine v_goto 92 dX12_cup_72 (by decide) ?_
            refine v_ireturn dX12_cup_92 rfl ?_
            have ev : op_cup S x a = (2, 0) := by unfold op_cup; simp only [eq_true a6, b21, ↓reduceIte, and_self, and_true, true_and, and_false, false_and, not_true_eq_false, not_false_eq_true]
            rw [ev] at hq
            exact hq _ _ (fun e => absurd e (Nat.succ_ne_zero _)) R.th hp_seti_at (ke0.tr (ke_.i (by decide) (by decide)))
          · first | exact absurd c36 (by decide) | exact absurd rfl c36 | exact absurd (of_decide_eq_true rfl) c36
  · refine v_if_ne 71 12 dX12_cup_9 (by decide) rfl (fun c9 => ?_) (fun c9 => ?_)
    · refine v_iconstv (v := -1) 72 dX12_cup_71 (by decide) rfl ?_
      refine v_goto 92 dX12_cup_72 (by decide) ?_
      refine v_ireturn dX12_cup_92 rfl ?_
      have ev : op_cup S x a = (1, 0) := by unfold op_cup; simp only [b6, ↓reduceIte, and_self, and_true, true_and, and_false, false_and, not_true_eq_false, not_false_eq_true]
      rw [ev] at hq
      exact hq _ _ (fun e => absurd e (Nat.succ_ne_zero _)) R.th hp_seti_at (ke0.tr (ke_.i (by decide) (by decide)))
    · first | exact absurd c9 (by decide) | exact absurd rfl c9 | exact absurd (of_decide_eq_true rfl) c9
set_option maxRecDepth 20000 in
theorem C_X12_isFlat_ {G : GW} {h : PH} {Q : RS → PH → Prop} {S : SP} {N : Nat} (R : Rp2 S h) (I : Iv S N) {x : Int32} (hq : ∀ v h', ((op_isFlat S x).1 = 0 → v = (op_isFlat S x).2) → Rp2 S h' → hp_vi h' 40 0 0 = nI (op_isFlat S x).1 → ke_ h h' → Q (.inl (some (pv_I v))) h') : VV G 9 0 0 yX12_isFlat_ cX12_isFlat_ 2 (some .boolean) [] 0 (vv_en 2 [pv_O (40, 0), pv_I x]) [] h Q := by
  show VV G 9 0 0 yX12_isFlat_ cX12_isFlat_ 2 (some .boolean) [] 0 [some (pv_O (40, 0)), some (pv_I x)] [] h Q
  obtain ⟨z0, z1, z2, z3, z4, z5⟩ := I.cs
  refine v_aload_n 1 dX12_isFlat__0 rfl rfl ?_
  refine v_invv (d' := 0) (k' := 0) (n' := 0) (k2 := 0) (n2 := 0) 4 [] dX12_isFlat__1 mt_X12_48 mi_X12_begins me_X12_begins (by first | assumption | rfl) (by rfl) rfl rfl (of_decide_eq_true rfl) rfl (by decide) rfl rfl rfl rfl (C2_begins R (fun h0 R e0 ke0 => ?_))
  refine v_aload_n 5 dX12_isFlat__4 rfl rfl ?_
  refine v_iload_n 6 dX12_isFlat__5 rfl rfl ?_
  refine v_invv (d' := 4) (k' := 0) (n' := 0) (k2 := 0) (n2 := 0) 9 [_] dX12_isFlat__6 mt_X12_171 mi_X12_noPanel me_X12_noPanel (by first | assumption | rfl) (by rfl) rfl rfl (of_decide_eq_true rfl) rfl (by decide) rfl rfl rfl rfl (C_X12_noPanel R e0 (fun a6 => ?_) (fun b6 => ?_))
  · have hc := a6.cl (by omega)
    refine v_if_ne 71 12 dX12_isFlat__9 (by decide) rfl (fun c9 => ?_) (fun c9 => ?_)
    · first | exact absurd c9 (by decide) | exact absurd rfl c9 | exact absurd (of_decide_eq_true rfl) c9
    · refine v_aload_n 13 dX12_isFlat__12 rfl rfl ?_
      refine v_aload_n 14 dX12_isFlat__13 rfl rfl ?_
      refine v_getfr 17 dX12_isFlat__14 fl_X12_19 (by first | assumption | rfl) (by rfl) rfl ?_
      rw [R.1.1.2.2.2.1]
      refine v_iload_n 18 dX12_isFlat__17 rfl rfl ?_
      refine v_invf (z := ("java/util/ArrayList", TJx4a65c, 3)) (d' := 2) (k' := 0) (n' := 0) (k2 := 0) (n2 := 0) 23 [_] dX12_isFlat__18 mf_X12_90 md_Jx4a65c_get_915e3 mi_Jx4a65c_get_915e3 se_Jx4a65c_get_915e3 (by simp [g_fw]; rfl) ⟨by decide, by decide +kernel⟩ (by first | assumption | rfl) (by rfl) rfl rfl (of_decide_eq_true rfl) rfl (by decide) rfl rfl rfl rfl (C_gt (tl := 52) (ta := 58) rfl rfl R.2.1.2.2.1 (by assumption) ?_)
      refine v_cast 26 dX12_isFlat__23 ⟨_, _, rfl, rfl, cl_X12_129⟩ rfl ?_
      refine v_getfi 29 dX12_isFlat__26 fl_X12_210 (by first | assumption | rfl) (by rfl) rfl ?_
      rw [R.vi (t := 43) (by decide)]
      refine v_if_ne 36 32 dX12_isFlat__29 (by decide) rfl (fun c29 => ?_) (fun c29 => ?_)
      · refine v_iconstv (v := 0) 37 dX12_isFlat__36 (by decide) rfl ?_
        refine v_iconstv (v := 2) 38 dX12_isFlat__37 (by decide) rfl ?_
        refine v_invv (d' := 0) (k' := 0) (n' := 0) (k2 := 0) (n2 := 0) 41 [_, _] dX12_isFlat__38 mt_X12_67 mi_X12_fails me_X12_fails (by first | assumption | rfl) (by rfl) rfl rfl (of_decide_eq_true rfl) rfl (by decide) rfl rfl rfl rfl (C_f0 e0 ?_)
        refine v_if_ne 71 44 dX12_isFlat__41 (by decide) rfl (fun c41 => ?_) (fun c41 => ?_)
        · first | exact absurd c41 (by decide) | exact absurd rfl c41 | exact absurd (of_decide_eq_true rfl) c41
        · refine v_aload_n 45 dX12_isFlat__44 rfl rfl ?_
          refine v_getfr 48 dX12_isFlat__45 fl_X12_19 (by first | assumption | rfl) (by rfl) rfl ?_
          rw [R.1.1.2.2.2.1]
          refine v_iload_n 49 dX12_isFlat__48 rfl rfl ?_
          refine v_invf (z := ("java/util/ArrayList", TJx4a65c, 3)) (d' := 2) (k' := 0) (n' := 0) (k2 := 0) (n2 := 0) 54 [_] dX12_isFlat__49 mf_X12_90 md_Jx4a65c_get_915e3 mi_Jx4a65c_get_915e3 se_Jx4a65c_get_915e3 (by simp [g_fw]; rfl) ⟨by decide, by decide +kernel⟩ (by first | assumption | rfl) (by rfl) rfl rfl (of_decide_eq_true rfl) rfl (by decide) rfl rfl rfl rfl (C_gt (tl := 52) (ta := 58) rfl rfl R.2.1.2.2.1 (by assumption) ?_)
          refine v_cast 57 dX12_isFlat__54 ⟨_, _, rfl, rfl, cl_X12_129⟩ rfl ?_
          refine v_aload_n 58 dX12_isFlat__57 rfl rfl ?_
          refine v_getfi 61 dX12_isFlat__58 fl_X12_28 (by first | assumption | rfl) (by rfl) rfl ?_
          rw [R.1.2 11 (by decide) (by decide)]
          refine v_invs (d' := 2) (k' := 0) (n' := 0) (k2 := 0) (n2 := 0) 64 [_, _] dX12_isFlat__61 mt_X12_255 ms_X12_isFlat rfl rfl (of_decide_eq_true rfl) rfl (by decide) rfl rfl rfl rfl (C_X12_isFlat R I hc.1 (fun g61 => ?_) (fun g61 => ?_))
          · refine v_if_eq 71 67 dX12_isFlat__64 (by decide) rfl (fun c64 => ?_) (fun c64 => ?_)
            · first | exact absurd c64 (by decide) | exact absurd rfl c64 | exact absurd (of_decide_eq_true rfl) c64
            · refine v_iconstv (v := 1) 68 dX12_isFlat__67 (by decide) rfl ?_
              refine v_goto 72 dX12_isFlat__68 (by decide) ?_
              refine v_zreturn (ty := .boolean) (by first | rfl | decide | exact nz_if | exact nz_fi) dX12_isFlat__72 rfl ?_
              have ev : op_isFlat S x = (0, if -3 ≤ s_cu S (cl_ x) (hp_vi S.1 40 0 11) ∧ s_cu S (cl_ x) (hp_vi S.1 40 0 11) ≤ 3 then 1 else 0) := by unfold op_isFlat; simp only [eq_true a6, c29, ↓reduceIte, and_self, and_true, true_and, and_false, false_and, not_true_eq_false, not_false_eq_true]
              rw [ev] at hq
              exact hq _ _ (fun _ => (by first | exact (if_pos g61).symm | exact (if_neg g61).symm)) R e0 ke0
          · refine v_if_eq 71 67 dX12_isFlat__64 (by decide) rfl (fun c64 => ?_) (fun c64 => ?_)
            · refine v_iconstv (v := 0) 72 dX12_isFlat__71 (by decide) rfl ?_
              refine v_zreturn (ty := .boolean) (by first | rfl | decide | exact nz_if | exact nz_fi) dX12_isFlat__72 rfl ?_
              have ev : op_isFlat S x = (0, if -3 ≤ s_cu S (cl_ x) (hp_vi S.1 40 0 11) ∧ s_cu S (cl_ x) (hp_vi S.1 40 0 11) ≤ 3 then 1 else 0) := by unfold op_isFlat; simp only [eq_true a6, c29, ↓reduceIte, and_self, and_true, true_and, and_false, false_and, not_true_eq_false, not_false_eq_true]
              rw [ev] at hq
              exact hq _ _ (fun _ => (by first | exact (if_pos g61).symm | exact (if_neg g61).symm)) R e0 ke0
            · first | exact absurd c64 (by decide) | exact absurd rfl c64 | exact absurd (of_decide_eq_true rfl) c64
      · refine v_iconstv (v := 1) 33 dX12_isFlat__32 (by decide) rfl ?_
        refine v_goto 37 dX12_isFlat__33 (by decide) ?_
        refine v_iconstv (v := 2) 38 dX12_isFlat__37 (by decide) rfl ?_
        refine v_invv (d' := 0) (k' := 0) (n' := 0) (k2 := 0) (n2 := 0) 41 [_, _] dX12_isFlat__38 mt_X12_67 mi_X12_fails me_X12_fails (by first | assumption | rfl) (by rfl) rfl rfl (of_decide_eq_true rfl) rfl (by decide) rfl rfl rfl rfl (C_f1 e0 (by decide) ?_)
        refine v_if_ne 71 44 dX12_isFlat__41 (by decide) rfl (fun c41 => ?_) (fun c41 => ?_)
        · refine v_iconstv (v := 0) 72 dX12_isFlat__71 (by decide) rfl ?_
          refine v_zreturn (ty := .boolean) (by first | rfl | decide | exact nz_if | exact nz_fi) dX12_isFlat__72 rfl ?_
          have ev : op_isFlat S x = (2, 0) := by unfold op_isFlat; simp only [eq_true a6, c29, ↓reduceIte, and_self, and_true, true_and, and_false, false_and, not_true_eq_false, not_false_eq_true]
          rw [ev] at hq
          exact hq _ _ (fun e => absurd e (Nat.succ_ne_zero _)) R.th hp_seti_at (ke0.tr (ke_.i (by decide) (by decide)))
        · first | exact absurd c41 (by decide) | exact absurd rfl c41 | exact absurd (of_decide_eq_true rfl) c41
  · refine v_if_ne 71 12 dX12_isFlat__9 (by decide) rfl (fun c9 => ?_) (fun c9 => ?_)
    · refine v_iconstv (v := 0) 72 dX12_isFlat__71 (by decide) rfl ?_
      refine v_zreturn (ty := .boolean) (by first | rfl | decide | exact nz_if | exact nz_fi) dX12_isFlat__72 rfl ?_
      have ev : op_isFlat S x = (1, 0) := by unfold op_isFlat; simp only [b6, ↓reduceIte, and_self, and_true, true_and, and_false, false_and, not_true_eq_false, not_false_eq_true]
      rw [ev] at hq
      exact hq _ _ (fun e => absurd e (Nat.succ_ne_zero _)) R.th hp_seti_at (ke0.tr (ke_.i (by decide) (by decide)))
    · first | exact absurd c9 (by decide) | exact absurd rfl c9 | exact absurd (of_decide_eq_true rfl) c9
set_option maxRecDepth 20000 in
theorem C_X12_isThrough {G : GW} {h : PH} {Q : RS → PH → Prop} {S : SP} {N : Nat} (R : Rp2 S h) (I : Iv S N) {x : Int32} (hq : ∀ v h', ((op_isThrough S x).1 = 0 → v = (op_isThrough S x).2) → Rp2 S h' → hp_vi h' 40 0 0 = nI (op_isThrough S x).1 → ke_ h h' → Q (.inl (some (pv_I v))) h') : VV G 9 0 0 yX12_isThrough cX12_isThrough 2 (some .boolean) [] 0 (vv_en 2 [pv_O (40, 0), pv_I x]) [] h Q := by
  show VV G 9 0 0 yX12_isThrough cX12_isThrough 2 (some .boolean) [] 0 [some (pv_O (40, 0)), some (pv_I x)] [] h Q
  obtain ⟨z0, z1, z2, z3, z4, z5⟩ := I.cs
  refine v_aload_n 1 dX12_isThrough_0 rfl rfl ?_
  refine v_invv (d' := 0) (k' := 0) (n' := 0) (k2 := 0) (n2 := 0) 4 [] dX12_isThrough_1 mt_X12_48 mi_X12_begins me_X12_begins (by first | assumption | rfl) (by rfl) rfl rfl (of_decide_eq_true rfl) rfl (by decide) rfl rfl rfl rfl (C2_begins R (fun h0 R e0 ke0 => ?_))
  refine v_aload_n 5 dX12_isThrough_4 rfl rfl ?_
  refine v_iload_n 6 dX12_isThrough_5 rfl rfl ?_
  refine v_invv (d' := 4) (k' := 0) (n' := 0) (k2 := 0) (n2 := 0) 9 [_] dX12_isThrough_6 mt_X12_171 mi_X12_noPanel me_X12_noPanel (by first | assumption | rfl) (by rfl) rfl rfl (of_decide_eq_true rfl) rfl (by decide) rfl rfl rfl rfl (C_X12_noPanel R e0 (fun a6 => ?_) (fun b6 => ?_))
  · have hc := a6.cl (by omega)
    refine v_if_ne 56 12 dX12_isThrough_9 (by decide) rfl (fun c9 => ?_) (fun c9 => ?_)
    · first | exact absurd c9 (by decide) | exact absurd rfl c9 | exact absurd (of_decide_eq_true rfl) c9
    · refine v_aload_n 13 dX12_isThrough_12 rfl rfl ?_
      refine v_getfr 16 dX12_isThrough_13 fl_X12_19 (by first | assumption | rfl) (by rfl) rfl ?_
      rw [R.1.1.2.2.2.1]
      refine v_iload_n 17 dX12_isThrough_16 rfl rfl ?_
      refine v_invf (z := ("java/util/ArrayList", TJx4a65c, 3)) (d' := 2) (k' := 0) (n' := 0) (k2 := 0) (n2 := 0) 22 [_] dX12_isThrough_17 mf_X12_90 md_Jx4a65c_get_915e3 mi_Jx4a65c_get_915e3 se_Jx4a65c_get_915e3 (by simp [g_fw]; rfl) ⟨by decide, by decide +kernel⟩ (by first | assumption | rfl) (by rfl) rfl rfl (of_decide_eq_true rfl) rfl (by decide) rfl rfl rfl rfl (C_gt (tl := 52) (ta := 58) rfl rfl R.2.1.2.2.1 (by assumption) ?_)
      refine v_cast 25 dX12_isThrough_22 ⟨_, _, rfl, rfl, cl_X12_129⟩ rfl ?_
      refine v_getfr 28 dX12_isThrough_25 fl_X12_186 (by first | assumption | rfl) (by rfl) rfl ?_
      rw [R.vr (t := 43) (by decide)]
      refine v_ifnull 56 31 dX12_isThrough_28 (by decide) rfl (fun c28 => ?_) (fun c28 => ?_)
      · refine v_iconstv (v := 0) 57 dX12_isThrough_56 (by decide) rfl ?_
        refine v_zreturn (ty := .boolean) (by first | rfl | decide | exact nz_if | exact nz_fi) dX12_isThrough_57 rfl ?_
        have ev : op_isThrough S x = (0, if ¬ (s_fa S (cl_ x)).1 = 0 ∧ s_lf S (cl_ x) ≤ 10 then 1 else 0) := by unfold op_isThrough; simp only [eq_true a6, ↓reduceIte, and_self, and_true, true_and, and_false, false_and, not_true_eq_false, not_false_eq_true]
        rw [ev] at hq
        exact hq _ _ (fun _ => (by first | exact (if_pos ⟨c28, Int32.not_lt.mp c49⟩).symm | exact (if_neg (fun q => absurd q.2 (Int32.not_le.mpr c49))).symm | exact (if_neg (fun q => q.1 c28)).symm)) R e0 ke0
      · refine v_aload_n 32 dX12_isThrough_31 rfl rfl ?_
        refine v_getfr 35 dX12_isThrough_32 fl_X12_19 (by first | assumption | rfl) (by rfl) rfl ?_
        rw [R.1.1.2.2.2.1]
        refine v_iload_n 36 dX12_isThrough_35 rfl rfl ?_
        refine v_invf (z := ("java/util/ArrayList", TJx4a65c, 3)) (d' := 2) (k' := 0) (n' := 0) (k2 := 0) (n2 := 0) 41 [_] dX12_isThrough_36 mf_X12_90 md_Jx4a65c_get_915e3 mi_Jx4a65c_get_915e3 se_Jx4a65c_get_915e3 (by simp [g_fw]; rfl) ⟨by decide, by decide +kernel⟩ (by first | assumption | rfl) (by rfl) rfl rfl (of_decide_eq_true rfl) rfl (by decide) rfl rfl rfl rfl (C_gt (tl := 52) (ta := 58) rfl rfl R.2.1.2.2.1 (by assumption) ?_)
        refine v_cast 44 dX12_isThrough_41 ⟨_, _, rfl, rfl, cl_X12_129⟩ rfl ?_
        refine v_invv (d' := 1) (k' := 0) (n' := 0) (k2 := 0) (n2 := 0) 47 [] dX12_isThrough_44 mt_X12_271 mi_X10_left me_X10_left (by first | assumption | rfl) (by rfl) rfl rfl (of_decide_eq_true rfl) rfl (by decide) rfl rfl rfl rfl (C_X10_left R (I.fa2 hc.1) ?_)
        refine v_bipushv (v := 10) 49 dX12_isThrough_47 (by decide) rfl ?_
        refine v_icmp_gt 56 52 dX12_isThrough_49 (by decide) rfl (fun c49 => ?_) (fun c49 => ?_)
        · refine v_iconstv (v := 0) 57 dX12_isThrough_56 (by decide) rfl ?_
          refine v_zreturn (ty := .boolean) (by first | rfl | decide | exact nz_if | exact nz_fi) dX12_isThrough_57 rfl ?_
          have ev : op_isThrough S x = (0, if ¬ (s_fa S (cl_ x)).1 = 0 ∧ s_lf S (cl_ x) ≤ 10 then 1 else 0) := by unfold op_isThrough; simp only [eq_true a6, ↓reduceIte, and_self, and_true, true_and, and_false, false_and, not_true_eq_false, not_false_eq_true]
          rw [ev] at hq
          exact hq _ _ (fun _ => (by first | exact (if_pos ⟨c28, Int32.not_lt.mp c49⟩).symm | exact (if_neg (fun q => absurd q.2 (Int32.not_le.mpr c49))).symm | exact (if_neg (fun q => q.1 c28)).symm)) R e0 ke0
        · refine v_iconstv (v := 1) 53 dX12_isThrough_52 (by decide) rfl ?_
          refine v_goto 57 dX12_isThrough_53 (by decide) ?_
          refine v_zreturn (ty := .boolean) (by first | rfl | decide | exact nz_if | exact nz_fi) dX12_isThrough_57 rfl ?_
          have ev : op_isThrough S x = (0, if ¬ (s_fa S (cl_ x)).1 = 0 ∧ s_lf S (cl_ x) ≤ 10 then 1 else 0) := by unfold op_isThrough; simp only [eq_true a6, ↓reduceIte, and_self, and_true, true_and, and_false, false_and, not_true_eq_false, not_false_eq_true]
          rw [ev] at hq
          exact hq _ _ (fun _ => (by first | exact (if_pos ⟨c28, Int32.not_lt.mp c49⟩).symm | exact (if_neg (fun q => absurd q.2 (Int32.not_le.mpr c49))).symm | exact (if_neg (fun q => q.1 c28)).symm)) R e0 ke0
  · refine v_if_ne 56 12 dX12_isThrough_9 (by decide) rfl (fun c9 => ?_) (fun c9 => ?_)
    · refine v_iconstv (v := 0) 57 dX12_isThrough_56 (by decide) rfl ?_
      refine v_zreturn (ty := .boolean) (by first | rfl | decide | exact nz_if | exact nz_fi) dX12_isThrough_57 rfl ?_
      have ev : op_isThrough S x = (1, 0) := by unfold op_isThrough; simp only [b6, ↓reduceIte, and_self, and_true, true_and, and_false, false_and, not_true_eq_false, not_false_eq_true]
      rw [ev] at hq
      exact hq _ _ (fun e => absurd e (Nat.succ_ne_zero _)) R.th hp_seti_at (ke0.tr (ke_.i (by decide) (by decide)))
    · first | exact absurd c9 (by decide) | exact absurd rfl c9 | exact absurd (of_decide_eq_true rfl) c9
set_option maxRecDepth 20000 in
theorem C_X12_ghosts {G : GW} {h : PH} {Q : RS → PH → Prop} {S : SP} {N : Nat} (R : Rp2 S h) (I : Iv S N) {x : Int32} (hq : ∀ v h', ((op_ghosts S x).1 = 0 → v = (op_ghosts S x).2) → Rp2 S h' → hp_vi h' 40 0 0 = nI (op_ghosts S x).1 → ke_ h h' → Q (.inl (some (pv_I v))) h') : VV G 9 0 0 yX12_ghosts cX12_ghosts 2 (some .int) [] 0 (vv_en 2 [pv_O (40, 0), pv_I x]) [] h Q := by
  show VV G 9 0 0 yX12_ghosts cX12_ghosts 2 (some .int) [] 0 [some (pv_O (40, 0)), some (pv_I x)] [] h Q
  obtain ⟨z0, z1, z2, z3, z4, z5⟩ := I.cs
  refine v_aload_n 1 dX12_ghosts_0 rfl rfl ?_
  refine v_invv (d' := 0) (k' := 0) (n' := 0) (k2 := 0) (n2 := 0) 4 [] dX12_ghosts_1 mt_X12_48 mi_X12_begins me_X12_begins (by first | assumption | rfl) (by rfl) rfl rfl (of_decide_eq_true rfl) rfl (by decide) rfl rfl rfl rfl (C2_begins R (fun h0 R e0 ke0 => ?_))
  refine v_aload_n 5 dX12_ghosts_4 rfl rfl ?_
  refine v_iload_n 6 dX12_ghosts_5 rfl rfl ?_
  refine v_invv (d' := 4) (k' := 0) (n' := 0) (k2 := 0) (n2 := 0) 9 [_] dX12_ghosts_6 mt_X12_171 mi_X12_noPanel me_X12_noPanel (by first | assumption | rfl) (by rfl) rfl rfl (of_decide_eq_true rfl) rfl (by decide) rfl rfl rfl rfl (C_X12_noPanel R e0 (fun a6 => ?_) (fun b6 => ?_))
  · refine v_if_eq 16 12 dX12_ghosts_9 (by decide) rfl (fun c9 => ?_) (fun c9 => ?_)
    · refine v_aload_n 17 dX12_ghosts_16 rfl rfl ?_
      refine v_getfr 20 dX12_ghosts_17 fl_X12_19 (by first | assumption | rfl) (by rfl) rfl ?_
      rw [R.1.1.2.2.2.1]
      refine v_iload_n 21 dX12_ghosts_20 rfl rfl ?_
      refine v_invf (z := ("java/util/ArrayList", TJx4a65c, 3)) (d' := 2) (k' := 0) (n' := 0) (k2 := 0) (n2 := 0) 26 [_] dX12_ghosts_21 mf_X12_90 md_Jx4a65c_get_915e3 mi_Jx4a65c_get_915e3 se_Jx4a65c_get_915e3 (by simp [g_fw]; rfl) ⟨by decide, by decide +kernel⟩ (by first | assumption | rfl) (by rfl) rfl rfl (of_decide_eq_true rfl) rfl (by decide) rfl rfl rfl rfl (C_gt (tl := 52) (ta := 58) rfl rfl R.2.1.2.2.1 (by assumption) ?_)
      refine v_cast 29 dX12_ghosts_26 ⟨_, _, rfl, rfl, cl_X12_129⟩ rfl ?_
      refine v_getfi 32 dX12_ghosts_29 fl_X12_285 (by first | assumption | rfl) (by rfl) rfl ?_
      rw [R.vi (t := 43) (by decide)]
      refine v_ireturn dX12_ghosts_32 rfl ?_
      have ev : op_ghosts S x = (0, hp_vi S.1 43 (cl_ x) 11) := by unfold op_ghosts; simp only [eq_true a6, ↓reduceIte, and_self, and_true, true_and, and_false, false_and, not_true_eq_false, not_false_eq_true]
      rw [ev] at hq
      exact hq _ _ (fun _ => rfl) R e0 ke0
    · first | exact absurd c9 (by decide) | exact absurd rfl c9 | exact absurd (of_decide_eq_true rfl) c9
  · refine v_if_eq 16 12 dX12_ghosts_9 (by decide) rfl (fun c9 => ?_) (fun c9 => ?_)
    · first | exact absurd c9 (by decide) | exact absurd rfl c9 | exact absurd (of_decide_eq_true rfl) c9
    · refine v_iconstv (v := -1) 13 dX12_ghosts_12 (by decide) rfl ?_
      refine v_goto 32 dX12_ghosts_13 (by decide) ?_
      refine v_ireturn dX12_ghosts_32 rfl ?_
      have ev : op_ghosts S x = (1, 0) := by unfold op_ghosts; simp only [b6, ↓reduceIte, and_self, and_true, true_and, and_false, false_and, not_true_eq_false, not_false_eq_true]
      rw [ev] at hq
      exact hq _ _ (fun e => absurd e (Nat.succ_ne_zero _)) R.th hp_seti_at (ke0.tr (ke_.i (by decide) (by decide)))
set_option maxRecDepth 20000 in
theorem C_X12_price {G : GW} {h : PH} {Q : RS → PH → Prop} {S : SP} {N : Nat} (R : Rp2 S h) (I : Iv S N) {x : Int32} (hq : ∀ v h', ((op_price S x).1 = 0 → v = (op_price S x).2) → Rp2 S h' → hp_vi h' 40 0 0 = nI (op_price S x).1 → ke_ h h' → Q (.inl (some (pv_I v))) h') : VV G 9 0 0 yX12_price cX12_price 2 (some .int) [] 0 (vv_en 2 [pv_O (40, 0), pv_I x]) [] h Q := by
  show VV G 9 0 0 yX12_price cX12_price 2 (some .int) [] 0 [some (pv_O (40, 0)), some (pv_I x)] [] h Q
  obtain ⟨z0, z1, z2, z3, z4, z5⟩ := I.cs
  refine v_aload_n 1 dX12_price_0 rfl rfl ?_
  refine v_invv (d' := 0) (k' := 0) (n' := 0) (k2 := 0) (n2 := 0) 4 [] dX12_price_1 mt_X12_48 mi_X12_begins me_X12_begins (by first | assumption | rfl) (by rfl) rfl rfl (of_decide_eq_true rfl) rfl (by decide) rfl rfl rfl rfl (C2_begins R (fun h0 R e0 ke0 => ?_))
  refine v_aload_n 5 dX12_price_4 rfl rfl ?_
  refine v_iload_n 6 dX12_price_5 rfl rfl ?_
  refine v_invv (d' := 4) (k' := 0) (n' := 0) (k2 := 0) (n2 := 0) 9 [_] dX12_price_6 mt_X12_171 mi_X12_noPanel me_X12_noPanel (by first | assumption | rfl) (by rfl) rfl rfl (of_decide_eq_true rfl) rfl (by decide) rfl rfl rfl rfl (C_X12_noPanel R e0 (fun a6 => ?_) (fun b6 => ?_))
  · have hc := a6.cl (by omega)
    refine v_if_eq 16 12 dX12_price_9 (by decide) rfl (fun c9 => ?_) (fun c9 => ?_)
    · refine v_aload_n 17 dX12_price_16 rfl rfl ?_
      refine v_getfr 20 dX12_price_17 fl_X12_19 (by first | assumption | rfl) (by rfl) rfl ?_
      rw [R.1.1.2.2.2.1]
      refine v_iload_n 21 dX12_price_20 rfl rfl ?_
      refine v_invf (z := ("java/util/ArrayList", TJx4a65c, 3)) (d' := 2) (k' := 0) (n' := 0) (k2 := 0) (n2 := 0) 26 [_] dX12_price_21 mf_X12_90 md_Jx4a65c_get_915e3 mi_Jx4a65c_get_915e3 se_Jx4a65c_get_915e3 (by simp [g_fw]; rfl) ⟨by decide, by decide +kernel⟩ (by first | assumption | rfl) (by rfl) rfl rfl (of_decide_eq_true rfl) rfl (by decide) rfl rfl rfl rfl (C_gt (tl := 52) (ta := 58) rfl rfl R.2.1.2.2.1 (by assumption) ?_)
      refine v_cast 29 dX12_price_26 ⟨_, _, rfl, rfl, cl_X12_129⟩ rfl ?_
      refine v_invs (d' := 1) (k' := 0) (n' := 0) (k2 := 0) (n2 := 0) 32 [_] dX12_price_29 mt_X12_378 ms_X12_priceOf rfl rfl (of_decide_eq_true rfl) rfl (by decide) rfl rfl rfl rfl (C_X12_priceOf R I hc.1 ?_)
      refine v_ireturn dX12_price_32 rfl ?_
      have ev : op_price S x = (0, s_wo S (cl_ x)) := by unfold op_price; simp only [eq_true a6, ↓reduceIte, and_self, and_true, true_and, and_false, false_and, not_true_eq_false, not_false_eq_true]
      rw [ev] at hq
      exact hq _ _ (fun _ => rfl) R e0 ke0
    · first | exact absurd c9 (by decide) | exact absurd rfl c9 | exact absurd (of_decide_eq_true rfl) c9
  · refine v_if_eq 16 12 dX12_price_9 (by decide) rfl (fun c9 => ?_) (fun c9 => ?_)
    · first | exact absurd c9 (by decide) | exact absurd rfl c9 | exact absurd (of_decide_eq_true rfl) c9
    · refine v_iconstv (v := -1) 13 dX12_price_12 (by decide) rfl ?_
      refine v_goto 32 dX12_price_13 (by decide) ?_
      refine v_ireturn dX12_price_32 rfl ?_
      have ev : op_price S x = (1, 0) := by unfold op_price; simp only [b6, ↓reduceIte, and_self, and_true, true_and, and_false, false_and, not_true_eq_false, not_false_eq_true]
      rw [ev] at hq
      exact hq _ _ (fun e => absurd e (Nat.succ_ne_zero _)) R.th hp_seti_at (ke0.tr (ke_.i (by decide) (by decide)))
set_option maxRecDepth 20000 in
theorem C_X12_fieldAt {G : GW} {h : PH} {Q : RS → PH → Prop} {S : SP} {N : Nat} (R : Rp2 S h) (I : Iv S N) {x a b : Int32} (hq : ∀ v h', ((op_fieldAt S x a b).1 = 0 → v = (op_fieldAt S x a b).2) → Rp2 S h' → hp_vi h' 40 0 0 = nI (op_fieldAt S x a b).1 → ke_ h h' → Q (.inl (some (pv_I v))) h') : VV G 9 0 0 yX12_fieldAt cX12_fieldAt 4 (some .char) [] 0 (vv_en 4 [pv_O (40, 0), pv_I x, pv_I a, pv_I b]) [] h Q := by
  show VV G 9 0 0 yX12_fieldAt cX12_fieldAt 4 (some .char) [] 0 [some (pv_O (40, 0)), some (pv_I x), some (pv_I a), some (pv_I b)] [] h Q
  obtain ⟨z0, z1, z2, z3, z4, z5⟩ := I.cs
  refine v_aload_n 1 dX12_fieldAt_0 rfl rfl ?_
  refine v_invv (d' := 0) (k' := 0) (n' := 0) (k2 := 0) (n2 := 0) 4 [] dX12_fieldAt_1 mt_X12_48 mi_X12_begins me_X12_begins (by first | assumption | rfl) (by rfl) rfl rfl (of_decide_eq_true rfl) rfl (by decide) rfl rfl rfl rfl (C2_begins R (fun h0 R e0 ke0 => ?_))
  refine v_aload_n 5 dX12_fieldAt_4 rfl rfl ?_
  refine v_iload_n 6 dX12_fieldAt_5 rfl rfl ?_
  refine v_iload_n 7 dX12_fieldAt_6 rfl rfl ?_
  refine v_iload_n 8 dX12_fieldAt_7 rfl rfl ?_
  refine v_invv (d' := 4) (k' := 0) (n' := 0) (k2 := 0) (n2 := 0) 11 [_, _, _] dX12_fieldAt_8 mt_X12_328 mi_X12_noPlace me_X12_noPlace (by first | assumption | rfl) (by rfl) rfl rfl (of_decide_eq_true rfl) rfl (by decide) rfl rfl rfl rfl (C_X12_noPlace R e0 (fun a8 => ?_) (fun b8 => ?_))
  · obtain ⟨k9, hk9, ek, ec⟩ := pl_ a8.2
    have hc := a8.1.cl (by omega)
    obtain ⟨⟨i1, i2, i3, i4, i5, i6, i7⟩, -, I2, -⟩ := I.2.2.2.2.1 _ hc.1
    obtain ⟨w, hw, hw8⟩ := I2 k9 hk9
    refine v_if_eq 19 14 dX12_fieldAt_11 (by decide) rfl (fun c11 => ?_) (fun c11 => ?_)
    · refine v_bipushv (v := 97) 21 dX12_fieldAt_19 (by decide) rfl ?_
      refine v_aload_n 22 dX12_fieldAt_21 rfl rfl ?_
      refine v_getfr 25 dX12_fieldAt_22 fl_X12_32 (by first | assumption | rfl) (by rfl) rfl ?_
      rw [R.1.1.2.2.2.2.2.2]
      refine v_iload_n 26 dX12_fieldAt_25 rfl rfl ?_
      refine v_invf (z := ("java/util/ArrayList", TJx4a65c, 3)) (d' := 2) (k' := 0) (n' := 0) (k2 := 0) (n2 := 0) 31 [_] dX12_fieldAt_26 mf_X12_90 md_Jx4a65c_get_915e3 mi_Jx4a65c_get_915e3 se_Jx4a65c_get_915e3 (by simp [g_fw]; rfl) ⟨by decide, by decide +kernel⟩ (by first | assumption | rfl) (by rfl) rfl rfl (of_decide_eq_true rfl) rfl (by decide) rfl rfl rfl rfl (C_gt (tl := 55) (ta := 61) rfl rfl R.2.1.2.2.2.2.2 a8.1 ?_)
      refine v_cast 34 dX12_fieldAt_31 ⟨_, _, rfl, rfl, cl_X12_304⟩ rfl ?_
      refine v_getfr 37 dX12_fieldAt_34 fl_X12_317 (by first | assumption | rfl) (by rfl) rfl ?_
      rw [R.vr (t := 44) (by decide), i4]
      refine v_bipushv (v := 8) 39 dX12_fieldAt_37 (by decide) rfl ?_
      refine v_iload_n 40 dX12_fieldAt_39 rfl rfl ?_
      refine v_imul 41 dX12_fieldAt_40 rfl ?_
      rw [Int32.mul_comm]
      refine v_iload_n 42 dX12_fieldAt_41 rfl rfl ?_
      refine v_iadd 43 dX12_fieldAt_42 rfl ?_
      rw [ek]
      refine v_iald 44 dX12_fieldAt_43 (by first | assumption | rfl) (by rw [R.ln (t := 63) (by decide), i6]; exact in_nI hk9 (by omega)) rfl ?_
      rw [nI_clamp (by omega), R.vi (t := 63) (by decide), hw]
      refine v_iadd 45 dX12_fieldAt_44 rfl ?_
      rw [show (97 : Int32) + nI w = nI (97 + w) from nI_add 97 w]
      refine v_i2c 46 dX12_fieldAt_45 rfl ?_
      rw [ch_ (by omega)]
      refine v_zreturn (ty := .char) (by first | rfl | exact (pk_charN (by omega)).1) dX12_fieldAt_46 rfl ?_
      have ev : op_fieldAt S x a b = (0, 97 + hp_vi S.1 63 (cl_ x) (cl_ (a * 8 + b))) := by unfold op_fieldAt; simp only [eq_true a8, ↓reduceIte, and_self, and_true, true_and, and_false, false_and, not_true_eq_false, not_false_eq_true]
      rw [ev] at hq
      exact hq _ _ (fun _ => (by rw [ec, hw]; exact (nI_add 97 w).symm)) R e0 ke0
    · first | exact absurd c11 (by decide) | exact absurd rfl c11 | exact absurd (of_decide_eq_true rfl) c11
  · refine v_if_eq 19 14 dX12_fieldAt_11 (by decide) rfl (fun c11 => ?_) (fun c11 => ?_)
    · first | exact absurd c11 (by decide) | exact absurd rfl c11 | exact absurd (of_decide_eq_true rfl) c11
    · refine v_bipushv (v := 32) 16 dX12_fieldAt_14 (by decide) rfl ?_
      refine v_goto 46 dX12_fieldAt_16 (by decide) ?_
      refine v_zreturn (ty := .char) (by first | rfl | exact (pk_charN (by omega)).1) dX12_fieldAt_46 rfl ?_
      have ev : op_fieldAt S x a b = (1, 0) := by unfold op_fieldAt; simp only [b8, ↓reduceIte, and_self, and_true, true_and, and_false, false_and, not_true_eq_false, not_false_eq_true]
      rw [ev] at hq
      exact hq _ _ (fun e => absurd e (Nat.succ_ne_zero _)) R.th hp_seti_at (ke0.tr (ke_.i (by decide) (by decide)))
set_option maxRecDepth 20000 in
theorem C_X12_leafAt {G : GW} {h : PH} {Q : RS → PH → Prop} {S : SP} {N : Nat} (R : Rp2 S h) (I : Iv S N) {x c a b : Int32} (hq : ∀ v h', ((op_leafAt S x c a b).1 = 0 → v = (op_leafAt S x c a b).2) → Rp2 S h' → hp_vi h' 40 0 0 = nI (op_leafAt S x c a b).1 → ke_ h h' → Q (.inl (some (pv_I v))) h') : VV G 9 0 0 yX12_leafAt cX12_leafAt 5 (some .int) [] 0 (vv_en 5 [pv_O (40, 0), pv_I x, pv_I c, pv_I a, pv_I b]) [] h Q := by
  show VV G 9 0 0 yX12_leafAt cX12_leafAt 5 (some .int) [] 0 [some (pv_O (40, 0)), some (pv_I x), some (pv_I c), some (pv_I a), some (pv_I b)] [] h Q
  obtain ⟨z0, z1, z2, z3, z4, z5⟩ := I.cs
  refine v_aload_n 1 dX12_leafAt_0 rfl rfl ?_
  refine v_invv (d' := 0) (k' := 0) (n' := 0) (k2 := 0) (n2 := 0) 4 [] dX12_leafAt_1 mt_X12_48 mi_X12_begins me_X12_begins (by first | assumption | rfl) (by rfl) rfl rfl (of_decide_eq_true rfl) rfl (by decide) rfl rfl rfl rfl (C2_begins R (fun h0 R e0 ke0 => ?_))
  refine v_aload_n 5 dX12_leafAt_4 rfl rfl ?_
  refine v_iload_n 6 dX12_leafAt_5 rfl rfl ?_
  refine v_iload_n 7 dX12_leafAt_6 rfl rfl ?_
  refine v_iload 9 dX12_leafAt_7 rfl rfl ?_
  refine v_invv (d' := 4) (k' := 0) (n' := 0) (k2 := 0) (n2 := 0) 12 [_, _, _] dX12_leafAt_9 mt_X12_328 mi_X12_noPlace me_X12_noPlace (by first | assumption | rfl) (by rfl) rfl rfl (of_decide_eq_true rfl) rfl (by decide) rfl rfl rfl rfl (C_X12_noPlace R e0 (fun a9 => ?_) (fun b9 => ?_))
  · obtain ⟨k9, hk9, ek, ec⟩ := pl_ a9.2
    have hc := a9.1.cl (by omega)
    obtain ⟨⟨i1, i2, i3, i4, i5, i6, i7⟩, -, I2, -⟩ := I.2.2.2.2.1 _ hc.1
    refine v_if_ne 24 15 dX12_leafAt_12 (by decide) rfl (fun c12 => ?_) (fun c12 => ?_)
    · first | exact absurd c12 (by decide) | exact absurd rfl c12 | exact absurd (of_decide_eq_true rfl) c12
    · refine v_aload_n 16 dX12_leafAt_15 rfl rfl ?_
      refine v_iload_n 17 dX12_leafAt_16 rfl rfl ?_
      refine v_iload_n 18 dX12_leafAt_17 rfl rfl ?_
      refine v_invv (d' := 4) (k' := 0) (n' := 0) (k2 := 0) (n2 := 0) 21 [_, _] dX12_leafAt_18 mt_X12_339 mi_X12_noCopy me_X12_noCopy (by first | assumption | rfl) (by rfl) rfl rfl (of_decide_eq_true rfl) rfl (by decide) rfl rfl rfl rfl (C_X12_noCopy R I e0 a9.1 (fun a18 => ?_) (fun b18 => ?_))
      · refine v_if_eq 28 24 dX12_leafAt_21 (by decide) rfl (fun c21 => ?_) (fun c21 => ?_)
        · refine v_aload_n 29 dX12_leafAt_28 rfl rfl ?_
          refine v_getfr 32 dX12_leafAt_29 fl_X12_32 (by first | assumption | rfl) (by rfl) rfl ?_
          rw [R.1.1.2.2.2.2.2.2]
          refine v_iload_n 33 dX12_leafAt_32 rfl rfl ?_
          refine v_invf (z := ("java/util/ArrayList", TJx4a65c, 3)) (d' := 2) (k' := 0) (n' := 0) (k2 := 0) (n2 := 0) 38 [_] dX12_leafAt_33 mf_X12_90 md_Jx4a65c_get_915e3 mi_Jx4a65c_get_915e3 se_Jx4a65c_get_915e3 (by simp [g_fw]; rfl) ⟨by decide, by decide +kernel⟩ (by first | assumption | rfl) (by rfl) rfl rfl (of_decide_eq_true rfl) rfl (by decide) rfl rfl rfl rfl (C_gt (tl := 55) (ta := 61) rfl rfl R.2.1.2.2.2.2.2 a9.1 ?_)
          refine v_cast 41 dX12_leafAt_38 ⟨_, _, rfl, rfl, cl_X12_304⟩ rfl ?_
          refine v_iload_n 42 dX12_leafAt_41 rfl rfl ?_
          refine v_bipushv (v := 8) 44 dX12_leafAt_42 (by decide) rfl ?_
          refine v_iload_n 45 dX12_leafAt_44 rfl rfl ?_
          refine v_imul 46 dX12_leafAt_45 rfl ?_
          rw [Int32.mul_comm]
          refine v_iload 48 dX12_leafAt_46 rfl rfl ?_
          refine v_iadd 49 dX12_leafAt_48 rfl ?_
          rw [ek]
          refine v_invs (d' := 0) (k' := 0) (n' := 0) (k2 := 0) (n2 := 0) 52 [_, _, _] dX12_leafAt_49 mt_X12_342 ms_X12_leafOf rfl rfl (of_decide_eq_true rfl) rfl (by decide) rfl rfl rfl rfl (C_X12_leafOf R I hc.1 hk9 a18.1 ?_)
          refine v_ireturn dX12_leafAt_52 rfl ?_
          have ev : op_leafAt S x c a b = (0, s_lo S (cl_ x) c (cl_ (a * 8 + b))) := by unfold op_leafAt; simp only [eq_true a9, eq_true a18, ↓reduceIte, and_self, and_true, true_and, and_false, false_and, not_true_eq_false, not_false_eq_true]
          rw [ev] at hq
          exact hq _ _ (fun _ => (by rw [ec])) R e0 ke0
        · first | exact absurd c21 (by decide) | exact absurd rfl c21 | exact absurd (of_decide_eq_true rfl) c21
      · refine v_if_eq 28 24 dX12_leafAt_21 (by decide) rfl (fun c21 => ?_) (fun c21 => ?_)
        · first | exact absurd c21 (by decide) | exact absurd rfl c21 | exact absurd (of_decide_eq_true rfl) c21
        · refine v_iconstv (v := -1) 25 dX12_leafAt_24 (by decide) rfl ?_
          refine v_goto 52 dX12_leafAt_25 (by decide) ?_
          refine v_ireturn dX12_leafAt_52 rfl ?_
          have ev : op_leafAt S x c a b = (2, 0) := by unfold op_leafAt; simp only [eq_true a9, b18, ↓reduceIte, and_self, and_true, true_and, and_false, false_and, not_true_eq_false, not_false_eq_true]
          rw [ev] at hq
          exact hq _ _ (fun e => absurd e (Nat.succ_ne_zero _)) R.th hp_seti_at (ke0.tr (ke_.i (by decide) (by decide)))
  · refine v_if_ne 24 15 dX12_leafAt_12 (by decide) rfl (fun c12 => ?_) (fun c12 => ?_)
    · refine v_iconstv (v := -1) 25 dX12_leafAt_24 (by decide) rfl ?_
      refine v_goto 52 dX12_leafAt_25 (by decide) ?_
      refine v_ireturn dX12_leafAt_52 rfl ?_
      have ev : op_leafAt S x c a b = (1, 0) := by unfold op_leafAt; simp only [b9, ↓reduceIte, and_self, and_true, true_and, and_false, false_and, not_true_eq_false, not_false_eq_true]
      rw [ev] at hq
      exact hq _ _ (fun e => absurd e (Nat.succ_ne_zero _)) R.th hp_seti_at (ke0.tr (ke_.i (by decide) (by decide)))
    · first | exact absurd c12 (by decide) | exact absurd rfl c12 | exact absurd (of_decide_eq_true rfl) c12
set_option maxRecDepth 20000 in
theorem C_X12_gap {G : GW} {h : PH} {Q : RS → PH → Prop} {S : SP} {N : Nat} (R : Rp2 S h) (I : Iv S N) {x a b : Int32} (hq : ∀ v h', ((op_gap x a b).1 = 0 → v = (op_gap x a b).2) → Rp2 S h' → hp_vi h' 40 0 0 = nI (op_gap x a b).1 → ke_ h h' → Q (.inl (some (pv_I v))) h') : VV G 9 0 0 yX12_gap cX12_gap 4 (some .int) [] 0 (vv_en 4 [pv_O (40, 0), pv_I x, pv_I a, pv_I b]) [] h Q := by
  show VV G 9 0 0 yX12_gap cX12_gap 4 (some .int) [] 0 [some (pv_O (40, 0)), some (pv_I x), some (pv_I a), some (pv_I b)] [] h Q
  obtain ⟨z0, z1, z2, z3, z4, z5⟩ := I.cs
  refine v_aload_n 1 dX12_gap_0 rfl rfl ?_
  refine v_invv (d' := 0) (k' := 0) (n' := 0) (k2 := 0) (n2 := 0) 4 [] dX12_gap_1 mt_X12_48 mi_X12_begins me_X12_begins (by first | assumption | rfl) (by rfl) rfl rfl (of_decide_eq_true rfl) rfl (by decide) rfl rfl rfl rfl (C2_begins R (fun h0 R e0 ke0 => ?_))
  refine v_aload_n 5 dX12_gap_4 rfl rfl ?_
  refine v_iload_n 6 dX12_gap_5 rfl rfl ?_
  refine v_i2l 7 dX12_gap_6 rfl ?_
  refine v_lconst (v := 1) 8 dX12_gap_7 (by decide) rfl ?_
  refine v_ldc2 11 dX12_gap_8 cn_X12_218 rfl rfl ?_
  refine v_invs (d' := 0) (k' := 0) (n' := 0) (k2 := 0) (n2 := 0) 14 [_, _, _] dX12_gap_11 mt_X12_44 ms_X12_in rfl rfl (of_decide_eq_true rfl) rfl (by decide) rfl rfl rfl rfl (C_in2 (lo := 1) (hi := 99) rfl (by decide) (by decide) (fun a11 => ?_) (fun b11 => ?_))
  · refine v_if_eq 43 17 dX12_gap_14 (by decide) rfl (fun c14 => ?_) (fun c14 => ?_)
    · first | exact absurd c14 (by decide) | exact absurd rfl c14 | exact absurd (of_decide_eq_true rfl) c14
    · refine v_iload_n 18 dX12_gap_17 rfl rfl ?_
      refine v_i2l 19 dX12_gap_18 rfl ?_
      refine v_ldc2 22 dX12_gap_19 cn_X12_86 rfl rfl ?_
      refine v_ldc2 25 dX12_gap_22 cn_X12_88 rfl rfl ?_
      refine v_invs (d' := 0) (k' := 0) (n' := 0) (k2 := 0) (n2 := 0) 28 [_, _, _] dX12_gap_25 mt_X12_44 ms_X12_in rfl rfl (of_decide_eq_true rfl) rfl (by decide) rfl rfl rfl rfl (C_in2 (lo := 5) (hi := 30) rfl (by decide) (by decide) (fun a25 => ?_) (fun b25 => ?_))
      · refine v_if_eq 43 31 dX12_gap_28 (by decide) rfl (fun c28 => ?_) (fun c28 => ?_)
        · first | exact absurd c28 (by decide) | exact absurd rfl c28 | exact absurd (of_decide_eq_true rfl) c28
        · refine v_iload_n 32 dX12_gap_31 rfl rfl ?_
          refine v_i2l 33 dX12_gap_32 rfl ?_
          refine v_lconst (v := 0) 34 dX12_gap_33 (by decide) rfl ?_
          refine v_ldc2 37 dX12_gap_34 cn_X12_354 rfl rfl ?_
          refine v_invs (d' := 0) (k' := 0) (n' := 0) (k2 := 0) (n2 := 0) 40 [_, _, _] dX12_gap_37 mt_X12_44 ms_X12_in rfl rfl (of_decide_eq_true rfl) rfl (by decide) rfl rfl rfl rfl (C_in2 (lo := 0) (hi := 15) rfl (by decide) (by decide) (fun a37 => ?_) (fun b37 => ?_))
          · refine v_if_ne 47 43 dX12_gap_40 (by decide) rfl (fun c40 => ?_) (fun c40 => ?_)
            · refine v_iconstv (v := 0) 48 dX12_gap_47 (by decide) rfl ?_
              refine v_iconstv (v := 1) 49 dX12_gap_48 (by decide) rfl ?_
              refine v_invv (d' := 0) (k' := 0) (n' := 0) (k2 := 0) (n2 := 0) 52 [_, _] dX12_gap_49 mt_X12_67 mi_X12_fails me_X12_fails (by first | assumption | rfl) (by rfl) rfl rfl (of_decide_eq_true rfl) rfl (by decide) rfl rfl rfl rfl (C_f0 e0 ?_)
              refine v_if_eq 57 55 dX12_gap_52 (by decide) rfl (fun c52 => ?_) (fun c52 => ?_)
              · refine v_iconstv (v := 0) 58 dX12_gap_57 (by decide) rfl ?_
                refine v_iload_n 59 dX12_gap_58 rfl rfl ?_
                refine v_bipushv (v := 10) 61 dX12_gap_59 (by decide) rfl ?_
                refine v_iload_n 62 dX12_gap_61 rfl rfl ?_
                refine v_imul 63 dX12_gap_62 rfl ?_
                refine v_gets (z := (RX12, "TANGENTS", "[I", pv_O (3, 3))) 66 dX12_gap_63 gs_X12_356 (by simp [g_st]) (by intro r hr; cases hr; decide) rfl ?_
                dsimp only
                refine VV.know (fun ho9 _ _ => ?_)
                refine v_iload_n 67 dX12_gap_66 rfl rfl ?_
                refine v_iald 68 dX12_gap_67 (by first | assumption | rfl) (by rw [(ho9.2.2.2.1 3).1]; exact i16_ a37) rfl ?_
                rw [(ho9.2.2.2.1 3).2]
                refine v_imul 69 dX12_gap_68 rfl ?_
                refine v_sipushv (v := 1000) 72 dX12_gap_69 (by decide) rfl ?_
                refine v_idiv 73 dX12_gap_72 (by decide) rfl ?_
                refine v_isub 74 dX12_gap_73 rfl ?_
                refine v_max 77 dX12_gap_74 ma_X12_268 ma_s_max ma_i rfl (by decide) rfl ?_
                refine v_ireturn dX12_gap_77 rfl ?_
                have ev : op_gap x a b = (0, mx 0 (x - 10 * a * g_T.getD (cl_ b) 0 / 1000)) := by unfold op_gap; simp only [eq_true a11, eq_true a25, eq_true a37, ↓reduceIte, and_self, and_true, true_and, and_false, false_and, not_true_eq_false, not_false_eq_true]
                rw [ev] at hq
                exact hq _ _ (fun _ => rfl) R e0 ke0
              · first | exact absurd c52 (by decide) | exact absurd rfl c52 | exact absurd (of_decide_eq_true rfl) c52
            · first | exact absurd c40 (by decide) | exact absurd rfl c40 | exact absurd (of_decide_eq_true rfl) c40
          · refine v_if_ne 47 43 dX12_gap_40 (by decide) rfl (fun c40 => ?_) (fun c40 => ?_)
            · first | exact absurd c40 (by decide) | exact absurd rfl c40 | exact absurd (of_decide_eq_true rfl) c40
            · refine v_iconstv (v := 1) 44 dX12_gap_43 (by decide) rfl ?_
              refine v_goto 48 dX12_gap_44 (by decide) ?_
              refine v_iconstv (v := 1) 49 dX12_gap_48 (by decide) rfl ?_
              refine v_invv (d' := 0) (k' := 0) (n' := 0) (k2 := 0) (n2 := 0) 52 [_, _] dX12_gap_49 mt_X12_67 mi_X12_fails me_X12_fails (by first | assumption | rfl) (by rfl) rfl rfl (of_decide_eq_true rfl) rfl (by decide) rfl rfl rfl rfl (C_f1 e0 (by decide) ?_)
              refine v_if_eq 57 55 dX12_gap_52 (by decide) rfl (fun c52 => ?_) (fun c52 => ?_)
              · first | exact absurd c52 (by decide) | exact absurd rfl c52 | exact absurd (of_decide_eq_true rfl) c52
              · refine v_iconstv (v := -1) 56 dX12_gap_55 (by decide) rfl ?_
                refine v_ireturn dX12_gap_56 rfl ?_
                have ev : op_gap x a b = (1, 0) := by unfold op_gap; simp only [eq_true a11, eq_true a25, b37, ↓reduceIte, and_self, and_true, true_and, and_false, false_and, not_true_eq_false, not_false_eq_true]
                rw [ev] at hq
                exact hq _ _ (fun e => absurd e (Nat.succ_ne_zero _)) R.th hp_seti_at (ke0.tr (ke_.i (by decide) (by decide)))
      · refine v_if_eq 43 31 dX12_gap_28 (by decide) rfl (fun c28 => ?_) (fun c28 => ?_)
        · refine v_iconstv (v := 1) 44 dX12_gap_43 (by decide) rfl ?_
          refine v_goto 48 dX12_gap_44 (by decide) ?_
          refine v_iconstv (v := 1) 49 dX12_gap_48 (by decide) rfl ?_
          refine v_invv (d' := 0) (k' := 0) (n' := 0) (k2 := 0) (n2 := 0) 52 [_, _] dX12_gap_49 mt_X12_67 mi_X12_fails me_X12_fails (by first | assumption | rfl) (by rfl) rfl rfl (of_decide_eq_true rfl) rfl (by decide) rfl rfl rfl rfl (C_f1 e0 (by decide) ?_)
          refine v_if_eq 57 55 dX12_gap_52 (by decide) rfl (fun c52 => ?_) (fun c52 => ?_)
          · first | exact absurd c52 (by decide) | exact absurd rfl c52 | exact absurd (of_decide_eq_true rfl) c52
          · refine v_iconstv (v := -1) 56 dX12_gap_55 (by decide) rfl ?_
            refine v_ireturn dX12_gap_56 rfl ?_
            have ev : op_gap x a b = (1, 0) := by unfold op_gap; simp only [eq_true a11, b25, ↓reduceIte, and_self, and_true, true_and, and_false, false_and, not_true_eq_false, not_false_eq_true]
            rw [ev] at hq
            exact hq _ _ (fun e => absurd e (Nat.succ_ne_zero _)) R.th hp_seti_at (ke0.tr (ke_.i (by decide) (by decide)))
        · first | exact absurd c28 (by decide) | exact absurd rfl c28 | exact absurd (of_decide_eq_true rfl) c28
  · refine v_if_eq 43 17 dX12_gap_14 (by decide) rfl (fun c14 => ?_) (fun c14 => ?_)
    · refine v_iconstv (v := 1) 44 dX12_gap_43 (by decide) rfl ?_
      refine v_goto 48 dX12_gap_44 (by decide) ?_
      refine v_iconstv (v := 1) 49 dX12_gap_48 (by decide) rfl ?_
      refine v_invv (d' := 0) (k' := 0) (n' := 0) (k2 := 0) (n2 := 0) 52 [_, _] dX12_gap_49 mt_X12_67 mi_X12_fails me_X12_fails (by first | assumption | rfl) (by rfl) rfl rfl (of_decide_eq_true rfl) rfl (by decide) rfl rfl rfl rfl (C_f1 e0 (by decide) ?_)
      refine v_if_eq 57 55 dX12_gap_52 (by decide) rfl (fun c52 => ?_) (fun c52 => ?_)
      · first | exact absurd c52 (by decide) | exact absurd rfl c52 | exact absurd (of_decide_eq_true rfl) c52
      · refine v_iconstv (v := -1) 56 dX12_gap_55 (by decide) rfl ?_
        refine v_ireturn dX12_gap_56 rfl ?_
        have ev : op_gap x a b = (1, 0) := by unfold op_gap; simp only [b11, ↓reduceIte, and_self, and_true, true_and, and_false, false_and, not_true_eq_false, not_false_eq_true]
        rw [ev] at hq
        exact hq _ _ (fun e => absurd e (Nat.succ_ne_zero _)) R.th hp_seti_at (ke0.tr (ke_.i (by decide) (by decide)))
    · first | exact absurd c14 (by decide) | exact absurd rfl c14 | exact absurd (of_decide_eq_true rfl) c14
set_option maxRecDepth 20000 in
theorem C_X12_isTrue {G : GW} {h : PH} {Q : RS → PH → Prop} {S : SP} {N : Nat} (R : Rp2 S h) (I : Iv S N) (hq : ∀ h', Rp2 S h' → ke_ h h' → Q (.inl (some (pv_I 1))) h') : VV G 9 0 0 yX12_isTrue cX12_isTrue 1 (some .boolean) [] 0 (vv_en 1 [pv_O (40, 0)]) [] h Q := by
  show VV G 9 0 0 yX12_isTrue cX12_isTrue 1 (some .boolean) [] 0 [some (pv_O (40, 0))] [] h Q
  refine v_aload_n 1 dX12_isTrue_0 rfl rfl ?_
  refine v_invv (d' := 0) (k' := 0) (n' := 0) (k2 := 0) (n2 := 0) 4 [] dX12_isTrue_1 mt_X12_48 mi_X12_begins me_X12_begins (by first | assumption | rfl) (by rfl) rfl rfl (of_decide_eq_true rfl) rfl (by decide) rfl rfl rfl rfl (C2_begins R (fun h0 R e0 ke0 => ?_))
  refine v_iconstv (v := 1) 5 dX12_isTrue_4 (by decide) rfl ?_
  refine v_zreturn (ty := .boolean) (by first | rfl | decide | exact nz_if | exact nz_fi) dX12_isTrue_5 rfl ?_
  exact hq _ R ke0
