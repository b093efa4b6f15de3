set_option maxRecDepth 20000 in
theorem C_X9_init {G : GW} {h : PH} {Q : RS → PH → Prop} {i : Nat} {x0 x1 x2 x3 : Int32} (h3 : narrow .char (.int x3) = .int x3 ∧ fits .char (.int x3) = true) (hq : Q (.inl none) (hp_seti (hp_seti (hp_seti (hp_seti h 41 i 0 x0) 41 i 1 x1) 41 i 2 x2) 41 i 3 x3)) : VV G 1 0 0 yX9_init cX9_init 5 (none) [] 0 (vv_en 5 [pv_O (41, i), pv_I x0, pv_I x1, pv_I x2, pv_I x3]) [] h Q := by
  show VV G 1 0 0 yX9_init cX9_init 5 (none) [] 0 [some (pv_O (41, i)), some (pv_I x0), some (pv_I x1), some (pv_I x2), some (pv_I x3)] [] h Q
  refine v_aload_n 1 dX9_init_0 rfl rfl ?_
  refine v_objinit 4 dX9_init_1 oi_X9_1 oi_1 oi_2 (by first | decide | (dsimp only; omega)) (by first | decide | (dsimp only; omega)) (by first | decide | (dsimp only; omega)) rfl ?_
  refine v_aload_n 5 dX9_init_4 rfl rfl ?_
  refine v_iload_n 6 dX9_init_5 rfl rfl ?_
  refine v_putfi 9 dX9_init_6 pf_X9_init_7 (by first | assumption | rfl) (by first | assumption | decide) (by rfl) rfl rfl rfl ?_
  refine v_aload_n 10 dX9_init_9 rfl rfl ?_
  refine v_iload_n 11 dX9_init_10 rfl rfl ?_
  refine v_putfi 14 dX9_init_11 pf_X9_init_13 (by first | assumption | rfl) (by first | assumption | decide) (by rfl) rfl rfl rfl ?_
  refine v_aload_n 15 dX9_init_14 rfl rfl ?_
  refine v_iload_n 16 dX9_init_15 rfl rfl ?_
  refine v_putfi 19 dX9_init_16 pf_X9_init_16 (by first | assumption | rfl) (by first | assumption | decide) (by rfl) rfl rfl rfl ?_
  refine v_aload_n 20 dX9_init_19 rfl rfl ?_
  refine v_iload 22 dX9_init_20 rfl rfl ?_
  refine v_putfi 25 dX9_init_22 pf_X9_init_19 (by first | assumption | rfl) (by first | assumption | decide) (by rfl) h3.1 h3.2 rfl ?_
  refine v_return dX9_init_25 rfl ?_
  exact hq
set_option maxRecDepth 20000 in
theorem C_X10_init {G : GW} {h : PH} {Q : RS → PH → Prop} {i : Nat} {x0 x1 x2 : Int32} (hq : Q (.inl none) (hp_seti (hp_seti (hp_seti h 43 i 0 x0) 43 i 1 x1) 43 i 2 x2)) : VV G 1 0 0 yX10_init cX10_init 4 (none) [] 0 (vv_en 4 [pv_O (43, i), pv_I x0, pv_I x1, pv_I x2]) [] h Q := by
  show VV G 1 0 0 yX10_init cX10_init 4 (none) [] 0 [some (pv_O (43, i)), some (pv_I x0), some (pv_I x1), some (pv_I x2)] [] h Q
  refine v_aload_n 1 dX10_init_0 rfl rfl ?_
  refine v_objinit 4 dX10_init_1 oi_X10_1 oi_1 oi_2 (by first | decide | (dsimp only; omega)) (by first | decide | (dsimp only; omega)) (by first | decide | (dsimp only; omega)) rfl ?_
  refine v_aload_n 5 dX10_init_4 rfl rfl ?_
  refine v_iload_n 6 dX10_init_5 rfl rfl ?_
  refine v_putfi 9 dX10_init_6 pf_X10_init_7 (by first | assumption | rfl) (by first | assumption | decide) (by rfl) rfl rfl rfl ?_
  refine v_aload_n 10 dX10_init_9 rfl rfl ?_
  refine v_iload_n 11 dX10_init_10 rfl rfl ?_
  refine v_putfi 14 dX10_init_11 pf_X10_init_13 (by first | assumption | rfl) (by first | assumption | decide) (by rfl) rfl rfl rfl ?_
  refine v_aload_n 15 dX10_init_14 rfl rfl ?_
  refine v_iload_n 16 dX10_init_15 rfl rfl ?_
  refine v_putfi 19 dX10_init_16 pf_X10_init_16 (by first | assumption | rfl) (by first | assumption | decide) (by rfl) rfl rfl rfl ?_
  refine v_return dX10_init_19 rfl ?_
  exact hq
set_option maxRecDepth 20000 in
theorem C_X8_init {G : GW} {h : PH} {Q : RS → PH → Prop} {t i : Nat} {r : RN} {x1 x2 : Int32} (ht : tg_k t = some (.inl 12)) (h10 : 10 ≤ t) (hq : Q (.inl none) (hp_seti (hp_seti (hp_setr h t i 0 r) t i 1 x1) t i 2 x2)) : VV G 1 0 0 yX8_init cX8_init 4 (none) [] 0 (vv_en 4 [pv_O (t, i), pv_O r, pv_I x1, pv_I x2]) [] h Q := by
  show VV G 1 0 0 yX8_init cX8_init 4 (none) [] 0 [some (pv_O (t, i)), some (pv_O r), some (pv_I x1), some (pv_I x2)] [] h Q
  refine v_aload_n 1 dX8_init_0 rfl rfl ?_
  refine v_objinit 4 dX8_init_1 oi_X8_1 oi_1 oi_2 (by first | decide | (dsimp only; omega)) (by first | decide | (dsimp only; omega)) (by first | decide | (dsimp only; omega)) rfl ?_
  refine v_aload_n 5 dX8_init_4 rfl rfl ?_
  refine v_aload_n 6 dX8_init_5 rfl rfl ?_
  refine v_putfr 9 dX8_init_6 pf_X8_init_7 (by first | assumption | rfl) (by first | assumption | decide) (by rfl) rfl ?_
  refine v_aload_n 10 dX8_init_9 rfl rfl ?_
  refine v_iload_n 11 dX8_init_10 rfl rfl ?_
  refine v_putfi 14 dX8_init_11 pf_X8_init_13 (by first | assumption | rfl) (by first | assumption | decide) (by rfl) rfl rfl rfl ?_
  refine v_aload_n 15 dX8_init_14 rfl rfl ?_
  refine v_iload_n 16 dX8_init_15 rfl rfl ?_
  refine v_putfi 19 dX8_init_16 pf_X8_init_17 (by first | assumption | rfl) (by first | assumption | decide) (by rfl) rfl rfl rfl ?_
  refine v_return dX8_init_19 rfl ?_
  exact hq
set_option maxRecDepth 20000 in
theorem C_X11_init {G : GW} {h : PH} {Q : RS → PH → Prop} {i : Nat} (f3 : hp_al h 63 i = false) (f4 : hp_al h 64 i = false) (hq : Q (.inl none) (hp_setr (hp_new (hp_setr (hp_new h 63 i 64) 44 i 0 (63, i)) 64 i 8) 44 i 2 (64, i))) : VV G 1 2 72 yX11_init cX11_init 1 (none) [] 0 (vv_en 1 [pv_O (44, i)]) [] h Q := by
  show VV G 1 2 72 yX11_init cX11_init 1 (none) [] 0 [some (pv_O (44, i))] [] h Q
  refine v_aload_n 1 dX11_init_0 rfl rfl ?_
  refine v_objinit 4 dX11_init_1 oi_X11_3 oi_1 oi_2 (by first | decide | (dsimp only; omega)) (by first | decide | (dsimp only; omega)) (by first | decide | (dsimp only; omega)) rfl ?_
  refine v_aload_n 5 dX11_init_4 rfl rfl ?_
  refine v_bipushv (v := 64) 7 dX11_init_5 (by decide) rfl ?_
  refine v_newarr (ty := .int) (N := 64) (k1 := 1) (n1 := 8) 9 63 i dX11_init_7 ac_int rfl (by simp [g_tys]) (by rfl) (by decide) f3 (by decide) (by decide) (by decide) rfl rfl rfl ?_
  refine v_putfr 12 dX11_init_9 pf_X11_init_9 (by first | assumption | rfl) (by first | assumption | decide) (by rfl) rfl ?_
  refine v_aload_n 13 dX11_init_12 rfl rfl ?_
  refine v_bipushv (v := 8) 15 dX11_init_13 (by decide) rfl ?_
  refine v_newarr (ty := .int) (N := 8) (k1 := 0) (n1 := 0) 17 64 i dX11_init_15 ac_int rfl (by simp [g_tys]) (by rfl) (by decide) (by simp [al_n, al_r, al_i, f4]) (by decide) (by decide) (by decide) rfl rfl rfl ?_
  refine v_putfr 20 dX11_init_17 pf_X11_init_15 (by first | assumption | rfl) (by first | assumption | decide) (by rfl) rfl ?_
  refine v_return dX11_init_20 rfl ?_
  exact hq
set_option maxRecDepth 20000 in
theorem C_X7_width {G : GW} {h : PH} {Q : RS → PH → Prop} {S : SP} {N : Nat} (T1 : hp_te S.1 h 41) (T2 : hp_te S.1 h 42) (I : Iv S N) {f : Nat} (hf : f < nn_ S 1) {l : Nat} (hl : l < 24) (hq : Q (.inl (some (pv_I (s_w S f (nI l))))) h) : VV G 1 0 0 yX7_width cX7_width 5 (some .int) [] 0 (vv_en 5 [pv_O (42, f), pv_I (nI l)]) [] h Q := by
  show VV G 1 0 0 yX7_width cX7_width 5 (some .int) [] 0 [some (pv_O (42, f)), some (pv_I (nI l)), none, none, none] [] h Q
  obtain ⟨dd, ed, hd1, hd2⟩ := (I.2.1 _ (I.2.2.1 f hf).1.2.2.2.1).2.2.1
  obtain ⟨tt, et, ht1, ht2⟩ := (I.2.2.1 f hf).2.2.1
  have hkt := Nat.mul_le_mul (show l ≤ 23 by omega) ht2
  have ek : nI l * nI tt / 10 = nI (l * tt / 10) := by rw [pk_mul]; exact pk_div (d := 10) (by omega) (by decide) (by decide)
  have e2 : nI dd / 2 = nI (dd / 2) := pk_div (d := 2) (by omega) (by decide) (by decide)
  obtain ⟨m, hm, em⟩ := rt_in (D := dd / 2) (e := l * tt / 10) (by omega) (by omega) (by omega)
  unfold s_w pw_w pw_c at hq
  rw [ed, et, ek, e2, em] at hq
  refine v_aload_n 1 dX7_width_0 rfl rfl ?_
  refine v_getfr 4 dX7_width_1 fl_X7_7 (by first | assumption | rfl) (by rfl) rfl ?_
  rw [T2.2.2.2.1, I.lg hf]
  refine v_getfi 7 dX7_width_4 fl_X7_21 (by first | assumption | rfl) (by rfl) rfl ?_
  rw [T1.2.2.1, ed]
  refine v_iconstv (v := 2) 8 dX7_width_7 (by decide) rfl ?_
  refine v_idiv 9 dX7_width_8 (by decide) rfl ?_
  rw [e2]
  refine v_istore_n 10 dX7_width_9 (by decide) rfl rfl ?_
  dsimp only [List.set]
  refine v_iload_n 11 dX7_width_10 rfl rfl ?_
  refine v_aload_n 12 dX7_width_11 rfl rfl ?_
  refine v_getfi 15 dX7_width_12 fl_X7_17 (by first | assumption | rfl) (by rfl) rfl ?_
  rw [T2.2.2.1, et]
  refine v_imul 16 dX7_width_15 rfl ?_
  refine v_bipushv (v := 10) 18 dX7_width_16 (by decide) rfl ?_
  refine v_idiv 19 dX7_width_18 (by decide) rfl ?_
  rw [ek]
  refine v_istore_n 20 dX7_width_19 (by decide) rfl rfl ?_
  dsimp only [List.set]
  refine v_aload_n 21 dX7_width_20 rfl rfl ?_
  refine v_getfi 24 dX7_width_21 fl_X7_13 (by first | assumption | rfl) (by rfl) rfl ?_
  rw [T2.2.2.1]
  refine v_bipushv (v := 102) 26 dX7_width_24 (by decide) rfl ?_
  refine v_icmp_ne 51 29 dX7_width_26 (by decide) rfl (fun c26 => ?_) (fun c26 => ?_)
  · first | rw [if_pos c26] at hq | rw [if_neg c26] at hq | skip
    refine v_aload_n 52 dX7_width_51 rfl rfl ?_
    refine v_getfi 55 dX7_width_52 fl_X7_13 (by first | assumption | rfl) (by rfl) rfl ?_
    rw [T2.2.2.1]
    refine v_bipushv (v := 113) 57 dX7_width_55 (by decide) rfl ?_
    refine v_icmp_ne 67 60 dX7_width_57 (by decide) rfl (fun c57 => ?_) (fun c57 => ?_)
    · first | rw [if_pos c57] at hq | rw [if_neg c57] at hq | skip
      refine v_aload_n 68 dX7_width_67 rfl rfl ?_
      refine v_getfi 71 dX7_width_68 fl_X7_13 (by first | assumption | rfl) (by rfl) rfl ?_
      rw [T2.2.2.1]
      refine v_bipushv (v := 114) 73 dX7_width_71 (by decide) rfl ?_
      refine v_icmp_ne 87 76 dX7_width_73 (by decide) rfl (fun c73 => ?_) (fun c73 => ?_)
      · first | rw [if_pos c73] at hq | rw [if_neg c73] at hq | skip
        refine v_iconstv (v := 3) 88 dX7_width_87 (by decide) rfl ?_
        refine v_aload_n 89 dX7_width_88 rfl rfl ?_
        refine v_getfr 92 dX7_width_89 fl_X7_7 (by first | assumption | rfl) (by rfl) rfl ?_
        rw [T2.2.2.2.1, I.lg hf]
        refine v_getfi 95 dX7_width_92 fl_X7_21 (by first | assumption | rfl) (by rfl) rfl ?_
        rw [T1.2.2.1, ed]
        refine v_imul 96 dX7_width_95 rfl ?_
        refine v_bipushv (v := 6) 98 dX7_width_96 (by decide) rfl ?_
        refine v_iload_n 99 dX7_width_98 rfl rfl ?_
        refine v_imul 100 dX7_width_99 rfl ?_
        refine v_isub 101 dX7_width_100 rfl ?_
        refine v_ireturn dX7_width_101 rfl ?_
        exact hq
      · first | rw [if_pos c73] at hq | rw [if_neg c73] at hq | skip
        refine v_iload_n 77 dX7_width_76 rfl rfl ?_
        refine v_bipushv (v := 20) 79 dX7_width_77 (by decide) rfl ?_
        refine v_isub 80 dX7_width_79 rfl ?_
        refine v_iconstv (v := 4) 81 dX7_width_80 (by decide) rfl ?_
        refine v_imul 82 dX7_width_81 rfl ?_
        refine v_iconstv (v := 5) 83 dX7_width_82 (by decide) rfl ?_
        refine v_idiv 84 dX7_width_83 (by decide) rfl ?_
        refine v_goto 101 dX7_width_84 (by decide) ?_
        refine v_ireturn dX7_width_101 rfl ?_
        exact hq
    · first | rw [if_pos c57] at hq | rw [if_neg c57] at hq | skip
      refine v_iload_n 61 dX7_width_60 rfl rfl ?_
      refine v_bipushv (v := 20) 63 dX7_width_61 (by decide) rfl ?_
      refine v_isub 64 dX7_width_63 rfl ?_
      refine v_goto 101 dX7_width_64 (by decide) ?_
      refine v_ireturn dX7_width_101 rfl ?_
      exact hq
  · first | rw [if_pos c26] at hq | rw [if_neg c26] at hq | skip
    refine v_iload_n 30 dX7_width_29 rfl rfl ?_
    refine v_iconstv (v := 2) 31 dX7_width_30 (by decide) rfl ?_
    refine v_idiv 32 dX7_width_31 (by decide) rfl ?_
    refine v_iload_n 33 dX7_width_32 rfl rfl ?_
    refine v_isub 34 dX7_width_33 rfl ?_
    refine v_istore 36 dX7_width_34 (by decide) rfl rfl ?_
    dsimp only [List.set]
    refine v_iconstv (v := 2) 37 dX7_width_36 (by decide) rfl ?_
    refine v_iload_n 38 dX7_width_37 rfl rfl ?_
    refine v_iload_n 39 dX7_width_38 rfl rfl ?_
    refine v_imul 40 dX7_width_39 rfl ?_
    refine v_iload 42 dX7_width_40 rfl rfl ?_
    refine v_iload 44 dX7_width_42 rfl rfl ?_
    refine v_imul 45 dX7_width_44 rfl ?_
    refine v_isub 46 dX7_width_45 rfl ?_
    rw [em]
    refine v_invsN (d' := 0) (k' := 0) (n' := 0) (k2 := 0) (n2 := 0) 49 [_] dX7_width_46 mn_X7_36 md_X12_root ms_X12_root rfl rfl (of_decide_eq_true rfl) rfl (by decide) rfl rfl rfl rfl (C_X12_root hm ?_)
    refine v_imul 50 dX7_width_49 rfl ?_
    refine v_ireturn dX7_width_50 rfl ?_
    exact hq
set_option maxRecDepth 20000 in
theorem C_X7_area {G : GW} {h : PH} {Q : RS → PH → Prop} {S : SP} {N : Nat} (T1 : hp_te S.1 h 41) (T2 : hp_te S.1 h 42) (I : Iv S N) {f : Nat} (hf : f < nn_ S 1) {l : Nat} (hl : l < 24) (hq : Q (.inl (some (pv_I (s_a S f (nI l))))) h) : VV G 2 0 0 yX7_area cX7_area 2 (some .int) [] 0 (vv_en 2 [pv_O (42, f), pv_I (nI l)]) [] h Q := by
  show VV G 2 0 0 yX7_area cX7_area 2 (some .int) [] 0 [some (pv_O (42, f)), some (pv_I (nI l))] [] h Q
  refine v_aload_n 1 dX7_area_0 rfl rfl ?_
  refine v_iload_n 2 dX7_area_1 rfl rfl ?_
  refine v_invv (d' := 1) (k' := 0) (n' := 0) (k2 := 0) (n2 := 0) 5 [_] dX7_area_2 mt_X7_42 mi_X7_width me_X7_width (by first | assumption | rfl) (by rfl) rfl rfl (of_decide_eq_true rfl) rfl (by decide) rfl rfl rfl rfl (C_X7_width T1 T2 I hf hl ?_)
  refine v_aload_n 6 dX7_area_5 rfl rfl ?_
  refine v_getfr 9 dX7_area_6 fl_X7_7 (by first | assumption | rfl) (by rfl) rfl ?_
  rw [T2.2.2.2.1, I.lg hf]
  refine v_getfi 12 dX7_area_9 fl_X7_45 (by first | assumption | rfl) (by rfl) rfl ?_
  rw [T1.2.2.1]
  refine v_imul 13 dX7_area_12 rfl ?_
  refine v_ireturn dX7_area_13 rfl ?_
  exact hq
set_option maxRecDepth 20000 in
theorem C_X7_figure {G : GW} {h : PH} {Q : RS → PH → Prop} {S : SP} {N : Nat} (T1 : hp_te S.1 h 41) (T2 : hp_te S.1 h 42) (I : Iv S N) {f : Nat} (hf : f < nn_ S 1) {l : Int32} (hq : Q (.inl (some (pv_I (s_f S f l)))) h) : VV G 1 0 0 yX7_figure cX7_figure 3 (some .int) [] 0 (vv_en 3 [pv_O (42, f), pv_I l]) [] h Q := by
  show VV G 1 0 0 yX7_figure cX7_figure 3 (some .int) [] 0 [some (pv_O (42, f)), some (pv_I l), none] [] h Q
  unfold s_f pw_f pw_b pw_g at hq
  refine v_aload_n 1 dX7_figure_0 rfl rfl ?_
  refine v_getfr 4 dX7_figure_1 fl_X7_7 (by first | assumption | rfl) (by rfl) rfl ?_
  rw [T2.2.2.2.1, I.lg hf]
  refine v_getfi 7 dX7_figure_4 fl_X7_48 (by first | assumption | rfl) (by rfl) rfl ?_
  rw [T1.2.2.1]
  refine v_bipushv (v := 112) 9 dX7_figure_7 (by decide) rfl ?_
  refine v_icmp_ne 17 12 dX7_figure_9 (by decide) rfl (fun c9 => ?_) (fun c9 => ?_)
  · first | rw [if_pos c9] at hq | rw [if_neg c9] at hq | skip
    refine v_aload_n 18 dX7_figure_17 rfl rfl ?_
    refine v_getfr 21 dX7_figure_18 fl_X7_7 (by first | assumption | rfl) (by rfl) rfl ?_
    rw [T2.2.2.2.1, I.lg hf]
    refine v_getfi 24 dX7_figure_21 fl_X7_48 (by first | assumption | rfl) (by rfl) rfl ?_
    rw [T1.2.2.1]
    refine v_bipushv (v := 99) 26 dX7_figure_24 (by decide) rfl ?_
    refine v_icmp_ne 34 29 dX7_figure_26 (by decide) rfl (fun c26 => ?_) (fun c26 => ?_)
    · first | rw [if_pos c26] at hq | rw [if_neg c26] at hq | skip
      refine v_bipushv (v := 60) 36 dX7_figure_34 (by decide) rfl ?_
      refine v_istore_n 37 dX7_figure_36 (by decide) rfl rfl ?_
      dsimp only [List.set]
      refine v_aload_n 38 dX7_figure_37 rfl rfl ?_
      refine v_getfi 41 dX7_figure_38 fl_X7_13 (by first | assumption | rfl) (by rfl) rfl ?_
      rw [T2.2.2.1]
      refine v_bipushv (v := 102) 43 dX7_figure_41 (by decide) rfl ?_
      refine v_icmp_ne 59 46 dX7_figure_43 (by decide) rfl (fun c43 => ?_) (fun c43 => ?_)
      · first | rw [if_pos c43] at hq | rw [if_neg c43] at hq | skip
        refine v_aload_n 60 dX7_figure_59 rfl rfl ?_
        refine v_getfi 63 dX7_figure_60 fl_X7_13 (by first | assumption | rfl) (by rfl) rfl ?_
        rw [T2.2.2.1]
        refine v_bipushv (v := 113) 65 dX7_figure_63 (by decide) rfl ?_
        refine v_icmp_ne 102 68 dX7_figure_65 (by decide) rfl (fun c65 => ?_) (fun c65 => ?_)
        · first | rw [if_pos c65] at hq | rw [if_neg c65] at hq | skip
          refine v_aload_n 103 dX7_figure_102 rfl rfl ?_
          refine v_getfi 106 dX7_figure_103 fl_X7_13 (by first | assumption | rfl) (by rfl) rfl ?_
          rw [T2.2.2.1]
          refine v_bipushv (v := 114) 108 dX7_figure_106 (by decide) rfl ?_
          refine v_icmp_ne 117 111 dX7_figure_108 (by decide) rfl (fun c108 => ?_) (fun c108 => ?_)
          · first | rw [if_pos c108] at hq | rw [if_neg c108] at hq | skip
            refine v_iload_n 118 dX7_figure_117 rfl rfl ?_
            refine v_bipushv (v := 20) 120 dX7_figure_118 (by decide) rfl ?_
            refine v_aload_n 121 dX7_figure_120 rfl rfl ?_
            refine v_getfr 124 dX7_figure_121 fl_X7_7 (by first | assumption | rfl) (by rfl) rfl ?_
            rw [T2.2.2.2.1, I.lg hf]
            refine v_getfi 127 dX7_figure_124 fl_X7_48 (by first | assumption | rfl) (by rfl) rfl ?_
            rw [T1.2.2.1]
            refine v_bipushv (v := 98) 129 dX7_figure_127 (by decide) rfl ?_
            refine v_icmp_ne 137 132 dX7_figure_129 (by decide) rfl (fun c129 => ?_) (fun c129 => ?_)
            · first | rw [if_pos c129] at hq | rw [if_neg c129] at hq | skip
              refine v_iconstv (v := 0) 138 dX7_figure_137 (by decide) rfl ?_
              refine v_iadd 139 dX7_figure_138 rfl ?_
              refine v_iload_n 140 dX7_figure_139 rfl rfl ?_
              refine v_iconstv (v := 2) 141 dX7_figure_140 (by decide) rfl ?_
              refine v_idiv 142 dX7_figure_141 (by decide) rfl ?_
              refine v_isub 143 dX7_figure_142 rfl ?_
              refine v_iadd 144 dX7_figure_143 rfl ?_
              refine v_istore_n 145 dX7_figure_144 (by decide) rfl rfl ?_
              dsimp only [List.set]
              refine v_iconstv (v := 0) 146 dX7_figure_145 (by decide) rfl ?_
              refine v_bipushv (v := 99) 148 dX7_figure_146 (by decide) rfl ?_
              refine v_iload_n 149 dX7_figure_148 rfl rfl ?_
              refine v_min 152 dX7_figure_149 ma_X7_26 ma_s_min ma_i rfl (by decide) rfl ?_
              refine v_max 155 dX7_figure_152 ma_X7_57 ma_s_max ma_i rfl (by decide) rfl ?_
              refine v_ireturn dX7_figure_155 rfl ?_
              exact hq
            · first | rw [if_pos c129] at hq | rw [if_neg c129] at hq | skip
              refine v_bipushv (v := 30) 134 dX7_figure_132 (by decide) rfl ?_
              refine v_goto 138 dX7_figure_134 (by decide) ?_
              refine v_iadd 139 dX7_figure_138 rfl ?_
              refine v_iload_n 140 dX7_figure_139 rfl rfl ?_
              refine v_iconstv (v := 2) 141 dX7_figure_140 (by decide) rfl ?_
              refine v_idiv 142 dX7_figure_141 (by decide) rfl ?_
              refine v_isub 143 dX7_figure_142 rfl ?_
              refine v_iadd 144 dX7_figure_143 rfl ?_
              refine v_istore_n 145 dX7_figure_144 (by decide) rfl rfl ?_
              dsimp only [List.set]
              refine v_iconstv (v := 0) 146 dX7_figure_145 (by decide) rfl ?_
              refine v_bipushv (v := 99) 148 dX7_figure_146 (by decide) rfl ?_
              refine v_iload_n 149 dX7_figure_148 rfl rfl ?_
              refine v_min 152 dX7_figure_149 ma_X7_26 ma_s_min ma_i rfl (by decide) rfl ?_
              refine v_max 155 dX7_figure_152 ma_X7_57 ma_s_max ma_i rfl (by decide) rfl ?_
              refine v_ireturn dX7_figure_155 rfl ?_
              exact hq
          · first | rw [if_pos c108] at hq | rw [if_neg c108] at hq | skip
            refine v_iinc 114 dX7_figure_111 rfl (by decide) rfl rfl ?_
            dsimp only [List.set]
            refine v_goto 145 dX7_figure_114 (by decide) ?_
            refine v_iconstv (v := 0) 146 dX7_figure_145 (by decide) rfl ?_
            refine v_bipushv (v := 99) 148 dX7_figure_146 (by decide) rfl ?_
            refine v_iload_n 149 dX7_figure_148 rfl rfl ?_
            refine v_min 152 dX7_figure_149 ma_X7_26 ma_s_min ma_i rfl (by decide) rfl ?_
            refine v_max 155 dX7_figure_152 ma_X7_57 ma_s_max ma_i rfl (by decide) rfl ?_
            refine v_ireturn dX7_figure_155 rfl ?_
            exact hq
        · first | rw [if_pos c65] at hq | rw [if_neg c65] at hq | skip
          refine v_iload_n 69 dX7_figure_68 rfl rfl ?_
          refine v_aload_n 70 dX7_figure_69 rfl rfl ?_
          refine v_getfr 73 dX7_figure_70 fl_X7_7 (by first | assumption | rfl) (by rfl) rfl ?_
          rw [T2.2.2.2.1, I.lg hf]
          refine v_getfi 76 dX7_figure_73 fl_X7_51 (by first | assumption | rfl) (by rfl) rfl ?_
          rw [T1.2.2.1]
          refine v_iconstv (v := 2) 77 dX7_figure_76 (by decide) rfl ?_
          refine v_icmp_ne 85 80 dX7_figure_77 (by decide) rfl (fun c77 => ?_) (fun c77 => ?_)
          · first | rw [if_pos c77] at hq | rw [if_neg c77] at hq | skip
            refine v_bipushv (v := 10) 87 dX7_figure_85 (by decide) rfl ?_
            refine v_iload_n 88 dX7_figure_87 rfl rfl ?_
            refine v_bipushv (v := 12) 90 dX7_figure_88 (by decide) rfl ?_
            refine v_isub 91 dX7_figure_90 rfl ?_
            refine v_abs 94 dX7_figure_91 ma_X7_54 ma_s_abs ma_i rfl (by decide) rfl ?_
            refine v_iconstv (v := 2) 95 dX7_figure_94 (by decide) rfl ?_
            refine v_idiv 96 dX7_figure_95 (by decide) rfl ?_
            refine v_isub 97 dX7_figure_96 rfl ?_
            refine v_iadd 98 dX7_figure_97 rfl ?_
            refine v_istore_n 99 dX7_figure_98 (by decide) rfl rfl ?_
            dsimp only [List.set]
            refine v_goto 145 dX7_figure_99 (by decide) ?_
            refine v_iconstv (v := 0) 146 dX7_figure_145 (by decide) rfl ?_
            refine v_bipushv (v := 99) 148 dX7_figure_146 (by decide) rfl ?_
            refine v_iload_n 149 dX7_figure_148 rfl rfl ?_
            refine v_min 152 dX7_figure_149 ma_X7_26 ma_s_min ma_i rfl (by decide) rfl ?_
            refine v_max 155 dX7_figure_152 ma_X7_57 ma_s_max ma_i rfl (by decide) rfl ?_
            refine v_ireturn dX7_figure_155 rfl ?_
            exact hq
          · first | rw [if_pos c77] at hq | rw [if_neg c77] at hq | skip
            refine v_bipushv (v := 30) 82 dX7_figure_80 (by decide) rfl ?_
            refine v_goto 87 dX7_figure_82 (by decide) ?_
            refine v_iload_n 88 dX7_figure_87 rfl rfl ?_
            refine v_bipushv (v := 12) 90 dX7_figure_88 (by decide) rfl ?_
            refine v_isub 91 dX7_figure_90 rfl ?_
            refine v_abs 94 dX7_figure_91 ma_X7_54 ma_s_abs ma_i rfl (by decide) rfl ?_
            refine v_iconstv (v := 2) 95 dX7_figure_94 (by decide) rfl ?_
            refine v_idiv 96 dX7_figure_95 (by decide) rfl ?_
            refine v_isub 97 dX7_figure_96 rfl ?_
            refine v_iadd 98 dX7_figure_97 rfl ?_
            refine v_istore_n 99 dX7_figure_98 (by decide) rfl rfl ?_
            dsimp only [List.set]
            refine v_goto 145 dX7_figure_99 (by decide) ?_
            refine v_iconstv (v := 0) 146 dX7_figure_145 (by decide) rfl ?_
            refine v_bipushv (v := 99) 148 dX7_figure_146 (by decide) rfl ?_
            refine v_iload_n 149 dX7_figure_148 rfl rfl ?_
            refine v_min 152 dX7_figure_149 ma_X7_26 ma_s_min ma_i rfl (by decide) rfl ?_
            refine v_max 155 dX7_figure_152 ma_X7_57 ma_s_max ma_i rfl (by decide) rfl ?_
            refine v_ireturn dX7_figure_155 rfl ?_
            exact hq
      · first | rw [if_pos c43] at hq | rw [if_neg c43] at hq | skip
        refine v_iload_n 47 dX7_figure_46 rfl rfl ?_
        refine v_bipushv (v := 15) 49 dX7_figure_47 (by decide) rfl ?_
        refine v_iload_n 50 dX7_figure_49 rfl rfl ?_
        refine v_bipushv (v := 8) 52 dX7_figure_50 (by decide) rfl ?_
        refine v_irem 53 dX7_figure_52 (by decide) rfl ?_
        refine v_isub 54 dX7_figure_53 rfl ?_
        refine v_iadd 55 dX7_figure_54 rfl ?_
        refine v_istore_n 56 dX7_figure_55 (by decide) rfl rfl ?_
        dsimp only [List.set]
        refine v_goto 145 dX7_figure_56 (by decide) ?_
        refine v_iconstv (v := 0) 146 dX7_figure_145 (by decide) rfl ?_
        refine v_bipushv (v := 99) 148 dX7_figure_146 (by decide) rfl ?_
        refine v_iload_n 149 dX7_figure_148 rfl rfl ?_
        refine v_min 152 dX7_figure_149 ma_X7_26 ma_s_min ma_i rfl (by decide) rfl ?_
        refine v_max 155 dX7_figure_152 ma_X7_57 ma_s_max ma_i rfl (by decide) rfl ?_
        refine v_ireturn dX7_figure_155 rfl ?_
        exact hq
    · first | rw [if_pos c26] at hq | rw [if_neg c26] at hq | skip
      refine v_bipushv (v := 40) 31 dX7_figure_29 (by decide) rfl ?_
      refine v_goto 36 dX7_figure_31 (by decide) ?_
      refine v_istore_n 37 dX7_figure_36 (by decide) rfl rfl ?_
      dsimp only [List.set]
      refine v_aload_n 38 dX7_figure_37 rfl rfl ?_
      refine v_getfi 41 dX7_figure_38 fl_X7_13 (by first | assumption | rfl) (by rfl) rfl ?_
      rw [T2.2.2.1]
      refine v_bipushv (v := 102) 43 dX7_figure_41 (by decide) rfl ?_
      refine v_icmp_ne 59 46 dX7_figure_43 (by decide) rfl (fun c43 => ?_) (fun c43 => ?_)
      · first | rw [if_pos c43] at hq | rw [if_neg c43] at hq | skip
        refine v_aload_n 60 dX7_figure_59 rfl rfl ?_
        refine v_getfi 63 dX7_figure_60 fl_X7_13 (by first | assumption | rfl) (by rfl) rfl ?_
        rw [T2.2.2.1]
        refine v_bipushv (v := 113) 65 dX7_figure_63 (by decide) rfl ?_
        refine v_icmp_ne 102 68 dX7_figure_65 (by decide) rfl (fun c65 => ?_) (fun c65 => ?_)
        · first | rw [if_pos c65] at hq | rw [if_neg c65] at hq | skip
          refine v_aload_n 103 dX7_figure_102 rfl rfl ?_
          refine v_getfi 106 dX7_figure_103 fl_X7_13 (by first | assumption | rfl) (by rfl) rfl ?_
          rw [T2.2.2.1]
          refine v_bipushv (v := 114) 108 dX7_figure_106 (by decide) rfl ?_
          refine v_icmp_ne 117 111 dX7_figure_108 (by decide) rfl (fun c108 => ?_) (fun c108 => ?_)
          · first | rw [if_pos c108] at hq | rw [if_neg c108] at hq | skip
            refine v_iload_n 118 dX7_figure_117 rfl rfl ?_
            refine v_bipushv (v := 20) 120 dX7_figure_118 (by decide) rfl ?_
            refine v_aload_n 121 dX7_figure_120 rfl rfl ?_
            refine v_getfr 124 dX7_figure_121 fl_X7_7 (by first | assumption | rfl) (by rfl) rfl ?_
            rw [T2.2.2.2.1, I.lg hf]
            refine v_getfi 127 dX7_figure_124 fl_X7_48 (by first | assumption | rfl) (by rfl) rfl ?_
            rw [T1.2.2.1]
            refine v_bipushv (v := 98) 129 dX7_figure_127 (by decide) rfl ?_
            refine v_icmp_ne 137 132 dX7_figure_129 (by decide) rfl (fun c129 => ?_) (fun c129 => ?_)
            · first | rw [if_pos c129] at hq | rw [if_neg c129] at hq | skip
              refine v_iconstv (v := 0) 138 dX7_figure_137 (by decide) rfl ?_
              refine v_iadd 139 dX7_figure_138 rfl ?_
              refine v_iload_n 140 dX7_figure_139 rfl rfl ?_
              refine v_iconstv (v := 2) 141 dX7_figure_140 (by decide) rfl ?_
              refine v_idiv 142 dX7_figure_141 (by decide) rfl ?_
              refine v_isub 143 dX7_figure_142 rfl ?_
              refine v_iadd 144 dX7_figure_143 rfl ?_
              refine v_istore_n 145 dX7_figure_144 (by decide) rfl rfl ?_
              dsimp only [List.set]
              refine v_iconstv (v := 0) 146 dX7_figure_145 (by decide) rfl ?_
              refine v_bipushv (v := 99) 148 dX7_figure_146 (by decide) rfl ?_
              refine v_iload_n 149 dX7_figure_148 rfl rfl ?_
              refine v_min 152 dX7_figure_149 ma_X7_26 ma_s_min ma_i rfl (by decide) rfl ?_
              refine v_max 155 dX7_figure_152 ma_X7_57 ma_s_max ma_i rfl (by decide) rfl ?_
              refine v_ireturn dX7_figure_155 rfl ?_
              exact hq
            · first | rw [if_pos c129] at hq | rw [if_neg c129] at hq | skip
              refine v_bipushv (v := 30) 134 dX7_figure_132 (by decide) rfl ?_
              refine v_goto 138 dX7_figure_134 (by decide) ?_
              refine v_iadd 139 dX7_figure_138 rfl ?_
              refine v_iload_n 140 dX7_figure_139 rfl rfl ?_
              refine v_iconstv (v := 2) 141 dX7_figure_140 (by decide) rfl ?_
              refine v_idiv 142 dX7_figure_141 (by decide) rfl ?_
              refine v_isub 143 dX7_figure_142 rfl ?_
              refine v_iadd 144 dX7_figure_143 rfl ?_
              refine v_istore_n 145 dX7_figure_144 (by decide) rfl rfl ?_
              dsimp only [List.set]
              refine v_iconstv (v := 0) 146 dX7_figure_145 (by decide) rfl ?_
              refine v_bipushv (v := 99) 148 dX7_figure_146 (by decide) rfl ?_
              refine v_iload_n 149 dX7_figure_148 rfl rfl ?_
              refine v_min 152 dX7_figure_149 ma_X7_26 ma_s_min ma_i rfl (by decide) rfl ?_
              refine v_max 155 dX7_figure_152 ma_X7_57 ma_s_max ma_i rfl (by decide) rfl ?_
              refine v_ireturn dX7_figure_155 rfl ?_
              exact hq
          · first | rw [if_pos c108] at hq | rw [if_neg c108] at hq | skip
            refine v_iinc 114 dX7_figure_111 rfl (by decide) rfl rfl ?_
            dsimp only [List.set]
            refine v_goto 145 dX7_figure_114 (by decide) ?_
            refine v_iconstv (v := 0) 146 dX7_figure_145 (by decide) rfl ?_
            refine v_bipushv (v := 99) 148 dX7_figure_146 (by decide) rfl ?_
            refine v_iload_n 149 dX7_figure_148 rfl rfl ?_
            refine v_min 152 dX7_figure_149 ma_X7_26 ma_s_min ma_i rfl (by decide) rfl ?_
            refine v_max 155 dX7_figure_152 ma_X7_57 ma_s_max ma_i rfl (by decide) rfl ?_
            refine v_ireturn dX7_figure_155 rfl ?_
            exact hq
        · first | rw [if_pos c65] at hq | rw [if_neg c65] at hq | skip
          refine v_iload_n 69 dX7_figure_68 rfl rfl ?_
          refine v_aload_n 70 dX7_figure_69 rfl rfl ?_
          refine v_getfr 73 dX7_figure_70 fl_X7_7 (by first | assumption | rfl) (by rfl) rfl ?_
          rw [T2.2.2.2.1, I.lg hf]
          refine v_getfi 76 dX7_figure_73 fl_X7_51 (by first | assumption | rfl) (by rfl) rfl ?_
          rw [T1.2.2.1]
          refine v_iconstv (v := 2) 77 dX7_figure_76 (by decide) rfl ?_
          refine v_icmp_ne 85 80 dX7_figure_77 (by decide) rfl (fun c77 => ?_) (fun c77 => ?_)
          · first | rw [if_pos c77] at hq | rw [if_neg c77] at hq | skip
            refine v_bipushv (v := 10) 87 dX7_figure_85 (by decide) rfl ?_
            refine v_iload_n 88 dX7_figure_87 rfl rfl ?_
            refine v_bipushv (v := 12) 90 dX7_figure_88 (by decide) rfl ?_
            refine v_isub 91 dX7_figure_90 rfl ?_
            refine v_abs 94 dX7_figure_91 ma_X7_54 ma_s_abs ma_i rfl (by decide) rfl ?_
            refine v_iconstv (v := 2) 95 dX7_figure_94 (by decide) rfl ?_
            refine v_idiv 96 dX7_figure_95 (by decide) rfl ?_
            refine v_isub 97 dX7_figure_96 rfl ?_
            refine v_iadd 98 dX7_figure_97 rfl ?_
            refine v_istore_n 99 dX7_figure_98 (by decide) rfl rfl ?_
            dsimp only [List.set]
            refine v_goto 145 dX7_figure_99 (by decide) ?_
            refine v_iconstv (v := 0) 146 dX7_figure_145 (by decide) rfl ?_
            refine v_bipushv (v := 99) 148 dX7_figure_146 (by decide) rfl ?_
            refine v_iload_n 149 dX7_figure_148 rfl rfl ?_
            refine v_min 152 dX7_figure_149 ma_X7_26 ma_s_min ma_i rfl (by decide) rfl ?_
            refine v_max 155 dX7_figure_152 ma_X7_57 ma_s_max ma_i rfl (by decide) rfl ?_
            refine v_ireturn dX7_figure_155 rfl ?_
            exact hq
          · first | rw [if_pos c77] at hq | rw [if_neg c77] at hq | skip
            refine v_bipushv (v := 30) 82 dX7_figure_80 (by decide) rfl ?_
            refine v_goto 87 dX7_figure_82 (by decide) ?_
            refine v_iload_n 88 dX7_figure_87 rfl rfl ?_
            refine v_bipushv (v := 12) 90 dX7_figure_88 (by decide) rfl ?_
            refine v_isub 91 dX7_figure_90 rfl ?_
            refine v_abs 94 dX7_figure_91 ma_X7_54 ma_s_abs ma_i rfl (by decide) rfl ?_
            refine v_iconstv (v := 2) 95 dX7_figure_94 (by decide) rfl ?_
            refine v_idiv 96 dX7_figure_95 (by decide) rfl ?_
            refine v_isub 97 dX7_figure_96 rfl ?_
            refine v_iadd 98 dX7_figure_97 rfl ?_
            refine v_istore_n 99 dX7_figure_98 (by decide) rfl rfl ?_
            dsimp only [List.set]
            refine v_goto 145 dX7_figure_99 (by decide) ?_
            refine v_iconstv (v := 0) 146 dX7_figure_145 (by decide) rfl ?_
            refine v_bipushv (v := 99) 148 dX7_figure_146 (by decide) rfl ?_
            refine v_iload_n 149 dX7_figure_148 rfl rfl ?_
            refine v_min 152 dX7_figure_149 ma_X7_26 ma_s_min ma_i rfl (by decide) rfl ?_
            refine v_max 155 dX7_figure_152 ma_X7_57 ma_s_max ma_i rfl (by decide) rfl ?_
            refine v_ireturn dX7_figure_155 rfl ?_
            exact hq
      · first | rw [if_pos c43] at hq | rw [if_neg c43] at hq | skip
        refine v_iload_n 47 dX7_figure_46 rfl rfl ?_
        refine v_bipushv (v := 15) 49 dX7_figure_47 (by decide) rfl ?_
        refine v_iload_n 50 dX7_figure_49 rfl rfl ?_
        refine v_bipushv (v := 8) 52 dX7_figure_50 (by decide) rfl ?_
        refine v_irem 53 dX7_figure_52 (by decide) rfl ?_
        refine v_isub 54 dX7_figure_53 rfl ?_
        refine v_iadd 55 dX7_figure_54 rfl ?_
        refine v_istore_n 56 dX7_figure_55 (by decide) rfl rfl ?_
        dsimp only [List.set]
        refine v_goto 145 dX7_figure_56 (by decide) ?_
        refine v_iconstv (v := 0) 146 dX7_figure_145 (by decide) rfl ?_
        refine v_bipushv (v := 99) 148 dX7_figure_146 (by decide) rfl ?_
        refine v_iload_n 149 dX7_figure_148 rfl rfl ?_
        refine v_min 152 dX7_figure_149 ma_X7_26 ma_s_min ma_i rfl (by decide) rfl ?_
        refine v_max 155 dX7_figure_152 ma_X7_57 ma_s_max ma_i rfl (by decide) rfl ?_
        refine v_ireturn dX7_figure_155 rfl ?_
        exact hq
  · first | rw [if_pos c9] at hq | rw [if_neg c9] at hq | skip
    refine v_bipushv (v := 10) 14 dX7_figure_12 (by decide) rfl ?_
    refine v_goto 36 dX7_figure_14 (by decide) ?_
    refine v_istore_n 37 dX7_figure_36 (by decide) rfl rfl ?_
    dsimp only [List.set]
    refine v_aload_n 38 dX7_figure_37 rfl rfl ?_
    refine v_getfi 41 dX7_figure_38 fl_X7_13 (by first | assumption | rfl) (by rfl) rfl ?_
    rw [T2.2.2.1]
    refine v_bipushv (v := 102) 43 dX7_figure_41 (by decide) rfl ?_
    refine v_icmp_ne 59 46 dX7_figure_43 (by decide) rfl (fun c43 => ?_) (fun c43 => ?_)
    · first | rw [if_pos c43] at hq | rw [if_neg c43] at hq | skip
      refine v_aload_n 60 dX7_figure_59 rfl rfl ?_
      refine v_getfi 63 dX7_figure_60 fl_X7_13 (by first | assumption | rfl) (by rfl) rfl ?_
      rw [T2.2.2.1]
      refine v_bipushv (v := 113) 65 dX7_figure_63 (by decide) rfl ?_
      refine v_icmp_ne 102 68 dX7_figure_65 (by decide) rfl (fun c65 => ?_) (fun c65 => ?_)
      · first | rw [if_pos c65] at hq | rw [if_neg c65] at hq | skip
        refine v_aload_n 103 dX7_figure_102 rfl rfl ?_
        refine v_getfi 106 dX7_figure_103 fl_X7_13 (by first | assumption | rfl) (by rfl) rfl ?_
        rw [T2.2.2.1]
        refine v_bipushv (v := 114) 108 dX7_figure_106 (by decide) rfl ?_
        refine v_icmp_ne 117 111 dX7_figure_108 (by decide) rfl (fun c108 => ?_) (fun c108 => ?_)
        · first | rw [if_pos c108] at hq | rw [if_neg c108] at hq | skip
          refine v_iload_n 118 dX7_figure_117 rfl rfl ?_
          refine v_bipushv (v := 20) 120 dX7_figure_118 (by decide) rfl ?_
          refine v_aload_n 121 dX7_figure_120 rfl rfl ?_
          refine v_getfr 124 dX7_figure_121 fl_X7_7 (by first | assumption | rfl) (by rfl) rfl ?_
          rw [T2.2.2.2.1, I.lg hf]
          refine v_getfi 127 dX7_figure_124 fl_X7_48 (by first | assumption | rfl) (by rfl) rfl ?_
          rw [T1.2.2.1]
          refine v_bipushv (v := 98) 129 dX7_figure_127 (by decide) rfl ?_
          refine v_icmp_ne 137 132 dX7_figure_129 (by decide) rfl (fun c129 => ?_) (fun c129 => ?_)
          · first | rw [if_pos c129] at hq | rw [if_neg c129] at hq | skip
            refine v_iconstv (v := 0) 138 dX7_figure_137 (by decide) rfl ?_
            refine v_iadd 139 dX7_figure_138 rfl ?_
            refine v_iload_n 140 dX7_figure_139 rfl rfl ?_
            refine v_iconstv (v := 2) 141 dX7_figure_140 (by decide) rfl ?_
            refine v_idiv 142 dX7_figure_141 (by decide) rfl ?_
            refine v_isub 143 dX7_figure_142 rfl ?_
            refine v_iadd 144 dX7_figure_143 rfl ?_
            refine v_istore_n 145 dX7_figure_144 (by decide) rfl rfl ?_
            dsimp only [List.set]
            refine v_iconstv (v := 0) 146 dX7_figure_145 (by decide) rfl ?_
            refine v_bipushv (v := 99) 148 dX7_figure_146 (by decide) rfl ?_
            refine v_iload_n 149 dX7_figure_148 rfl rfl ?_
            refine v_min 152 dX7_figure_149 ma_X7_26 ma_s_min ma_i rfl (by decide) rfl ?_
            refine v_max 155 dX7_figure_152 ma_X7_57 ma_s_max ma_i rfl (by decide) rfl ?_
            refine v_ireturn dX7_figure_155 rfl ?_
            exact hq
          · first | rw [if_pos c129] at hq | rw [if_neg c129] at hq | skip
            refine v_bipushv (v := 30) 134 dX7_figure_132 (by decide) rfl ?_
            refine v_goto 138 dX7_figure_134 (by decide) ?_
            refine v_iadd 139 dX7_figure_138 rfl ?_
            refine v_iload_n 140 dX7_figure_139 rfl rfl ?_
            refine v_iconstv (v := 2) 141 dX7_figure_140 (by decide) rfl ?_
            refine v_idiv 142 dX7_figure_141 (by decide) rfl ?_
            refine v_isub 143 dX7_figure_142 rfl ?_
            refine v_iadd 144 dX7_figure_143 rfl ?_
            refine v_istore_n 145 dX7_figure_144 (by decide) rfl rfl ?_
            dsimp only [List.set]
            refine v_iconstv (v := 0) 146 dX7_figure_145 (by decide) rfl ?_
            refine v_bipushv (v := 99) 148 dX7_figure_146 (by decide) rfl ?_
            refine v_iload_n 149 dX7_figure_148 rfl rfl ?_
            refine v_min 152 dX7_figure_149 ma_X7_26 ma_s_min ma_i rfl (by decide) rfl ?_
            refine v_max 155 dX7_figure_152 ma_X7_57 ma_s_max ma_i rfl (by decide) rfl ?_
            refine v_ireturn dX7_figure_155 rfl ?_
            exact hq
        · first | rw [if_pos c108] at hq | rw [if_neg c108] at hq | skip
          refine v_iinc 114 dX7_figure_111 rfl (by decide) rfl rfl ?_
          dsimp only [List.set]
          refine v_goto 145 dX7_figure_114 (by decide) ?_
          refine v_iconstv (v := 0) 146 dX7_figure_145 (by decide) rfl ?_
          refine v_bipushv (v := 99) 148 dX7_figure_146 (by decide) rfl ?_
          refine v_iload_n 149 dX7_figure_148 rfl rfl ?_
          refine v_min 152 dX7_figure_149 ma_X7_26 ma_s_min ma_i rfl (by decide) rfl ?_
          refine v_max 155 dX7_figure_152 ma_X7_57 ma_s_max ma_i rfl (by decide) rfl ?_
          refine v_ireturn dX7_figure_155 rfl ?_
          exact hq
      · first | rw [if_pos c65] at hq | rw [if_neg c65] at hq | skip
        refine v_iload_n 69 dX7_figure_68 rfl rfl ?_
        refine v_aload_n 70 dX7_figure_69 rfl rfl ?_
        refine v_getfr 73 dX7_figure_70 fl_X7_7 (by first | assumption | rfl) (by rfl) rfl ?_
        rw [T2.2.2.2.1, I.lg hf]
        refine v_getfi 76 dX7_figure_73 fl_X7_51 (by first | assumption | rfl) (by rfl) rfl ?_
        rw [T1.2.2.1]
        refine v_iconstv (v := 2) 77 dX7_figure_76 (by decide) rfl ?_
        refine v_icmp_ne 85 80 dX7_figure_77 (by decide) rfl (fun c77 => ?_) (fun c77 => ?_)
        · first | rw [if_pos c77] at hq | rw [if_neg c77] at hq | skip
          refine v_bipushv (v := 10) 87 dX7_figure_85 (by decide) rfl ?_
          refine v_iload_n 88 dX7_figure_87 rfl rfl ?_
          refine v_bipushv (v := 12) 90 dX7_figure_88 (by decide) rfl ?_
          refine v_isub 91 dX7_figure_90 rfl ?_
          refine v_abs 94 dX7_figure_91 ma_X7_54 ma_s_abs ma_i rfl (by decide) rfl ?_
          refine v_iconstv (v := 2) 95 dX7_figure_94 (by decide) rfl ?_
          refine v_idiv 96 dX7_figure_95 (by decide) rfl ?_
          refine v_isub 97 dX7_figure_96 rfl ?_
          refine v_iadd 98 dX7_figure_97 rfl ?_
          refine v_istore_n 99 dX7_figure_98 (by decide) rfl rfl ?_
          dsimp only [List.set]
          refine v_goto 145 dX7_figure_99 (by decide) ?_
          refine v_iconstv (v := 0) 146 dX7_figure_145 (by decide) rfl ?_
          refine v_bipushv (v := 99) 148 dX7_figure_146 (by decide) rfl ?_
          refine v_iload_n 149 dX7_figure_148 rfl rfl ?_
          refine v_min 152 dX7_figure_149 ma_X7_26 ma_s_min ma_i rfl (by decide) rfl ?_
          refine v_max 155 dX7_figure_152 ma_X7_57 ma_s_max ma_i rfl (by decide) rfl ?_
          refine v_ireturn dX7_figure_155 rfl ?_
          exact hq
        · first | rw [if_pos c77] at hq | rw [if_neg c77] at hq | skip
          refine v_bipushv (v := 30) 82 dX7_figure_80 (by decide) rfl ?_
          refine v_goto 87 dX7_figure_82 (by decide) ?_
          refine v_iload_n 88 dX7_figure_87 rfl rfl ?_
          refine v_bipushv (v := 12) 90 dX7_figure_88 (by decide) rfl ?_
          refine v_isub 91 dX7_figure_90 rfl ?_
          refine v_abs 94 dX7_figure_91 ma_X7_54 ma_s_abs ma_i rfl (by decide) rfl ?_
          refine v_iconstv (v := 2) 95 dX7_figure_94 (by decide) rfl ?_
          refine v_idiv 96 dX7_figure_95 (by decide) rfl ?_
          refine v_isub 97 dX7_figure_96 rfl ?_
          refine v_iadd 98 dX7_figure_97 rfl ?_
          refine v_istore_n 99 dX7_figure_98 (by decide) rfl rfl ?_
          dsimp only [List.set]
          refine v_goto 145 dX7_figure_99 (by decide) ?_
          refine v_iconstv (v := 0) 146 dX7_figure_145 (by decide) rfl ?_
          refine v_bipushv (v := 99) 148 dX7_figure_146 (by decide) rfl ?_
          refine v_iload_n 149 dX7_figure_148 rfl rfl ?_
          refine v_min 152 dX7_figure_149 ma_X7_26 ma_s_min ma_i rfl (by decide) rfl ?_
          refine v_max 155 dX7_figure_152 ma_X7_57 ma_s_max ma_i rfl (by decide) rfl ?_
          refine v_ireturn dX7_figure_155 rfl ?_
          exact hq
    · first | rw [if_pos c43] at hq | rw [if_neg c43] at hq | skip
      refine v_iload_n 47 dX7_figure_46 rfl rfl ?_
      refine v_bipushv (v := 15) 49 dX7_figure_47 (by decide) rfl ?_
      refine v_iload_n 50 dX7_figure_49 rfl rfl ?_
      refine v_bipushv (v := 8) 52 dX7_figure_50 (by decide) rfl ?_
      refine v_irem 53 dX7_figure_52 (by decide) rfl ?_
      refine v_isub 54 dX7_figure_53 rfl ?_
      refine v_iadd 55 dX7_figure_54 rfl ?_
      refine v_istore_n 56 dX7_figure_55 (by decide) rfl rfl ?_
      dsimp only [List.set]
      refine v_goto 145 dX7_figure_56 (by decide) ?_
      refine v_iconstv (v := 0) 146 dX7_figure_145 (by decide) rfl ?_
      refine v_bipushv (v := 99) 148 dX7_figure_146 (by decide) rfl ?_
      refine v_iload_n 149 dX7_figure_148 rfl rfl ?_
      refine v_min 152 dX7_figure_149 ma_X7_26 ma_s_min ma_i rfl (by decide) rfl ?_
      refine v_max 155 dX7_figure_152 ma_X7_57 ma_s_max ma_i rfl (by decide) rfl ?_
      refine v_ireturn dX7_figure_155 rfl ?_
      exact hq
set_option maxRecDepth 20000 in
theorem L_X8_jump {G : GW} {h : PH} {Q : RS → PH → Prop} {S : SP} {N : Nat} (T1 : hp_te S.1 h 41) (T2 : hp_te S.1 h 42) (I : Iv S N) {f : Nat} (hf : f < nn_ S 1) {u p a m : Nat} {mt ep s0 : Int32} (hu : tg_k u = some (.inl 12)) (p0 : hp_vr h u p 0 = (42, f)) (p1 : hp_vi h u p 1 = nI a) (p2 : hp_vi h u p 2 = nI m) (ham : a + m ≤ 30) (hm : 1 ≤ m) (hep : ep = if mt = 115 then 5 else if mt = 114 then 3 else 0) (hq : Q (.inl (some (pv_I (jp_ S f a ep s0 (m - 1))))) h) : ∀ fuel : Nat, ∀ (k : Nat), k ≤ m - 1 → m - 1 - k < fuel → VV G 2 0 0 yX8_jump cX8_jump 4 (some .int) [] 32 [some (pv_O (u, p)), some (pv_I mt), some (pv_I (jp_ S f a ep s0 k)), some (pv_I (nI (k + 1)))] [] h Q := by
  intro fuel
  induction fuel with
  | zero =>
    intro k h1 h2
    omega
  | succ fuel ih =>
    intro k h1 h2
    refine v_iload_n 33 dX8_jump_32 rfl rfl ?_
    refine v_aload_n 34 dX8_jump_33 rfl rfl ?_
    refine v_getfi 37 dX8_jump_34 fl_X8_17 (by first | assumption | rfl) (by rfl) rfl ?_
    rw [p2]
    refine v_icmp_ge 103 40 dX8_jump_37 (by decide) rfl (fun c37 => ?_) (fun c37 => ?_)
    · have hkm : k = m - 1 := by
        rcases Nat.lt_or_ge (k + 1) m with q | q
        · exact absurd c37 (nI_ge q (by omega))
        · omega
      subst hkm
      refine v_iload_n 104 dX8_jump_103 rfl rfl ?_
      refine v_ireturn dX8_jump_104 rfl ?_
      exact hq
    · have hkm : k < m - 1 := by
        rcases Nat.lt_or_ge (k + 1) m with q | q
        · omega
        · exact absurd (nI_le q (by omega)) c37
      refine v_iload_n 41 dX8_jump_40 rfl rfl ?_
      refine v_aload_n 42 dX8_jump_41 rfl rfl ?_
      refine v_getfr 45 dX8_jump_42 fl_X8_7 (by first | assumption | rfl) (by rfl) rfl ?_
      rw [p0]
      refine v_aload_n 46 dX8_jump_45 rfl rfl ?_
      refine v_getfi 49 dX8_jump_46 fl_X8_13 (by first | assumption | rfl) (by rfl) rfl ?_
      rw [p1]
      refine v_iload_n 50 dX8_jump_49 rfl rfl ?_
      refine v_iadd 51 dX8_jump_50 rfl ?_
      rw [nI_add]
      refine v_invv (d' := 1) (k' := 0) (n' := 0) (k2 := 0) (n2 := 0) 54 [_] dX8_jump_51 mt_X8_20 mi_X7_figure me_X7_figure (by first | assumption | rfl) (by rfl) rfl rfl (of_decide_eq_true rfl) rfl (by decide) rfl rfl rfl rfl (C_X7_figure T1 T2 I hf ?_)
      refine v_aload_n 55 dX8_jump_54 rfl rfl ?_
      refine v_getfr 58 dX8_jump_55 fl_X8_7 (by first | assumption | rfl) (by rfl) rfl ?_
      rw [p0]
      refine v_aload_n 59 dX8_jump_58 rfl rfl ?_
      refine v_getfi 62 dX8_jump_59 fl_X8_13 (by first | assumption | rfl) (by rfl) rfl ?_
      rw [p1]
      refine v_iload_n 63 dX8_jump_62 rfl rfl ?_
      refine v_iadd 64 dX8_jump_63 rfl ?_
      rw [nI_add]
      refine v_iconstv (v := 1) 65 dX8_jump_64 (by decide) rfl ?_
      refine v_isub 66 dX8_jump_65 rfl ?_
      rw [show nI (a + (k + 1)) - 1 = nI (a + k) from pk_sub (a := a + (k + 1)) (b := 1) (by omega)]
      refine v_invv (d' := 1) (k' := 0) (n' := 0) (k2 := 0) (n2 := 0) 69 [_] dX8_jump_66 mt_X8_20 mi_X7_figure me_X7_figure (by first | assumption | rfl) (by rfl) rfl rfl (of_decide_eq_true rfl) rfl (by decide) rfl rfl rfl rfl (C_X7_figure T1 T2 I hf ?_)
      refine v_isub 70 dX8_jump_69 rfl ?_
      refine v_abs 73 dX8_jump_70 ma_X8_26 ma_s_abs ma_i rfl (by decide) rfl ?_
      refine v_iload_n 74 dX8_jump_73 rfl rfl ?_
      refine v_bipushv (v := 115) 76 dX8_jump_74 (by decide) rfl ?_
      refine v_icmp_ne 83 79 dX8_jump_76 (by decide) rfl (fun c76 => ?_) (fun c76 => ?_)
      · refine v_iload_n 84 dX8_jump_83 rfl rfl ?_
        refine v_bipushv (v := 114) 86 dX8_jump_84 (by decide) rfl ?_
        refine v_icmp_ne 93 89 dX8_jump_86 (by decide) rfl (fun c86 => ?_) (fun c86 => ?_)
        · refine v_iconstv (v := 0) 94 dX8_jump_93 (by decide) rfl ?_
          refine v_iadd 95 dX8_jump_94 rfl ?_
          refine v_iadd 96 dX8_jump_95 rfl ?_
          refine v_istore_n 97 dX8_jump_96 (by decide) rfl rfl ?_
          dsimp only [List.set]
          refine v_iinc 100 dX8_jump_97 rfl (by decide) rfl rfl ?_
          dsimp only [List.set]
          refine v_goto 32 dX8_jump_100 (by decide) ?_
          rw [show nI (k + 1) + Int32.ofInt 1 = nI (k + 1 + 1) from nI_1 (k + 1)]
          have er : jp_ S f a ep s0 (k + 1) = jp_ S f a ep s0 k + (ab_ (s_f S f (nI (a + k + 1)) - s_f S f (nI (a + k))) + ep) := rfl
          rw [if_neg c76, if_neg c86] at hep
          subst hep
          have X := ih (k + 1) (by omega) (by omega)
          rw [er] at X
          exact X
        · refine v_iconstv (v := 3) 90 dX8_jump_89 (by decide) rfl ?_
          refine v_goto 94 dX8_jump_90 (by decide) ?_
          refine v_iadd 95 dX8_jump_94 rfl ?_
          refine v_iadd 96 dX8_jump_95 rfl ?_
          refine v_istore_n 97 dX8_jump_96 (by decide) rfl rfl ?_
          dsimp only [List.set]
          refine v_iinc 100 dX8_jump_97 rfl (by decide) rfl rfl ?_
          dsimp only [List.set]
          refine v_goto 32 dX8_jump_100 (by decide) ?_
          rw [show nI (k + 1) + Int32.ofInt 1 = nI (k + 1 + 1) from nI_1 (k + 1)]
          have er : jp_ S f a ep s0 (k + 1) = jp_ S f a ep s0 k + (ab_ (s_f S f (nI (a + k + 1)) - s_f S f (nI (a + k))) + ep) := rfl
          rw [if_neg c76, if_pos c86] at hep
          subst hep
          have X := ih (k + 1) (by omega) (by omega)
          rw [er] at X
          exact X
      · refine v_iconstv (v := 5) 80 dX8_jump_79 (by decide) rfl ?_
        refine v_goto 94 dX8_jump_80 (by decide) ?_
        refine v_iadd 95 dX8_jump_94 rfl ?_
        refine v_iadd 96 dX8_jump_95 rfl ?_
        refine v_istore_n 97 dX8_jump_96 (by decide) rfl rfl ?_
        dsimp only [List.set]
        refine v_iinc 100 dX8_jump_97 rfl (by decide) rfl rfl ?_
        dsimp only [List.set]
        refine v_goto 32 dX8_jump_100 (by decide) ?_
        rw [show nI (k + 1) + Int32.ofInt 1 = nI (k + 1 + 1) from nI_1 (k + 1)]
        have er : jp_ S f a ep s0 (k + 1) = jp_ S f a ep s0 k + (ab_ (s_f S f (nI (a + k + 1)) - s_f S f (nI (a + k))) + ep) := rfl
        rw [if_pos c76] at hep
        subst hep
        have X := ih (k + 1) (by omega) (by omega)
        rw [er] at X
        exact X
set_option maxRecDepth 20000 in
theorem C_X8_jump {G : GW} {h : PH} {Q : RS → PH → Prop} {S : SP} {N : Nat} (T1 : hp_te S.1 h 41) (T2 : hp_te S.1 h 42) (I : Iv S N) {f : Nat} (hf : f < nn_ S 1) {u p a m : Nat} {mt : Int32} (hu : tg_k u = some (.inl 12)) (p0 : hp_vr h u p 0 = (42, f)) (p1 : hp_vi h u p 1 = nI a) (p2 : hp_vi h u p 2 = nI m) (ham : a + m ≤ 30) (hm : 1 ≤ m) (hq : Q (.inl (some (pv_I (s_jp S f a m mt)))) h) : VV G 2 0 0 yX8_jump cX8_jump 4 (some .int) [] 0 (vv_en 4 [pv_O (u, p), pv_I mt]) [] h Q := by
  show VV G 2 0 0 yX8_jump cX8_jump 4 (some .int) [] 0 [some (pv_O (u, p)), some (pv_I mt), none, none] [] h Q
  unfold s_jp at hq
  refine v_iload_n 1 dX8_jump_0 rfl rfl ?_
  refine v_bipushv (v := 98) 3 dX8_jump_1 (by decide) rfl ?_
  refine v_icmp_ne 28 6 dX8_jump_3 (by decide) rfl (fun c3 => ?_) (fun c3 => ?_)
  · rw [if_neg c3] at hq
    refine v_iconstv (v := 0) 29 dX8_jump_28 (by decide) rfl ?_
    refine v_istore_n 30 dX8_jump_29 (by decide) rfl rfl ?_
    dsimp only [List.set]
    refine v_iconstv (v := 1) 31 dX8_jump_30 (by decide) rfl ?_
    refine v_istore_n 32 dX8_jump_31 (by decide) rfl rfl ?_
    dsimp only [List.set]
    refine L_X8_jump T1 T2 I hf hu p0 p1 p2 ham hm rfl ?_ (m + 1) 0 (Nat.zero_le _) (by omega)
    first | exact hq | (simp_all; done)
  · rw [if_pos c3] at hq
    refine v_aload_n 7 dX8_jump_6 rfl rfl ?_
    refine v_getfi 10 dX8_jump_7 fl_X8_17 (by first | assumption | rfl) (by rfl) rfl ?_
    rw [p2]
    refine v_iconstv (v := 2) 11 dX8_jump_10 (by decide) rfl ?_
    refine v_irem 12 dX8_jump_11 (by decide) rfl ?_
    refine v_iconstv (v := 1) 13 dX8_jump_12 (by decide) rfl ?_
    refine v_icmp_ne 28 16 dX8_jump_13 (by decide) rfl (fun c13 => ?_) (fun c13 => ?_)
    · have e9 : (if nI m ≤ 1 then (0 : Int32) else if rm_ (nI m) 2 = 1 then 4 else 0) = 0 := by
        by_cases q : nI m ≤ 1
        · exact if_pos q
        · rw [if_neg q]; exact if_neg c13
      rw [e9] at hq
      refine v_iconstv (v := 0) 29 dX8_jump_28 (by decide) rfl ?_
      refine v_istore_n 30 dX8_jump_29 (by decide) rfl rfl ?_
      dsimp only [List.set]
      refine v_iconstv (v := 1) 31 dX8_jump_30 (by decide) rfl ?_
      refine v_istore_n 32 dX8_jump_31 (by decide) rfl rfl ?_
      dsimp only [List.set]
      refine L_X8_jump T1 T2 I hf hu p0 p1 p2 ham hm rfl ?_ (m + 1) 0 (Nat.zero_le _) (by omega)
      first | exact hq | (simp_all; done)
    · refine v_aload_n 17 dX8_jump_16 rfl rfl ?_
      refine v_getfi 20 dX8_jump_17 fl_X8_17 (by first | assumption | rfl) (by rfl) rfl ?_
      rw [p2]
      refine v_iconstv (v := 1) 21 dX8_jump_20 (by decide) rfl ?_
      refine v_icmp_le 28 24 dX8_jump_21 (by decide) rfl (fun c21 => ?_) (fun c21 => ?_)
      · rw [if_pos c21] at hq
        refine v_iconstv (v := 0) 29 dX8_jump_28 (by decide) rfl ?_
        refine v_istore_n 30 dX8_jump_29 (by decide) rfl rfl ?_
        dsimp only [List.set]
        refine v_iconstv (v := 1) 31 dX8_jump_30 (by decide) rfl ?_
        refine v_istore_n 32 dX8_jump_31 (by decide) rfl rfl ?_
        dsimp only [List.set]
        refine L_X8_jump T1 T2 I hf hu p0 p1 p2 ham hm rfl ?_ (m + 1) 0 (Nat.zero_le _) (by omega)
        first | exact hq | (simp_all; done)
      · rw [if_neg c21, if_pos c13] at hq
        refine v_iconstv (v := 4) 25 dX8_jump_24 (by decide) rfl ?_
        refine v_goto 29 dX8_jump_25 (by decide) ?_
        refine v_istore_n 30 dX8_jump_29 (by decide) rfl rfl ?_
        dsimp only [List.set]
        refine v_iconstv (v := 1) 31 dX8_jump_30 (by decide) rfl ?_
        refine v_istore_n 32 dX8_jump_31 (by decide) rfl rfl ?_
        dsimp only [List.set]
        refine L_X8_jump T1 T2 I hf hu p0 p1 p2 ham hm rfl ?_ (m + 1) 0 (Nat.zero_le _) (by omega)
        first | exact hq | (simp_all; done)
