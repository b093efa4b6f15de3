theorem al_n {h : PH} {t i n u j : Nat} : hp_al (hp_new h t i n) u j = if u = t ∧ j = i then true else hp_al h u j := rfl
theorem al_r {h : PH} {t i k u j : Nat} {x : RN} : hp_al (hp_setr h t i k x) u j = hp_al h u j := rfl
theorem al_i {h : PH} {t i k u j : Nat} {x : Int32} : hp_al (hp_seti h t i k x) u j = hp_al h u j := rfl
set_option maxRecDepth 20000 in
theorem C_X1_init {G : GW} {h : PH} {Q : RS → PH → Prop} {i : Nat} {x0 x1 x2 x3 : Int32} (h0 : narrow .char (.int x0) = .int x0 ∧ fits .char (.int x0) = true) (h3 : narrow .char (.int x3) = .int x3 ∧ fits .char (.int x3) = true) (hq : Q (.inl none) (hp_seti (hp_seti (hp_seti (hp_seti h 11 i 0 x0) 11 i 1 x1) 11 i 2 x2) 11 i 3 x3)) : VV G 1 0 0 yX1_init cX1_init 5 (none) [] 0 (vv_en 5 [pv_O (11, i), pv_I x0, pv_I x1, pv_I x2, pv_I x3]) [] h Q := by
  show VV G 1 0 0 yX1_init cX1_init 5 (none) [] 0 [some (pv_O (11, i)), some (pv_I x0), some (pv_I x1), some (pv_I x2), some (pv_I x3)] [] h Q
  refine v_aload_n 1 dX1_init_0 rfl rfl ?_
  refine v_objinit 4 dX1_init_1 oi_X1_1 oi_1 oi_2 (by first | decide | (dsimp only; omega)) (by first | decide | (dsimp only; omega)) (by first | decide | (dsimp only; omega)) rfl ?_
  refine v_aload_n 5 dX1_init_4 rfl rfl ?_
  refine v_iload_n 6 dX1_init_5 rfl rfl ?_
  refine v_putfi 9 dX1_init_6 pf_X1_init_7 (by first | assumption | rfl) (by first | assumption | decide) (by rfl) h0.1 h0.2 rfl ?_
  refine v_aload_n 10 dX1_init_9 rfl rfl ?_
  refine v_iload_n 11 dX1_init_10 rfl rfl ?_
  refine v_putfi 14 dX1_init_11 pf_X1_init_13 (by first | assumption | rfl) (by first | assumption | decide) (by rfl) rfl rfl rfl ?_
  refine v_aload_n 15 dX1_init_14 rfl rfl ?_
  refine v_iload_n 16 dX1_init_15 rfl rfl ?_
  refine v_putfi 19 dX1_init_16 pf_X1_init_17 (by first | assumption | rfl) (by first | assumption | decide) (by rfl) rfl rfl rfl ?_
  refine v_aload_n 20 dX1_init_19 rfl rfl ?_
  refine v_iload 22 dX1_init_20 rfl rfl ?_
  refine v_putfi 25 dX1_init_22 pf_X1_init_20 (by first | assumption | rfl) (by first | assumption | decide) (by rfl) h3.1 h3.2 rfl ?_
  refine v_return dX1_init_25 rfl ?_
  exact hq
set_option maxRecDepth 20000 in
theorem C_X3_init {G : GW} {h : PH} {Q : RS → PH → Prop} {t i : Nat} {r : RN} {x1 x2 : Int32} (ht : tg_k t = some (.inl 7)) (h10 : 10 ≤ t) (hq : Q (.inl none) (hp_seti (hp_seti (hp_setr h t i 0 r) t i 1 x1) t i 2 x2)) : VV G 1 0 0 yX3_init cX3_init 4 (none) [] 0 (vv_en 4 [pv_O (t, i), pv_O r, pv_I x1, pv_I x2]) [] h Q := by
  show VV G 1 0 0 yX3_init cX3_init 4 (none) [] 0 [some (pv_O (t, i)), some (pv_O r), some (pv_I x1), some (pv_I x2)] [] h Q
  refine v_aload_n 1 dX3_init_0 rfl rfl ?_
  refine v_objinit 4 dX3_init_1 oi_X3_1 oi_1 oi_2 (by first | decide | (dsimp only; omega)) (by first | decide | (dsimp only; omega)) (by first | decide | (dsimp only; omega)) rfl ?_
  refine v_aload_n 5 dX3_init_4 rfl rfl ?_
  refine v_aload_n 6 dX3_init_5 rfl rfl ?_
  refine v_putfr 9 dX3_init_6 pf_X3_init_7 (by first | assumption | rfl) (by first | assumption | decide) (by rfl) rfl ?_
  refine v_aload_n 10 dX3_init_9 rfl rfl ?_
  refine v_iload_n 11 dX3_init_10 rfl rfl ?_
  refine v_putfi 14 dX3_init_11 pf_X3_init_13 (by first | assumption | rfl) (by first | assumption | decide) (by rfl) rfl rfl rfl ?_
  refine v_aload_n 15 dX3_init_14 rfl rfl ?_
  refine v_iload_n 16 dX3_init_15 rfl rfl ?_
  refine v_putfi 19 dX3_init_16 pf_X3_init_17 (by first | assumption | rfl) (by first | assumption | decide) (by rfl) rfl rfl rfl ?_
  refine v_return dX3_init_19 rfl ?_
  exact hq
set_option maxRecDepth 20000 in
theorem C_X2_init {G : GW} {h : PH} {Q : RS → PH → Prop} {i : Nat} {x0 x1 : Int32} (hq : Q (.inl none) (hp_seti (hp_seti h 15 i 0 x0) 15 i 1 x1)) : VV G 1 0 0 yX2_init cX2_init 3 (none) [] 0 (vv_en 3 [pv_O (15, i), pv_I x0, pv_I x1]) [] h Q := by
  show VV G 1 0 0 yX2_init cX2_init 3 (none) [] 0 [some (pv_O (15, i)), some (pv_I x0), some (pv_I x1)] [] h Q
  refine v_aload_n 1 dX2_init_0 rfl rfl ?_
  refine v_objinit 4 dX2_init_1 oi_X2_1 oi_1 oi_2 (by first | decide | (dsimp only; omega)) (by first | decide | (dsimp only; omega)) (by first | decide | (dsimp only; omega)) rfl ?_
  refine v_aload_n 5 dX2_init_4 rfl rfl ?_
  refine v_iload_n 6 dX2_init_5 rfl rfl ?_
  refine v_putfi 9 dX2_init_6 pf_X2_init_7 (by first | assumption | rfl) (by first | assumption | decide) (by rfl) rfl rfl rfl ?_
  refine v_aload_n 10 dX2_init_9 rfl rfl ?_
  refine v_iload_n 11 dX2_init_10 rfl rfl ?_
  refine v_putfi 14 dX2_init_11 pf_X2_init_13 (by first | assumption | rfl) (by first | assumption | decide) (by rfl) rfl rfl rfl ?_
  refine v_return dX2_init_14 rfl ?_
  exact hq
set_option maxRecDepth 20000 in
theorem C_X4_init {G : GW} {h : PH} {Q : RS → PH → Prop} {i : Nat} {x0 x1 x2 x3 : Int32} (h2 : narrow .char (.int x2) = .int x2 ∧ fits .char (.int x2) = true) (hq : Q (.inl none) (hp_seti (hp_seti (hp_seti (hp_seti h 13 i 0 x0) 13 i 1 x1) 13 i 2 x2) 13 i 3 x3)) : VV G 1 0 0 yX4_init cX4_init 5 (none) [] 0 (vv_en 5 [pv_O (13, i), pv_I x0, pv_I x1, pv_I x2, pv_I x3]) [] h Q := by
  show VV G 1 0 0 yX4_init cX4_init 5 (none) [] 0 [some (pv_O (13, i)), some (pv_I x0), some (pv_I x1), some (pv_I x2), some (pv_I x3)] [] h Q
  refine v_aload_n 1 dX4_init_0 rfl rfl ?_
  refine v_objinit 4 dX4_init_1 oi_X4_3 oi_1 oi_2 (by first | decide | (dsimp only; omega)) (by first | decide | (dsimp only; omega)) (by first | decide | (dsimp only; omega)) rfl ?_
  refine v_aload_n 5 dX4_init_4 rfl rfl ?_
  refine v_iload_n 6 dX4_init_5 rfl rfl ?_
  refine v_putfi 9 dX4_init_6 pf_X4_init_9 (by first | assumption | rfl) (by first | assumption | decide) (by rfl) rfl rfl rfl ?_
  refine v_aload_n 10 dX4_init_9 rfl rfl ?_
  refine v_iload_n 11 dX4_init_10 rfl rfl ?_
  refine v_putfi 14 dX4_init_11 pf_X4_init_15 (by first | assumption | rfl) (by first | assumption | decide) (by rfl) rfl rfl rfl ?_
  refine v_aload_n 15 dX4_init_14 rfl rfl ?_
  refine v_iload_n 16 dX4_init_15 rfl rfl ?_
  refine v_putfi 19 dX4_init_16 pf_X4_init_18 (by first | assumption | rfl) (by first | assumption | decide) (by rfl) h2.1 h2.2 rfl ?_
  refine v_aload_n 20 dX4_init_19 rfl rfl ?_
  refine v_iload 22 dX4_init_20 rfl rfl ?_
  refine v_putfi 25 dX4_init_22 pf_X4_init_22 (by first | assumption | rfl) (by first | assumption | decide) (by rfl) rfl rfl rfl ?_
  refine v_return dX4_init_25 rfl ?_
  exact hq
set_option maxRecDepth 20000 in
theorem C_X5_init {G : GW} {h : PH} {Q : RS → PH → Prop} {i : Nat} (f3 : hp_al h 33 i = false) (f4 : hp_al h 34 i = false) (f5 : hp_al h 35 i = false) (f6 : hp_al h 36 i = false) (hq : Q (.inl none) (hp_seti (hp_seti (hp_setr (hp_new (hp_setr (hp_new (hp_setr (hp_new (hp_setr (hp_new h 33 i 64) 14 i 0 (33, i)) 34 i 8) 14 i 1 (34, i)) 35 i 64) 14 i 2 (35, i)) 36 i 64) 14 i 3 (36, i)) 14 i 5 1) 14 i 7 64)) : VV G 1 4 200 yX5_init cX5_init 1 (none) [] 0 (vv_en 1 [pv_O (14, i)]) [] h Q := by
  show VV G 1 4 200 yX5_init cX5_init 1 (none) [] 0 [some (pv_O (14, i))] [] h Q
  refine v_aload_n 1 dX5_init_0 rfl rfl ?_
  refine v_objinit 4 dX5_init_1 oi_X5_3 oi_1 oi_2 (by first | decide | (dsimp only; omega)) (by first | decide | (dsimp only; omega)) (by first | decide | (dsimp only; omega)) rfl ?_
  refine v_aload_n 5 dX5_init_4 rfl rfl ?_
  refine v_bipushv (v := 64) 7 dX5_init_5 (by decide) rfl ?_
  refine v_newarr (ty := .int) (N := 64) (k1 := 3) (n1 := 136) 9 33 i dX5_init_7 ac_int rfl (by simp [g_tys]) (by rfl) (by decide) f3 (by decide) (by decide) (by decide) rfl rfl rfl ?_
  refine v_putfr 12 dX5_init_9 pf_X5_init_9 (by first | assumption | rfl) (by first | assumption | decide) (by rfl) rfl ?_
  refine v_aload_n 13 dX5_init_12 rfl rfl ?_
  refine v_bipushv (v := 8) 15 dX5_init_13 (by decide) rfl ?_
  refine v_newarr (ty := .int) (N := 8) (k1 := 2) (n1 := 128) 17 34 i dX5_init_15 ac_int rfl (by simp [g_tys]) (by rfl) (by decide) (by simp [al_n, al_r, al_i, f4]) (by decide) (by decide) (by decide) rfl rfl rfl ?_
  refine v_putfr 20 dX5_init_17 pf_X5_init_15 (by first | assumption | rfl) (by first | assumption | decide) (by rfl) rfl ?_
  refine v_aload_n 21 dX5_init_20 rfl rfl ?_
  refine v_bipushv (v := 64) 23 dX5_init_21 (by decide) rfl ?_
  refine v_newarr (ty := .boolean) (N := 64) (k1 := 1) (n1 := 64) 25 35 i dX5_init_23 ac_boolean rfl (by simp [g_tys]) (by rfl) (by decide) (by simp [al_n, al_r, al_i, f5]) (by decide) (by decide) (by decide) rfl rfl rfl ?_
  refine v_putfr 28 dX5_init_25 pf_X5_init_18 (by first | assumption | rfl) (by first | assumption | decide) (by rfl) rfl ?_
  refine v_aload_n 29 dX5_init_28 rfl rfl ?_
  refine v_bipushv (v := 64) 31 dX5_init_29 (by decide) rfl ?_
  refine v_newarr (ty := .int) (N := 64) (k1 := 0) (n1 := 0) 33 36 i dX5_init_31 ac_int rfl (by simp [g_tys]) (by rfl) (by decide) (by simp [al_n, al_r, al_i, f6]) (by decide) (by decide) (by decide) rfl rfl rfl ?_
  refine v_putfr 36 dX5_init_33 pf_X5_init_22 (by first | assumption | rfl) (by first | assumption | decide) (by rfl) rfl ?_
  refine v_aload_n 37 dX5_init_36 rfl rfl ?_
  refine v_iconstv (v := 1) 38 dX5_init_37 (by decide) rfl ?_
  refine v_putfi 41 dX5_init_38 pf_X5_init_25 (by first | assumption | rfl) (by first | assumption | decide) (by rfl) rfl rfl rfl ?_
  refine v_aload_n 42 dX5_init_41 rfl rfl ?_
  refine v_bipushv (v := 64) 44 dX5_init_42 (by decide) rfl ?_
  refine v_putfi 47 dX5_init_44 pf_X5_init_29 (by first | assumption | rfl) (by first | assumption | decide) (by rfl) rfl rfl rfl ?_
  refine v_return dX5_init_47 rfl ?_
  exact hq
set_option maxRecDepth 20000 in
theorem C_X2_surface {G : GW} {h : PH} {Q : RS → PH → Prop} {i : Nat} (hq : Q (.inl (some (pv_I (hp_vi h 15 i 0 * hp_vi h 15 i 1)))) h) : VV G 0 0 0 yX2_surface cX2_surface 1 (some .int) [] 0 (vv_en 1 [pv_O (15, i)]) [] h Q := by
  show VV G 0 0 0 yX2_surface cX2_surface 1 (some .int) [] 0 [some (pv_O (15, i))] [] h Q
  refine v_aload_n 1 dX2_surface_0 rfl rfl ?_
  refine v_getfi 4 dX2_surface_1 fl_X2_7 (by first | assumption | rfl) (by rfl) rfl ?_
  refine v_aload_n 5 dX2_surface_4 rfl rfl ?_
  refine v_getfi 8 dX2_surface_5 fl_X2_13 (by first | assumption | rfl) (by rfl) rfl ?_
  refine v_imul 9 dX2_surface_8 rfl ?_
  refine v_ireturn dX2_surface_9 rfl ?_
  exact hq
set_option maxRecDepth 20000 in
theorem C_X2_isSmallerThan {G : GW} {h : PH} {Q : RS → PH → Prop} {i j : Nat} (hq : Q (.inl (some (pv_I (if hp_vi h 15 i 0 < hp_vi h 15 j 0 ∨ (hp_vi h 15 i 0 = hp_vi h 15 j 0 ∧ hp_vi h 15 i 1 < hp_vi h 15 j 1) then 1 else 0)))) h) : VV G 0 0 0 yX2_isSmallerThan cX2_isSmallerThan 2 (some .boolean) [] 0 (vv_en 2 [pv_O (15, i), pv_O (15, j)]) [] h Q := by
  show VV G 0 0 0 yX2_isSmallerThan cX2_isSmallerThan 2 (some .boolean) [] 0 [some (pv_O (15, i)), some (pv_O (15, j))] [] h Q
  refine v_aload_n 1 dX2_isSmallerThan_0 rfl rfl ?_
  refine v_getfi 4 dX2_isSmallerThan_1 fl_X2_7 (by first | assumption | rfl) (by rfl) rfl ?_
  refine v_aload_n 5 dX2_isSmallerThan_4 rfl rfl ?_
  refine v_getfi 8 dX2_isSmallerThan_5 fl_X2_7 (by first | assumption | rfl) (by rfl) rfl ?_
  refine v_icmp_lt 33 11 dX2_isSmallerThan_8 (by decide) rfl (fun c8 => ?_) (fun c8 => ?_)
  · refine v_iconstv (v := 1) 34 dX2_isSmallerThan_33 (by decide) rfl ?_
    refine v_goto 38 dX2_isSmallerThan_34 (by decide) ?_
    refine v_zreturn (ty := .boolean) (by first | rfl | decide | exact nz_if | exact nz_fi) dX2_isSmallerThan_38 rfl ?_
    refine vq_i hq ?_
    first | exact if_pos (Or.inl ‹_›) | exact if_pos (Or.inr ⟨‹_›, Int32.not_le.mp ‹_›⟩) | exact if_neg (fun q => q.elim (fun q => absurd q ‹_›) (fun q => absurd q.1 ‹_›)) | exact if_neg (fun q => q.elim (fun q => absurd q ‹_›) (fun q => absurd q.2 (Int32.not_lt.mpr ‹_›)))
  · refine v_aload_n 12 dX2_isSmallerThan_11 rfl rfl ?_
    refine v_getfi 15 dX2_isSmallerThan_12 fl_X2_7 (by first | assumption | rfl) (by rfl) rfl ?_
    refine v_aload_n 16 dX2_isSmallerThan_15 rfl rfl ?_
    refine v_getfi 19 dX2_isSmallerThan_16 fl_X2_7 (by first | assumption | rfl) (by rfl) rfl ?_
    refine v_icmp_ne 37 22 dX2_isSmallerThan_19 (by decide) rfl (fun c19 => ?_) (fun c19 => ?_)
    · refine v_iconstv (v := 0) 38 dX2_isSmallerThan_37 (by decide) rfl ?_
      refine v_zreturn (ty := .boolean) (by first | rfl | decide | exact nz_if | exact nz_fi) dX2_isSmallerThan_38 rfl ?_
      refine vq_i hq ?_
      first | exact if_pos (Or.inl ‹_›) | exact if_pos (Or.inr ⟨‹_›, Int32.not_le.mp ‹_›⟩) | exact if_neg (fun q => q.elim (fun q => absurd q ‹_›) (fun q => absurd q.1 ‹_›)) | exact if_neg (fun q => q.elim (fun q => absurd q ‹_›) (fun q => absurd q.2 (Int32.not_lt.mpr ‹_›)))
    · refine v_aload_n 23 dX2_isSmallerThan_22 rfl rfl ?_
      refine v_getfi 26 dX2_isSmallerThan_23 fl_X2_13 (by first | assumption | rfl) (by rfl) rfl ?_
      refine v_aload_n 27 dX2_isSmallerThan_26 rfl rfl ?_
      refine v_getfi 30 dX2_isSmallerThan_27 fl_X2_13 (by first | assumption | rfl) (by rfl) rfl ?_
      refine v_icmp_ge 37 33 dX2_isSmallerThan_30 (by decide) rfl (fun c30 => ?_) (fun c30 => ?_)
      · refine v_iconstv (v := 0) 38 dX2_isSmallerThan_37 (by decide) rfl ?_
        refine v_zreturn (ty := .boolean) (by first | rfl | decide | exact nz_if | exact nz_fi) dX2_isSmallerThan_38 rfl ?_
        refine vq_i hq ?_
        first | exact if_pos (Or.inl ‹_›) | exact if_pos (Or.inr ⟨‹_›, Int32.not_le.mp ‹_›⟩) | exact if_neg (fun q => q.elim (fun q => absurd q ‹_›) (fun q => absurd q.1 ‹_›)) | exact if_neg (fun q => q.elim (fun q => absurd q ‹_›) (fun q => absurd q.2 (Int32.not_lt.mpr ‹_›)))
      · refine v_iconstv (v := 1) 34 dX2_isSmallerThan_33 (by decide) rfl ?_
        refine v_goto 38 dX2_isSmallerThan_34 (by decide) ?_
        refine v_zreturn (ty := .boolean) (by first | rfl | decide | exact nz_if | exact nz_fi) dX2_isSmallerThan_38 rfl ?_
        refine vq_i hq ?_
        first | exact if_pos (Or.inl ‹_›) | exact if_pos (Or.inr ⟨‹_›, Int32.not_le.mp ‹_›⟩) | exact if_neg (fun q => q.elim (fun q => absurd q ‹_›) (fun q => absurd q.1 ‹_›)) | exact if_neg (fun q => q.elim (fun q => absurd q ‹_›) (fun q => absurd q.2 (Int32.not_lt.mpr ‹_›)))
set_option maxRecDepth 20000 in
theorem C_X3_leafFor {G : GW} {h : PH} {Q : RS → PH → Prop} {t i : Nat} {x z : Int32} (ht : tg_k t = some (.inl 7)) (hm : 0 < hp_vi h t i 2) (hq : Q (.inl (some (pv_I (hp_vi h t i 1 + rm_ (x + z) (hp_vi h t i 2))))) h) : VV G 0 0 0 yX3_leafFor cX3_leafFor 3 (some .int) [] 0 (vv_en 3 [pv_O (t, i), pv_I x, pv_I z]) [] h Q := by
  show VV G 0 0 0 yX3_leafFor cX3_leafFor 3 (some .int) [] 0 [some (pv_O (t, i)), some (pv_I x), some (pv_I z)] [] h Q
  refine v_aload_n 1 dX3_leafFor_0 rfl rfl ?_
  refine v_getfi 4 dX3_leafFor_1 fl_X3_17 (by first | assumption | rfl) (by rfl) rfl ?_
  refine v_if_gt 14 7 dX3_leafFor_4 (by decide) rfl (fun c4 => ?_) (fun c4 => ?_)
  · refine v_aload_n 15 dX3_leafFor_14 rfl rfl ?_
    refine v_getfi 18 dX3_leafFor_15 fl_X3_13 (by first | assumption | rfl) (by rfl) rfl ?_
    refine v_iload_n 19 dX3_leafFor_18 rfl rfl ?_
    refine v_iload_n 20 dX3_leafFor_19 rfl rfl ?_
    refine v_iadd 21 dX3_leafFor_20 rfl ?_
    refine v_aload_n 22 dX3_leafFor_21 rfl rfl ?_
    refine v_getfi 25 dX3_leafFor_22 fl_X3_17 (by first | assumption | rfl) (by rfl) rfl ?_
    refine v_irem 26 dX3_leafFor_25 (fun e => by rw [e] at hm; exact absurd hm (by decide)) rfl ?_
    refine v_iadd 27 dX3_leafFor_26 rfl ?_
    refine v_ireturn dX3_leafFor_27 rfl ?_
    exact hq
  · exact absurd hm c4
set_option maxRecDepth 20000 in
theorem C_X3_holds {G : GW} {h : PH} {Q : RS → PH → Prop} {t i f g : Nat} {x : Int32} (ht : tg_k t = some (.inl 7)) (hf : hp_vr h t i 0 = (12, f)) (hq : Q (.inl (some (pv_I (if f = g ∧ hp_vi h t i 1 ≤ x ∧ x < hp_vi h t i 1 + hp_vi h t i 2 then 1 else 0)))) h) : VV G 0 0 0 yX3_holds cX3_holds 3 (some .boolean) [] 0 (vv_en 3 [pv_O (t, i), pv_O (12, g), pv_I x]) [] h Q := by
  show VV G 0 0 0 yX3_holds cX3_holds 3 (some .boolean) [] 0 [some (pv_O (t, i)), some (pv_O (12, g)), some (pv_I x)] [] h Q
  refine v_aload_n 1 dX3_holds_0 rfl rfl ?_
  refine v_getfr 4 dX3_holds_1 fl_X3_7 (by first | assumption | rfl) (by rfl) rfl ?_
  rw [hf]
  refine v_aload_n 5 dX3_holds_4 rfl rfl ?_
  refine v_acmp_ne 33 8 dX3_holds_5 (Or.inr (Or.inr (Or.inr (Or.inl (of_decide_eq_true rfl))))) (by decide) rfl (fun c5 => ?_) (fun c5 => ?_)
  · refine v_iconstv (v := 0) 34 dX3_holds_33 (by decide) rfl ?_
    refine v_zreturn (ty := .boolean) (by first | rfl | decide | exact nz_if | exact nz_fi) dX3_holds_34 rfl ?_
    refine vq_i hq ?_
    clear hq
    simp only [Int32.lt_iff_toInt_lt, Int32.le_iff_toInt_le, Prod.mk.injEq, true_and] at *
    repeat' split
    all_goals first | rfl | (exfalso; omega) | (intros; omega) | simp_all
  · refine v_iload_n 9 dX3_holds_8 rfl rfl ?_
    refine v_aload_n 10 dX3_holds_9 rfl rfl ?_
    refine v_getfi 13 dX3_holds_10 fl_X3_13 (by first | assumption | rfl) (by rfl) rfl ?_
    refine v_icmp_lt 33 16 dX3_holds_13 (by decide) rfl (fun c13 => ?_) (fun c13 => ?_)
    · refine v_iconstv (v := 0) 34 dX3_holds_33 (by decide) rfl ?_
      refine v_zreturn (ty := .boolean) (by first | rfl | decide | exact nz_if | exact nz_fi) dX3_holds_34 rfl ?_
      refine vq_i hq ?_
      clear hq
      simp only [Int32.lt_iff_toInt_lt, Int32.le_iff_toInt_le, Prod.mk.injEq, true_and] at *
      repeat' split
      all_goals first | rfl | (exfalso; omega) | (intros; omega) | simp_all
    · refine v_iload_n 17 dX3_holds_16 rfl rfl ?_
      refine v_aload_n 18 dX3_holds_17 rfl rfl ?_
      refine v_getfi 21 dX3_holds_18 fl_X3_13 (by first | assumption | rfl) (by rfl) rfl ?_
      refine v_aload_n 22 dX3_holds_21 rfl rfl ?_
      refine v_getfi 25 dX3_holds_22 fl_X3_17 (by first | assumption | rfl) (by rfl) rfl ?_
      refine v_iadd 26 dX3_holds_25 rfl ?_
      refine v_icmp_ge 33 29 dX3_holds_26 (by decide) rfl (fun c26 => ?_) (fun c26 => ?_)
      · refine v_iconstv (v := 0) 34 dX3_holds_33 (by decide) rfl ?_
        refine v_zreturn (ty := .boolean) (by first | rfl | decide | exact nz_if | exact nz_fi) dX3_holds_34 rfl ?_
        refine vq_i hq ?_
        clear hq
        simp only [Int32.lt_iff_toInt_lt, Int32.le_iff_toInt_le, Prod.mk.injEq, true_and] at *
        repeat' split
        all_goals first | rfl | (exfalso; omega) | (intros; omega) | simp_all
      · refine v_iconstv (v := 1) 30 dX3_holds_29 (by decide) rfl ?_
        refine v_goto 34 dX3_holds_30 (by decide) ?_
        refine v_zreturn (ty := .boolean) (by first | rfl | decide | exact nz_if | exact nz_fi) dX3_holds_34 rfl ?_
        refine vq_i hq ?_
        clear hq
        simp only [Int32.lt_iff_toInt_lt, Int32.le_iff_toInt_le, Prod.mk.injEq, true_and] at *
        repeat' split
        all_goals first | rfl | (exfalso; omega) | (intros; omega) | simp_all
set_option maxRecDepth 20000 in
theorem C_X3_pullBy {G : GW} {h : PH} {Q : RS → PH → Prop} {S : SP} {t i f : Nat} {x : Int32} (ht : tg_k t = some (.inl 7)) (hf : hp_vr h t i 0 = (12, f)) (F : fl_1 S h f) (hq : Q (.inl (some (pv_I (wd_s (hp_vi S.1 41 (s_lg S f) 0) * hp_vi S.1 42 f 2 * x)))) h) : VV G 0 0 0 yX3_pullBy cX3_pullBy 2 (some .int) [] 0 (vv_en 2 [pv_O (t, i), pv_I x]) [] h Q := by
  show VV G 0 0 0 yX3_pullBy cX3_pullBy 2 (some .int) [] 0 [some (pv_O (t, i)), some (pv_I x)] [] h Q
  refine v_aload_n 1 dX3_pullBy_0 rfl rfl ?_
  refine v_getfr 4 dX3_pullBy_1 fl_X3_7 (by first | assumption | rfl) (by rfl) rfl ?_
  rw [hf]
  refine v_getfi 7 dX3_pullBy_4 fl_X3_20 (by first | assumption | rfl) (by rfl) rfl ?_
  rw [F.2.1.2.2.1]
  refine v_aload_n 8 dX3_pullBy_7 rfl rfl ?_
  refine v_getfr 11 dX3_pullBy_8 fl_X3_7 (by first | assumption | rfl) (by rfl) rfl ?_
  rw [hf]
  refine v_getfi 14 dX3_pullBy_11 fl_X3_25 (by first | assumption | rfl) (by rfl) rfl ?_
  rw [F.2.1.1]
  refine v_imul 15 dX3_pullBy_14 rfl ?_
  refine v_iload_n 16 dX3_pullBy_15 rfl rfl ?_
  refine v_imul 17 dX3_pullBy_16 rfl ?_
  refine v_ireturn dX3_pullBy_17 rfl ?_
  exact hq
/-- a skin's pull -/
def s_pu (S : SP) (rr : RN) (u p : Nat) (x : Int32) : Int32 := if rr.1 = 0 then 0 else wd_s (hp_vi S.1 41 (s_lg S (hp_vr S.1 u p 0).2) 0) * hp_vi S.1 42 (hp_vr S.1 u p 0).2 2 * x
theorem rr_0 {rr r : RN} {t p : Nat} (h0 : t ≠ 0) (e : r = if rr.1 = 0 then (0, 0) else (t, p)) : (r.1 = 0 → rr.1 = 0 ∧ r = (0, 0)) ∧ (¬ r.1 = 0 → ¬ rr.1 = 0 ∧ r = (t, p)) := by
  by_cases q : rr.1 = 0
  · rw [if_pos q] at e; subst e; exact ⟨fun _ => ⟨q, rfl⟩, fun w => absurd rfl w⟩
  · rw [if_neg q] at e; subst e; exact ⟨fun w => absurd w h0, fun _ => ⟨q, rfl⟩⟩
set_option maxRecDepth 20000 in
theorem C_X4_pullOf {G : GW} {h : PH} {Q : RS → PH → Prop} {S : SP} {rr r : RN} {t u p : Nat} {x : Int32} (ht : tg_k t = some (.inl 7)) (e : r = if rr.1 = 0 then (0, 0) else (t, p)) (hp : ¬ rr.1 = 0 → pk_1 S h t u p ∧ fl_1 S h (hp_vr S.1 u p 0).2) (hq : Q (.inl (some (pv_I (s_pu S rr u p x)))) h) : VV G 1 0 0 yX4_pullOf cX4_pullOf 2 (some .int) [] 0 (vv_en 2 [pv_O r, pv_I x]) [] h Q := by
  show VV G 1 0 0 yX4_pullOf cX4_pullOf 2 (some .int) [] 0 [some (pv_O r), some (pv_I x)] [] h Q
  have h0 : t ≠ 0 := by
    intro q; rw [q] at ht; cases ht
  unfold s_pu at hq
  refine v_aload_n 1 dX4_pullOf_0 rfl rfl ?_
  refine v_ifnonnull 8 4 dX4_pullOf_1 (by decide) rfl (fun c1 => ?_) (fun c1 => ?_)
  · obtain ⟨w, rfl⟩ := (rr_0 h0 e).2 c1
    rw [if_neg w] at hq
    refine v_aload_n 9 dX4_pullOf_8 rfl rfl ?_
    refine v_iload_n 10 dX4_pullOf_9 rfl rfl ?_
    refine v_invv (d' := 0) (k' := 0) (n' := 0) (k2 := 0) (n2 := 0) 13 [_] dX4_pullOf_10 mt_X4_39 mi_X3_pullBy me_X3_pullBy (by first | assumption | rfl) (by rfl) rfl rfl (of_decide_eq_true rfl) rfl (by decide) rfl rfl rfl rfl (C_X3_pullBy ht (hp w).1.2.1 (hp w).2 ?_)
    refine v_ireturn dX4_pullOf_13 rfl ?_
    exact hq
  · obtain ⟨w, rfl⟩ := (rr_0 h0 e).1 c1
    rw [if_pos w] at hq
    refine v_iconstv (v := 0) 5 dX4_pullOf_4 (by decide) rfl ?_
    refine v_goto 13 dX4_pullOf_5 (by decide) ?_
    refine v_ireturn dX4_pullOf_13 rfl ?_
    exact hq
set_option maxRecDepth 20000 in
theorem C_X4_surface {G : GW} {h : PH} {Q : RS → PH → Prop} {S : SP} {p : Nat} (F : pn_1 S h p) (hq : Q (.inl (some (pv_I (hp_vi S.1 43 p 0 * hp_vi S.1 43 p 1)))) h) : VV G 0 0 0 yX4_surface cX4_surface 1 (some .int) [] 0 (vv_en 1 [pv_O (13, p)]) [] h Q := by
  show VV G 0 0 0 yX4_surface cX4_surface 1 (some .int) [] 0 [some (pv_O (13, p))] [] h Q
  refine v_aload_n 1 dX4_surface_0 rfl rfl ?_
  refine v_getfi 4 dX4_surface_1 fl_X4_9 (by first | assumption | rfl) (by rfl) rfl ?_
  rw [F.2.1.1]
  refine v_aload_n 5 dX4_surface_4 rfl rfl ?_
  refine v_getfi 8 dX4_surface_5 fl_X4_15 (by first | assumption | rfl) (by rfl) rfl ?_
  rw [F.2.1.2.1]
  refine v_imul 9 dX4_surface_8 rfl ?_
  refine v_ireturn dX4_surface_9 rfl ?_
  exact hq
/-- how a panel cups -/
def s_cu (S : SP) (p : Nat) (air : Int32) : Int32 := 10 * (s_pu S (s_fa S p) 46 p (air - hp_vi S.1 43 p 7) - s_pu S (s_ba S p) 47 p (air - hp_vi S.1 43 p 7)) / hp_vi S.1 43 p 2
set_option maxRecDepth 20000 in
theorem C_X4_cupAt {G : GW} {h : PH} {Q : RS → PH → Prop} {x : Int32} {S : SP} {p : Nat} (F : pn_1 S h p) (hfa : ¬ (s_fa S p).1 = 0 → fl_1 S h (hp_vr S.1 46 p 0).2) (hba : ¬ (s_ba S p).1 = 0 → fl_1 S h (hp_vr S.1 47 p 0).2) (hpo : 0 < hp_vi S.1 43 p 2) (hq : Q (.inl (some (pv_I (s_cu S p x)))) h) : VV G 2 0 0 yX4_cupAt cX4_cupAt 5 (some .int) [] 0 (vv_en 5 [pv_O (13, p), pv_I x]) [] h Q := by
  show VV G 2 0 0 yX4_cupAt cX4_cupAt 5 (some .int) [] 0 [some (pv_O (13, p)), some (pv_I x), none, none, none] [] h Q
  obtain ⟨⟨a1, a2, a3⟩, ⟨b1, b2, b3, b4⟩, ⟨d1, d2, d3, d4, d5, d6, d7, d8⟩, e1, e2, e3, e4⟩ := id F
  unfold co_m at b4
  unfold s_cu at hq
  refine v_iload_n 1 dX4_cupAt_0 rfl rfl ?_
  refine v_aload_n 2 dX4_cupAt_1 rfl rfl ?_
  refine v_getfi 5 dX4_cupAt_2 fl_X4_25 (by first | assumption | rfl) (by rfl) rfl ?_
  rw [d3]
  refine v_isub 6 dX4_cupAt_5 rfl ?_
  refine v_istore_n 7 dX4_cupAt_6 (by decide) rfl rfl ?_
  dsimp only [List.set]
  refine v_aload_n 8 dX4_cupAt_7 rfl rfl ?_
  refine v_getfr 11 dX4_cupAt_8 fl_X4_28 (by first | assumption | rfl) (by rfl) rfl ?_
  refine v_iload_n 12 dX4_cupAt_11 rfl rfl ?_
  refine v_invs (d' := 1) (k' := 0) (n' := 0) (k2 := 0) (n2 := 0) 15 [_, _] dX4_cupAt_12 mt_X4_32 ms_X4_pullOf rfl rfl (of_decide_eq_true rfl) rfl (by decide) rfl rfl rfl rfl (C_X4_pullOf (t := 16) rfl a2 (fun w => ⟨e2 w, hfa w⟩) ?_)
  refine v_aload_n 16 dX4_cupAt_15 rfl rfl ?_
  refine v_getfr 19 dX4_cupAt_16 fl_X4_36 (by first | assumption | rfl) (by rfl) rfl ?_
  refine v_iload_n 20 dX4_cupAt_19 rfl rfl ?_
  refine v_invs (d' := 1) (k' := 0) (n' := 0) (k2 := 0) (n2 := 0) 23 [_, _] dX4_cupAt_20 mt_X4_32 ms_X4_pullOf rfl rfl (of_decide_eq_true rfl) rfl (by decide) rfl rfl rfl rfl (C_X4_pullOf (t := 17) rfl a3 (fun w => ⟨e4 w, hba w⟩) ?_)
  refine v_isub 24 dX4_cupAt_23 rfl ?_
  refine v_istore_n 25 dX4_cupAt_24 (by decide) rfl rfl ?_
  dsimp only [List.set]
  refine v_aload_n 26 dX4_cupAt_25 rfl rfl ?_
  refine v_getfi 29 dX4_cupAt_26 fl_X4_22 (by first | assumption | rfl) (by rfl) rfl ?_
  rw [b3]
  refine v_aload_n 30 dX4_cupAt_29 rfl rfl ?_
  refine v_getfi 33 dX4_cupAt_30 fl_X4_18 (by first | assumption | rfl) (by rfl) rfl ?_
  refine v_bipushv (v := 115) 35 dX4_cupAt_33 (by decide) rfl ?_
  refine v_icmp_ne 42 38 dX4_cupAt_35 (by decide) rfl (fun c35 => ?_) (fun c35 => ?_)
  · rw [if_neg c35] at b4
    refine v_aload_n 43 dX4_cupAt_42 rfl rfl ?_
    refine v_getfi 46 dX4_cupAt_43 fl_X4_18 (by first | assumption | rfl) (by rfl) rfl ?_
    refine v_bipushv (v := 99) 48 dX4_cupAt_46 (by decide) rfl ?_
    refine v_icmp_ne 55 51 dX4_cupAt_48 (by decide) rfl (fun c48 => ?_) (fun c48 => ?_)
    · rw [if_neg c48] at b4
      refine v_iconstv (v := 2) 56 dX4_cupAt_55 (by decide) rfl ?_
      refine v_imul 57 dX4_cupAt_56 rfl ?_
      rw [b4]
      refine v_istore 59 dX4_cupAt_57 (by decide) rfl rfl ?_
      dsimp only [List.set]
      refine v_iload 61 dX4_cupAt_59 rfl rfl ?_
      refine v_if_gt 68 64 dX4_cupAt_61 (by decide) rfl (fun c61 => ?_) (fun c61 => ?_)
      · refine v_bipushv (v := 10) 70 dX4_cupAt_68 (by decide) rfl ?_
        refine v_iload_n 71 dX4_cupAt_70 rfl rfl ?_
        refine v_imul 72 dX4_cupAt_71 rfl ?_
        refine v_iload 74 dX4_cupAt_72 rfl rfl ?_
        refine v_idiv 75 dX4_cupAt_74 (fun e => by rw [e] at hpo; exact absurd hpo (by decide)) rfl ?_
        refine v_ireturn dX4_cupAt_75 rfl ?_
        exact hq
      · exact absurd hpo c61
    · rw [if_pos c48] at b4
      refine v_iconstv (v := 3) 52 dX4_cupAt_51 (by decide) rfl ?_
      refine v_goto 56 dX4_cupAt_52 (by decide) ?_
      refine v_imul 57 dX4_cupAt_56 rfl ?_
      rw [b4]
      refine v_istore 59 dX4_cupAt_57 (by decide) rfl rfl ?_
      dsimp only [List.set]
      refine v_iload 61 dX4_cupAt_59 rfl rfl ?_
      refine v_if_gt 68 64 dX4_cupAt_61 (by decide) rfl (fun c61 => ?_) (fun c61 => ?_)
      · refine v_bipushv (v := 10) 70 dX4_cupAt_68 (by decide) rfl ?_
        refine v_iload_n 71 dX4_cupAt_70 rfl rfl ?_
        refine v_imul 72 dX4_cupAt_71 rfl ?_
        refine v_iload 74 dX4_cupAt_72 rfl rfl ?_
        refine v_idiv 75 dX4_cupAt_74 (fun e => by rw [e] at hpo; exact absurd hpo (by decide)) rfl ?_
        refine v_ireturn dX4_cupAt_75 rfl ?_
        exact hq
      · exact absurd hpo c61
  · rw [if_pos c35] at b4
    refine v_iconstv (v := 1) 39 dX4_cupAt_38 (by decide) rfl ?_
    refine v_goto 56 dX4_cupAt_39 (by decide) ?_
    refine v_imul 57 dX4_cupAt_56 rfl ?_
    rw [b4]
    refine v_istore 59 dX4_cupAt_57 (by decide) rfl rfl ?_
    dsimp only [List.set]
    refine v_iload 61 dX4_cupAt_59 rfl rfl ?_
    refine v_if_gt 68 64 dX4_cupAt_61 (by decide) rfl (fun c61 => ?_) (fun c61 => ?_)
    · refine v_bipushv (v := 10) 70 dX4_cupAt_68 (by decide) rfl ?_
      refine v_iload_n 71 dX4_cupAt_70 rfl rfl ?_
      refine v_imul 72 dX4_cupAt_71 rfl ?_
      refine v_iload 74 dX4_cupAt_72 rfl rfl ?_
      refine v_idiv 75 dX4_cupAt_74 (fun e => by rw [e] at hpo; exact absurd hpo (by decide)) rfl ?_
      refine v_ireturn dX4_cupAt_75 rfl ?_
      exact hq
    · exact absurd hpo c61
set_option maxRecDepth 20000 in
theorem C_X4_isFlatAt {G : GW} {h : PH} {Q : RS → PH → Prop} {x : Int32} {S : SP} {p : Nat} (F : pn_1 S h p) (hfa : ¬ (s_fa S p).1 = 0 → fl_1 S h (hp_vr S.1 46 p 0).2) (hba : ¬ (s_ba S p).1 = 0 → fl_1 S h (hp_vr S.1 47 p 0).2) (hpo : 0 < hp_vi S.1 43 p 2) (hq : Q (.inl (some (pv_I (if -3 ≤ s_cu S p x ∧ s_cu S p x ≤ 3 then 1 else 0)))) h) : VV G 3 0 0 yX4_isFlatAt cX4_isFlatAt 2 (some .boolean) [] 0 (vv_en 2 [pv_O (13, p), pv_I x]) [] h Q := by
  show VV G 3 0 0 yX4_isFlatAt cX4_isFlatAt 2 (some .boolean) [] 0 [some (pv_O (13, p)), some (pv_I x)] [] h Q
  refine v_aload_n 1 dX4_isFlatAt_0 rfl rfl ?_
  refine v_iload_n 2 dX4_isFlatAt_1 rfl rfl ?_
  refine v_invv (d' := 2) (k' := 0) (n' := 0) (k2 := 0) (n2 := 0) 5 [_] dX4_isFlatAt_2 mt_X4_45 mi_X4_cupAt me_X4_cupAt (by first | assumption | rfl) (by rfl) rfl rfl (of_decide_eq_true rfl) rfl (by decide) rfl rfl rfl rfl (C_X4_cupAt F hfa hba hpo ?_)
  refine v_bipushv (v := -3) 7 dX4_isFlatAt_5 (by decide) rfl ?_
  refine v_iconstv (v := 3) 8 dX4_isFlatAt_7 (by decide) rfl ?_
  refine v_invsN (d' := 0) (k' := 0) (n' := 0) (k2 := 0) (n2 := 0) 11 [_, _, _] dX4_isFlatAt_8 mn_X4_48 md_X6_isIn ms_X6_isIn rfl rfl (of_decide_eq_true rfl) rfl (by decide) rfl rfl rfl rfl (C_X6_isIn ?_)
  refine v_zreturn (ty := .boolean) (by first | rfl | decide | exact nz_if | exact nz_fi) dX4_isFlatAt_11 rfl ?_
  exact hq
set_option maxRecDepth 20000 in
theorem C_X4_isWornThrough {G : GW} {h : PH} {Q : RS → PH → Prop} {S : SP} {p : Nat} (F : pn_1 S h p) (hq : Q (.inl (some (pv_I (if ¬ (s_fa S p).1 = 0 ∧ s_lf S p ≤ 10 then 1 else 0)))) h) : VV G 0 0 0 yX4_isWornThrough cX4_isWornThrough 1 (some .boolean) [] 0 (vv_en 1 [pv_O (13, p)]) [] h Q := by
  show VV G 0 0 0 yX4_isWornThrough cX4_isWornThrough 1 (some .boolean) [] 0 [some (pv_O (13, p))] [] h Q
  obtain ⟨⟨a1, a2, a3⟩, ⟨b1, b2, b3, b4⟩, ⟨d1, d2, d3, d4, d5, d6, d7, d8⟩, e1, e2, e3, e4⟩ := id F
  refine v_aload_n 1 dX4_isWornThrough_0 rfl rfl ?_
  refine v_getfr 4 dX4_isWornThrough_1 fl_X4_28 (by first | assumption | rfl) (by rfl) rfl ?_
  refine v_ifnull 20 7 dX4_isWornThrough_4 (by decide) rfl (fun c4 => ?_) (fun c4 => ?_)
  · have w := ((rr_0 (by decide) a2).1 c4).1
    refine v_iconstv (v := 0) 21 dX4_isWornThrough_20 (by decide) rfl ?_
    refine v_zreturn (ty := .boolean) (by first | rfl | decide | exact nz_if | exact nz_fi) dX4_isWornThrough_21 rfl ?_
    refine vq_i hq ?_
    first | exact if_pos ⟨w, Int32.not_lt.mp c13⟩ | simp_all [Int32.not_lt, Int32.not_le]
  · have w := ((rr_0 (by decide) a2).2 c4).1
    refine v_aload_n 8 dX4_isWornThrough_7 rfl rfl ?_
    refine v_getfi 11 dX4_isWornThrough_8 fl_X4_52 (by first | assumption | rfl) (by rfl) rfl ?_
    rw [d5]
    refine v_bipushv (v := 10) 13 dX4_isWornThrough_11 (by decide) rfl ?_
    refine v_icmp_gt 20 16 dX4_isWornThrough_13 (by decide) rfl (fun c13 => ?_) (fun c13 => ?_)
    · refine v_iconstv (v := 0) 21 dX4_isWornThrough_20 (by decide) rfl ?_
      refine v_zreturn (ty := .boolean) (by first | rfl | decide | exact nz_if | exact nz_fi) dX4_isWornThrough_21 rfl ?_
      refine vq_i hq ?_
      first | exact if_pos ⟨w, Int32.not_lt.mp c13⟩ | simp_all [Int32.not_lt, Int32.not_le]
    · refine v_iconstv (v := 1) 17 dX4_isWornThrough_16 (by decide) rfl ?_
      refine v_goto 21 dX4_isWornThrough_17 (by decide) ?_
      refine v_zreturn (ty := .boolean) (by first | rfl | decide | exact nz_if | exact nz_fi) dX4_isWornThrough_21 rfl ?_
      refine vq_i hq ?_
      first | exact if_pos ⟨w, Int32.not_lt.mp c13⟩ | simp_all [Int32.not_lt, Int32.not_le]
def s_wo (S : SP) (p : Nat) : Int32 :=
  let t0 : Int32 := if hp_vi S.1 43 p 6 = 0 then 0 else 5
  let t1 : Int32 := if (s_fa S p).1 = 0 then t0 else t0 + (2 * hp_vi S.1 46 p 2 + hp_vi S.1 43 p 0 * hp_vi S.1 43 p 1 / 10)
  let t2 : Int32 := if (s_ba S p).1 = 0 then t1 else t1 + 2 * hp_vi S.1 47 p 2
  t2 + hp_vi S.1 43 p 10 - 3 * (hp_vi S.1 43 p 8 + hp_vi S.1 43 p 11)
set_option maxRecDepth 20000 in
theorem C_X4_worth {G : GW} {h : PH} {Q : RS → PH → Prop} {S : SP} {p : Nat} (F : pn_1 S h p) (hq : Q (.inl (some (pv_I (s_wo S p)))) h) : VV G 1 0 0 yX4_worth cX4_worth 2 (some .int) [] 0 (vv_en 2 [pv_O (13, p)]) [] h Q := by
  show VV G 1 0 0 yX4_worth cX4_worth 2 (some .int) [] 0 [some (pv_O (13, p)), none] [] h Q
  obtain ⟨⟨a1, a2, a3⟩, ⟨b1, b2, b3, b4⟩, ⟨d1, d2, d3, d4, d5, d6, d7, d8⟩, e1, e2, e3, e4⟩ := id F
  unfold s_wo at hq
  dsimp only at hq
  refine v_aload_n 1 dX4_worth_0 rfl rfl ?_
  refine v_getfi 4 dX4_worth_1 fl_X4_73 (by first | assumption | rfl) (by rfl) rfl ?_
  rw [d2]
  refine v_if_eq 11 7 dX4_worth_4 (by decide) rfl (fun c4 => ?_) (fun c4 => ?_)
  · rw [if_pos c4] at hq
    refine v_iconstv (v := 0) 12 dX4_worth_11 (by decide) rfl ?_
    refine v_istore_n 13 dX4_worth_12 (by decide) rfl rfl ?_
    dsimp only [List.set]
    refine v_aload_n 14 dX4_worth_13 rfl rfl ?_
    refine v_getfr 17 dX4_worth_14 fl_X4_28 (by first | assumption | rfl) (by rfl) rfl ?_
    refine v_ifnull 40 20 dX4_worth_17 (by decide) rfl (fun c17 => ?_) (fun c17 => ?_)
    · obtain ⟨w2, v2⟩ := (rr_0 (by decide) a2).1 c17
      rw [if_pos w2] at hq
      refine v_aload_n 41 dX4_worth_40 rfl rfl ?_
      refine v_getfr 44 dX4_worth_41 fl_X4_36 (by first | assumption | rfl) (by rfl) rfl ?_
      refine v_ifnull 59 47 dX4_worth_44 (by decide) rfl (fun c44 => ?_) (fun c44 => ?_)
      · obtain ⟨w3, v3⟩ := (rr_0 (by decide) a3).1 c44
        rw [if_pos w3] at hq
        refine v_iload_n 60 dX4_worth_59 rfl rfl ?_
        refine v_aload_n 61 dX4_worth_60 rfl rfl ?_
        refine v_getfi 64 dX4_worth_61 fl_X4_67 (by first | assumption | rfl) (by rfl) rfl ?_
        rw [d6]
        refine v_iadd 65 dX4_worth_64 rfl ?_
        refine v_iconstv (v := 3) 66 dX4_worth_65 (by decide) rfl ?_
        refine v_aload_n 67 dX4_worth_66 rfl rfl ?_
        refine v_getfi 70 dX4_worth_67 fl_X4_84 (by first | assumption | rfl) (by rfl) rfl ?_
        rw [d4]
        refine v_aload_n 71 dX4_worth_70 rfl rfl ?_
        refine v_getfi 74 dX4_worth_71 fl_X4_70 (by first | assumption | rfl) (by rfl) rfl ?_
        rw [d8]
        refine v_iadd 75 dX4_worth_74 rfl ?_
        refine v_imul 76 dX4_worth_75 rfl ?_
        refine v_isub 77 dX4_worth_76 rfl ?_
        refine v_ireturn dX4_worth_77 rfl ?_
        exact hq
      · obtain ⟨w3, v3⟩ := (rr_0 (by decide) a3).2 c44
        rw [if_neg w3] at hq
        refine v_iload_n 48 dX4_worth_47 rfl rfl ?_
        refine v_iconstv (v := 2) 49 dX4_worth_48 (by decide) rfl ?_
        refine v_aload_n 50 dX4_worth_49 rfl rfl ?_
        refine v_getfr 53 dX4_worth_50 fl_X4_36 (by first | assumption | rfl) (by rfl) rfl ?_
        rw [v3]
        refine v_getfi 56 dX4_worth_53 fl_X4_77 (by first | assumption | rfl) (by rfl) rfl ?_
        rw [(e4 w3).2.2.2]
        refine v_imul 57 dX4_worth_56 rfl ?_
        refine v_iadd 58 dX4_worth_57 rfl ?_
        refine v_istore_n 59 dX4_worth_58 (by decide) rfl rfl ?_
        dsimp only [List.set]
        refine v_iload_n 60 dX4_worth_59 rfl rfl ?_
        refine v_aload_n 61 dX4_worth_60 rfl rfl ?_
        refine v_getfi 64 dX4_worth_61 fl_X4_67 (by first | assumption | rfl) (by rfl) rfl ?_
        rw [d6]
        refine v_iadd 65 dX4_worth_64 rfl ?_
        refine v_iconstv (v := 3) 66 dX4_worth_65 (by decide) rfl ?_
        refine v_aload_n 67 dX4_worth_66 rfl rfl ?_
        refine v_getfi 70 dX4_worth_67 fl_X4_84 (by first | assumption | rfl) (by rfl) rfl ?_
        rw [d4]
        refine v_aload_n 71 dX4_worth_70 rfl rfl ?_
        refine v_getfi 74 dX4_worth_71 fl_X4_70 (by first | assumption | rfl) (by rfl) rfl ?_
        rw [d8]
        refine v_iadd 75 dX4_worth_74 rfl ?_
        refine v_imul 76 dX4_worth_75 rfl ?_
        refine v_isub 77 dX4_worth_76 rfl ?_
        refine v_ireturn dX4_worth_77 rfl ?_
        exact hq
    · obtain ⟨w2, v2⟩ := (rr_0 (by decide) a2).2 c17
      rw [if_neg w2] at hq
      refine v_iload_n 21 dX4_worth_20 rfl rfl ?_
      refine v_iconstv (v := 2) 22 dX4_worth_21 (by decide) rfl ?_
      refine v_aload_n 23 dX4_worth_22 rfl rfl ?_
      refine v_getfr 26 dX4_worth_23 fl_X4_28 (by first | assumption | rfl) (by rfl) rfl ?_
      rw [v2]
      refine v_getfi 29 dX4_worth_26 fl_X4_77 (by first | assumption | rfl) (by rfl) rfl ?_
      rw [(e2 w2).2.2.2]
      refine v_imul 30 dX4_worth_29 rfl ?_
      refine v_aload_n 31 dX4_worth_30 rfl rfl ?_
      refine v_invv (d' := 0) (k' := 0) (n' := 0) (k2 := 0) (n2 := 0) 34 [] dX4_worth_31 mt_X4_80 mi_X4_surface me_X4_surface (by first | assumption | rfl) (by rfl) rfl rfl (of_decide_eq_true rfl) rfl (by decide) rfl rfl rfl rfl (C_X4_surface F ?_)
      refine v_bipushv (v := 10) 36 dX4_worth_34 (by decide) rfl ?_
      refine v_idiv 37 dX4_worth_36 (by decide) rfl ?_
      refine v_iadd 38 dX4_worth_37 rfl ?_
      refine v_iadd 39 dX4_worth_38 rfl ?_
      refine v_istore_n 40 dX4_worth_39 (by decide) rfl rfl ?_
      dsimp only [List.set]
      refine v_aload_n 41 dX4_worth_40 rfl rfl ?_
      refine v_getfr 44 dX4_worth_41 fl_X4_36 (by first | assumption | rfl) (by rfl) rfl ?_
      refine v_ifnull 59 47 dX4_worth_44 (by decide) rfl (fun c44 => ?_) (fun c44 => ?_)
      · obtain ⟨w3, v3⟩ := (rr_0 (by decide) a3).1 c44
        rw [if_pos w3] at hq
        refine v_iload_n 60 dX4_worth_59 rfl rfl ?_
        refine v_aload_n 61 dX4_worth_60 rfl rfl ?_
        refine v_getfi 64 dX4_worth_61 fl_X4_67 (by first | assumption | rfl) (by rfl) rfl ?_
        rw [d6]
        refine v_iadd 65 dX4_worth_64 rfl ?_
        refine v_iconstv (v := 3) 66 dX4_worth_65 (by decide) rfl ?_
        refine v_aload_n 67 dX4_worth_66 rfl rfl ?_
        refine v_getfi 70 dX4_worth_67 fl_X4_84 (by first | assumption | rfl) (by rfl) rfl ?_
        rw [d4]
        refine v_aload_n 71 dX4_worth_70 rfl rfl ?_
        refine v_getfi 74 dX4_worth_71 fl_X4_70 (by first | assumption | rfl) (by rfl) rfl ?_
        rw [d8]
        refine v_iadd 75 dX4_worth_74 rfl ?_
        refine v_imul 76 dX4_worth_75 rfl ?_
        refine v_isub 77 dX4_worth_76 rfl ?_
        refine v_ireturn dX4_worth_77 rfl ?_
        exact hq
      · obtain ⟨w3, v3⟩ := (rr_0 (by decide) a3).2 c44
        rw [if_neg w3] at hq
        refine v_iload_n 48 dX4_worth_47 rfl rfl ?_
        refine v_iconstv (v := 2) 49 dX4_worth_48 (by decide) rfl ?_
        refine v_aload_n 50 dX4_worth_49 rfl rfl ?_
        refine v_getfr 53 dX4_worth_50 fl_X4_36 (by first | assumption | rfl) (by rfl) rfl ?_
        rw [v3]
        refine v_getfi 56 dX4_worth_53 fl_X4_77 (by first | assumption | rfl) (by rfl) rfl ?_
        rw [(e4 w3).2.2.2]
        refine v_imul 57 dX4_worth_56 rfl ?_
        refine v_iadd 58 dX4_worth_57 rfl ?_
        refine v_istore_n 59 dX4_worth_58 (by decide) rfl rfl ?_
        dsimp only [List.set]
        refine v_iload_n 60 dX4_worth_59 rfl rfl ?_
        refine v_aload_n 61 dX4_worth_60 rfl rfl ?_
        refine v_getfi 64 dX4_worth_61 fl_X4_67 (by first | assumption | rfl) (by rfl) rfl ?_
        rw [d6]
        refine v_iadd 65 dX4_worth_64 rfl ?_
        refine v_iconstv (v := 3) 66 dX4_worth_65 (by decide) rfl ?_
        refine v_aload_n 67 dX4_worth_66 rfl rfl ?_
        refine v_getfi 70 dX4_worth_67 fl_X4_84 (by first | assumption | rfl) (by rfl) rfl ?_
        rw [d4]
        refine v_aload_n 71 dX4_worth_70 rfl rfl ?_
        refine v_getfi 74 dX4_worth_71 fl_X4_70 (by first | assumption | rfl) (by rfl) rfl ?_
        rw [d8]
        refine v_iadd 75 dX4_worth_74 rfl ?_
        refine v_imul 76 dX4_worth_75 rfl ?_
        refine v_isub 77 dX4_worth_76 rfl ?_
        refine v_ireturn dX4_worth_77 rfl ?_
        exact hq
  · rw [if_neg c4] at hq
    refine v_iconstv (v := 5) 8 dX4_worth_7 (by decide) rfl ?_
    refine v_goto 12 dX4_worth_8 (by decide) ?_
    refine v_istore_n 13 dX4_worth_12 (by decide) rfl rfl ?_
    dsimp only [List.set]
    refine v_aload_n 14 dX4_worth_13 rfl rfl ?_
    refine v_getfr 17 dX4_worth_14 fl_X4_28 (by first | assumption | rfl) (by rfl) rfl ?_
    refine v_ifnull 40 20 dX4_worth_17 (by decide) rfl (fun c17 => ?_) (fun c17 => ?_)
    · obtain ⟨w2, v2⟩ := (rr_0 (by decide) a2).1 c17
      rw [if_pos w2] at hq
      refine v_aload_n 41 dX4_worth_40 rfl rfl ?_
      refine v_getfr 44 dX4_worth_41 fl_X4_36 (by first | assumption | rfl) (by rfl) rfl ?_
      refine v_ifnull 59 47 dX4_worth_44 (by decide) rfl (fun c44 => ?_) (fun c44 => ?_)
      · obtain ⟨w3, v3⟩ := (rr_0 (by decide) a3).1 c44
        rw [if_pos w3] at hq
        refine v_iload_n 60 dX4_worth_59 rfl rfl ?_
        refine v_aload_n 61 dX4_worth_60 rfl rfl ?_
        refine v_getfi 64 dX4_worth_61 fl_X4_67 (by first | assumption | rfl) (by rfl) rfl ?_
        rw [d6]
        refine v_iadd 65 dX4_worth_64 rfl ?_
        refine v_iconstv (v := 3) 66 dX4_worth_65 (by decide) rfl ?_
        refine v_aload_n 67 dX4_worth_66 rfl rfl ?_
        refine v_getfi 70 dX4_worth_67 fl_X4_84 (by first | assumption | rfl) (by rfl) rfl ?_
        rw [d4]
        refine v_aload_n 71 dX4_worth_70 rfl rfl ?_
        refine v_getfi 74 dX4_worth_71 fl_X4_70 (by first | assumption | rfl) (by rfl) rfl ?_
        rw [d8]
        refine v_iadd 75 dX4_worth_74 rfl ?_
        refine v_imul 76 dX4_worth_75 rfl ?_
        refine v_isub 77 dX4_worth_76 rfl ?_
        refine v_ireturn dX4_worth_77 rfl ?_
        exact hq
      · obtain ⟨w3, v3⟩ := (rr_0 (by decide) a3).2 c44
        rw [if_neg w3] at hq
        refine v_iload_n 48 dX4_worth_47 rfl rfl ?_
        refine v_iconstv (v := 2) 49 dX4_worth_48 (by decide) rfl ?_
        refine v_aload_n 50 dX4_worth_49 rfl rfl ?_
        refine v_getfr 53 dX4_worth_50 fl_X4_36 (by first | assumption | rfl) (by rfl) rfl ?_
        rw [v3]
        refine v_getfi 56 dX4_worth_53 fl_X4_77 (by first | assumption | rfl) (by rfl) rfl ?_
        rw [(e4 w3).2.2.2]
        refine v_imul 57 dX4_worth_56 rfl ?_
        refine v_iadd 58 dX4_worth_57 rfl ?_
        refine v_istore_n 59 dX4_worth_58 (by decide) rfl rfl ?_
        dsimp only [List.set]
        refine v_iload_n 60 dX4_worth_59 rfl rfl ?_
        refine v_aload_n 61 dX4_worth_60 rfl rfl ?_
        refine v_getfi 64 dX4_worth_61 fl_X4_67 (by first | assumption | rfl) (by rfl) rfl ?_
        rw [d6]
        refine v_iadd 65 dX4_worth_64 rfl ?_
        refine v_iconstv (v := 3) 66 dX4_worth_65 (by decide) rfl ?_
        refine v_aload_n 67 dX4_worth_66 rfl rfl ?_
        refine v_getfi 70 dX4_worth_67 fl_X4_84 (by first | assumption | rfl) (by rfl) rfl ?_
        rw [d4]
        refine v_aload_n 71 dX4_worth_70 rfl rfl ?_
        refine v_getfi 74 dX4_worth_71 fl_X4_70 (by first | assumption | rfl) (by rfl) rfl ?_
        rw [d8]
        refine v_iadd 75 dX4_worth_74 rfl ?_
        refine v_imul 76 dX4_worth_75 rfl ?_
        refine v_isub 77 dX4_worth_76 rfl ?_
        refine v_ireturn dX4_worth_77 rfl ?_
        exact hq
    · obtain ⟨w2, v2⟩ := (rr_0 (by decide) a2).2 c17
      rw [if_neg w2] at hq
      refine v_iload_n 21 dX4_worth_20 rfl rfl ?_
      refine v_iconstv (v := 2) 22 dX4_worth_21 (by decide) rfl ?_
      refine v_aload_n 23 dX4_worth_22 rfl rfl ?_
      refine v_getfr 26 dX4_worth_23 fl_X4_28 (by first | assumption | rfl) (by rfl) rfl ?_
      rw [v2]
      refine v_getfi 29 dX4_worth_26 fl_X4_77 (by first | assumption | rfl) (by rfl) rfl ?_
      rw [(e2 w2).2.2.2]
      refine v_imul 30 dX4_worth_29 rfl ?_
      refine v_aload_n 31 dX4_worth_30 rfl rfl ?_
      refine v_invv (d' := 0) (k' := 0) (n' := 0) (k2 := 0) (n2 := 0) 34 [] dX4_worth_31 mt_X4_80 mi_X4_surface me_X4_surface (by first | assumption | rfl) (by rfl) rfl rfl (of_decide_eq_true rfl) rfl (by decide) rfl rfl rfl rfl (C_X4_surface F ?_)
      refine v_bipushv (v := 10) 36 dX4_worth_34 (by decide) rfl ?_
      refine v_idiv 37 dX4_worth_36 (by decide) rfl ?_
      refine v_iadd 38 dX4_worth_37 rfl ?_
      refine v_iadd 39 dX4_worth_38 rfl ?_
      refine v_istore_n 40 dX4_worth_39 (by decide) rfl rfl ?_
      dsimp only [List.set]
      refine v_aload_n 41 dX4_worth_40 rfl rfl ?_
      refine v_getfr 44 dX4_worth_41 fl_X4_36 (by first | assumption | rfl) (by rfl) rfl ?_
      refine v_ifnull 59 47 dX4_worth_44 (by decide) rfl (fun c44 => ?_) (fun c44 => ?_)
      · obtain ⟨w3, v3⟩ := (rr_0 (by decide) a3).1 c44
        rw [if_pos w3] at hq
        refine v_iload_n 60 dX4_worth_59 rfl rfl ?_
        refine v_aload_n 61 dX4_worth_60 rfl rfl ?_
        refine v_getfi 64 dX4_worth_61 fl_X4_67 (by first | assumption | rfl) (by rfl) rfl ?_
        rw [d6]
        refine v_iadd 65 dX4_worth_64 rfl ?_
        refine v_iconstv (v := 3) 66 dX4_worth_65 (by decide) rfl ?_
        refine v_aload_n 67 dX4_worth_66 rfl rfl ?_
        refine v_getfi 70 dX4_worth_67 fl_X4_84 (by first | assumption | rfl) (by rfl) rfl ?_
        rw [d4]
        refine v_aload_n 71 dX4_worth_70 rfl rfl ?_
        refine v_getfi 74 dX4_worth_71 fl_X4_70 (by first | assumption | rfl) (by rfl) rfl ?_
        rw [d8]
        refine v_iadd 75 dX4_worth_74 rfl ?_
        refine v_imul 76 dX4_worth_75 rfl ?_
        refine v_isub 77 dX4_worth_76 rfl ?_
        refine v_ireturn dX4_worth_77 rfl ?_
        exact hq
      · obtain ⟨w3, v3⟩ := (rr_0 (by decide) a3).2 c44
        rw [if_neg w3] at hq
        refine v_iload_n 48 dX4_worth_47 rfl rfl ?_
        refine v_iconstv (v := 2) 49 dX4_worth_48 (by decide) rfl ?_
        refine v_aload_n 50 dX4_worth_49 rfl rfl ?_
        refine v_getfr 53 dX4_worth_50 fl_X4_36 (by first | assumption | rfl) (by rfl) rfl ?_
        rw [v3]
        refine v_getfi 56 dX4_worth_53 fl_X4_77 (by first | assumption | rfl) (by rfl) rfl ?_
        rw [(e4 w3).2.2.2]
        refine v_imul 57 dX4_worth_56 rfl ?_
        refine v_iadd 58 dX4_worth_57 rfl ?_
        refine v_istore_n 59 dX4_worth_58 (by decide) rfl rfl ?_
        dsimp only [List.set]
        refine v_iload_n 60 dX4_worth_59 rfl rfl ?_
        refine v_aload_n 61 dX4_worth_60 rfl rfl ?_
        refine v_getfi 64 dX4_worth_61 fl_X4_67 (by first | assumption | rfl) (by rfl) rfl ?_
        rw [d6]
        refine v_iadd 65 dX4_worth_64 rfl ?_
        refine v_iconstv (v := 3) 66 dX4_worth_65 (by decide) rfl ?_
        refine v_aload_n 67 dX4_worth_66 rfl rfl ?_
        refine v_getfi 70 dX4_worth_67 fl_X4_84 (by first | assumption | rfl) (by rfl) rfl ?_
        rw [d4]
        refine v_aload_n 71 dX4_worth_70 rfl rfl ?_
        refine v_getfi 74 dX4_worth_71 fl_X4_70 (by first | assumption | rfl) (by rfl) rfl ?_
        rw [d8]
        refine v_iadd 75 dX4_worth_74 rfl ?_
        refine v_imul 76 dX4_worth_75 rfl ?_
        refine v_isub 77 dX4_worth_76 rfl ?_
        refine v_ireturn dX4_worth_77 rfl ?_
        exact hq
