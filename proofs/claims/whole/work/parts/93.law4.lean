set_option maxRecDepth 20000 in
theorem W_38 {G : GW} {Q : RS → PH → Prop} {S : SP} {N j k n : Nat} {h : PH} {z6 z7 z8 : Option PV} (hL : gw_L G ≤ 3072) (hj : 6 * j + 6 ≤ gw_L G) (L9 : lw_I S N h) (hN : N ≤ 600) (K : ∀ S' h' z6 z7 z8, lw_I S' (N + 1) h' → VV G 13 k n yL_law cL_law 9 (some .boolean) [] 3031 [some (pv_O (7, 0)), some (pv_O (10, 0)), some (pv_O (40, 0)), some (pv_O (80, 0)), some (pv_O (81, 0)), some (pv_I (nI (6 * j))), z6, z7, z8] [] h' Q) : VV G 13 (k + 1150) (n + 14040) yL_law cL_law 9 (some .boolean) [] 2873 [some (pv_O (7, 0)), some (pv_O (10, 0)), some (pv_O (40, 0)), some (pv_O (80, 0)), some (pv_O (81, 0)), some (pv_I (nI (6 * j))), z6, z7, z8] [] h Q := by
  obtain ⟨R1, R2, I, J, Fr, l80, l81⟩ := L9
  have ez : (if as_ S (nn_ S 1) = 0 then (1 : Int32) else 0) = (if nn_ S 1 = 0 then 1 else 0) := by
    by_cases q : nn_ S 1 = 0
    · rw [if_pos q, if_pos (as_z q)]
    · rw [if_neg q, if_neg (as_0 I q)]
  refine v_aload_n 2874 dL_law_2873 rfl rfl ?_
  refine v_aload 2876 dL_law_2874 rfl rfl ?_
  refine v_invsW (d' := 8) (k' := 1) (n' := 6) (k2 := k + 1149) (n2 := n + 14034) 2879 [_, _] dL_law_2876 lk_L_289 md_L_usedShare ms_L_usedShare rfl rfl (of_decide_eq_true rfl) rfl (by decide) rfl rfl rfl rfl (C_L_usedShare R1 I l81 (fun h1 R1' te1 l1 v1 => ?_))
  rw [ez]
  have R2' : Rp2 S h1 := R2.te (fun t ht => te1 t (by omega) (by omega))
  have Fr1 : fr_s h1 := (fun t a b => (Fr t a b).te (te1 t (by omega) (by omega)))
  have m1 : hp_ln h1 80 0 = 1 := by rw [(te1 80 (by omega) (by decide)).2.1]; exact l80
  refine v_istore 2881 dL_law_2879 (by decide) rfl rfl ?_
  dsimp only [List.set]
  refine v_aload_n 2882 dL_law_2881 rfl rfl ?_
  refine v_invv (d' := 9) (k' := 2) (n' := 8) (k2 := (k + 1147)) (n2 := (n + 14026)) 2885 [] dL_law_2882 mt_L_292 mi_X12_usedShare me_X12_usedShare (by first | assumption | rfl) (by rfl) rfl rfl (of_decide_eq_true rfl) rfl (by decide) rfl rfl rfl rfl (C_X12_usedShare R2' I Fr1 (fun v2 h2 e2 R2'' c2 ke2 => ?_))
  refine v_fstore 2887 dL_law_2885 (by decide) rfl rfl ?_
  dsimp only [List.set]
  refine v_aload_n 2888 dL_law_2887 rfl rfl ?_
  refine v_invv (d' := 0) (k' := 0) (n' := 0) (k2 := (k + 1147)) (n2 := (n + 14026)) 2891 [] dL_law_2888 mt_L_162 mi_X12_thrown me_X12_thrown (by first | assumption | rfl) (by rfl) rfl rfl (of_decide_eq_true rfl) rfl (by decide) rfl rfl rfl rfl (C_X12_thrown ?_)
  rw [c2]
  refine v_iload 2893 dL_law_2891 rfl rfl ?_
  refine v_icmp_eq 2898 2896 dL_law_2893 (by decide) rfl (fun c2893 => ?_) (fun c2893 => ?_)
  · refine v_iload 2900 dL_law_2898 rfl rfl ?_
    refine v_if_ne 2936 2903 dL_law_2900 (by decide) rfl (fun c2900 => ?_) (fun c2900 => ?_)
    · refine v_goto 3031 dL_law_2936 (by decide) ?_
      refine VV.less (Nat.le_refl _) (by omega) (by omega) (K S _ _ _ _ ⟨R1'.te (fun t ht => ke2.1 t (by omega)), R2'', I.m (Nat.le_succ N), J, ke2.2 Fr1, by rw [(ke2.1 80 (by omega)).2.1]; exact m1, by rw [(ke2.1 81 (by omega)).2.1]; exact l1⟩)
    · have hz : ¬ nn_ S 1 = 0 := f1_0.mp c2900
      refine v_aload 2905 dL_law_2903 rfl rfl ?_
      refine v_iconstv (v := 0) 2906 dL_law_2905 (by decide) rfl ?_
      refine v_dald 2907 dL_law_2906 (by first | assumption | rfl) (by rw [(ke2.1 81 (by omega)).2.1, l1]; exact in_nI (m := 0) (by decide) (by decide)) rfl ?_
      rw [show Int32.toNatClampNeg 0 = 0 from rfl, (ke2.1 81 (by omega)).2.2.2.2.2, v1 (as_0 I hz), e2 hz]
      refine v_fload 2909 dL_law_2907 rfl rfl ?_
      refine v_f2d 2910 dL_law_2909 (vf64_of (fl_f2 (us_nn I (as_0 I hz)))) rfl ?_
      refine v_dcmp 2911 dL_law_2910 rfl ?_
      rw [vf_c0 (fl_f2 (us_nn I (as_0 I hz)))]
      refine v_if_eq 2936 2914 dL_law_2911 (by decide) rfl (fun c2911 => ?_) (fun c2911 => ?_)
      · refine v_goto 3031 dL_law_2936 (by decide) ?_
        refine VV.less (Nat.le_refl _) (by omega) (by omega) (K S _ _ _ _ ⟨R1'.te (fun t ht => ke2.1 t (by omega)), R2'', I.m (Nat.le_succ N), J, ke2.2 Fr1, by rw [(ke2.1 80 (by omega)).2.1]; exact m1, by rw [(ke2.1 81 (by omega)).2.1]; exact l1⟩)
      · exact absurd rfl c2911
  · exact absurd rfl c2893
set_option maxRecDepth 20000 in
theorem W_39 {G : GW} {Q : RS → PH → Prop} {S : SP} {N j k n : Nat} {h : PH} {z6 z7 z8 : Option PV} (hL : gw_L G ≤ 3072) (hj : 6 * j + 6 ≤ gw_L G) (L9 : lw_I S N h) (hN : N ≤ 600) (K : ∀ S' h' z6 z7 z8, lw_I S' (N + 1) h' → VV G 13 k n yL_law cL_law 9 (some .boolean) [] 3031 [some (pv_O (7, 0)), some (pv_O (10, 0)), some (pv_O (40, 0)), some (pv_O (80, 0)), some (pv_O (81, 0)), some (pv_I (nI (6 * j))), z6, z7, z8] [] h' Q) : VV G 13 (k + 1150) (n + 14040) yL_law cL_law 9 (some .boolean) [] 2939 [some (pv_O (7, 0)), some (pv_O (10, 0)), some (pv_O (40, 0)), some (pv_O (80, 0)), some (pv_O (81, 0)), some (pv_I (nI (6 * j))), z6, z7, z8] [] h Q := by
  obtain ⟨R1, R2, I, J, Fr, l80, l81⟩ := L9
  have ez : (if as_ S (nn_ S 1) = 0 then (1 : Int32) else 0) = (if nn_ S 1 = 0 then 1 else 0) := by
    by_cases q : nn_ S 1 = 0
    · rw [if_pos q, if_pos (as_z q)]
    · rw [if_neg q, if_neg (as_0 I q)]
  refine v_aload_n 2940 dL_law_2939 rfl rfl ?_
  refine v_aload 2942 dL_law_2940 rfl rfl ?_
  refine v_invsW (d' := 8) (k' := 1) (n' := 6) (k2 := k + 1149) (n2 := n + 14034) 2945 [_, _] dL_law_2942 lk_L_293 md_L_meanFigure ms_L_meanFigure rfl rfl (of_decide_eq_true rfl) rfl (by decide) rfl rfl rfl rfl (C_L_meanFigure R1 I l81 (fun h1 R1' te1 l1 v1 => ?_))
  rw [ez]
  have R2' : Rp2 S h1 := R2.te (fun t ht => te1 t (by omega) (by omega))
  have Fr1 : fr_s h1 := (fun t a b => (Fr t a b).te (te1 t (by omega) (by omega)))
  have m1 : hp_ln h1 80 0 = 1 := by rw [(te1 80 (by omega) (by decide)).2.1]; exact l80
  refine v_istore 2947 dL_law_2945 (by decide) rfl rfl ?_
  dsimp only [List.set]
  refine v_aload_n 2948 dL_law_2947 rfl rfl ?_
  refine v_invv (d' := 9) (k' := 2) (n' := 8) (k2 := (k + 1147)) (n2 := (n + 14026)) 2951 [] dL_law_2948 mt_L_295 mi_X12_meanFigure me_X12_meanFigure (by first | assumption | rfl) (by rfl) rfl rfl (of_decide_eq_true rfl) rfl (by decide) rfl rfl rfl rfl (C_X12_meanFigure R2' I Fr1 (fun v2 h2 e2 R2'' c2 ke2 => ?_))
  refine v_dstore 2953 dL_law_2951 (by decide) rfl rfl ?_
  dsimp only [List.set]
  refine v_aload_n 2954 dL_law_2953 rfl rfl ?_
  refine v_invv (d' := 0) (k' := 0) (n' := 0) (k2 := (k + 1147)) (n2 := (n + 14026)) 2957 [] dL_law_2954 mt_L_162 mi_X12_thrown me_X12_thrown (by first | assumption | rfl) (by rfl) rfl rfl (of_decide_eq_true rfl) rfl (by decide) rfl rfl rfl rfl (C_X12_thrown ?_)
  rw [c2]
  refine v_iload 2959 dL_law_2957 rfl rfl ?_
  refine v_icmp_eq 2964 2962 dL_law_2959 (by decide) rfl (fun c2959 => ?_) (fun c2959 => ?_)
  · refine v_iload 2966 dL_law_2964 rfl rfl ?_
    refine v_if_ne 3001 2969 dL_law_2966 (by decide) rfl (fun c2966 => ?_) (fun c2966 => ?_)
    · refine v_goto 3031 dL_law_3001 (by decide) ?_
      refine VV.less (Nat.le_refl _) (by omega) (by omega) (K S _ _ _ _ ⟨R1'.te (fun t ht => ke2.1 t (by omega)), R2'', I.m (Nat.le_succ N), J, ke2.2 Fr1, by rw [(ke2.1 80 (by omega)).2.1]; exact m1, by rw [(ke2.1 81 (by omega)).2.1]; exact l1⟩)
    · have hz : ¬ nn_ S 1 = 0 := f1_0.mp c2966
      refine v_aload 2971 dL_law_2969 rfl rfl ?_
      refine v_iconstv (v := 0) 2972 dL_law_2971 (by decide) rfl ?_
      refine v_dald 2973 dL_law_2972 (by first | assumption | rfl) (by rw [(ke2.1 81 (by omega)).2.1, l1]; exact in_nI (m := 0) (by decide) (by decide)) rfl ?_
      rw [show Int32.toNatClampNeg 0 = 0 from rfl, (ke2.1 81 (by omega)).2.2.2.2.2, v1 (as_0 I hz), e2 hz]
      refine v_dload 2975 dL_law_2973 rfl rfl ?_
      refine v_dcmp 2976 dL_law_2975 rfl ?_
      rw [vf_c0 (mf_nn I (as_0 I hz))]
      refine v_if_eq 3001 2979 dL_law_2976 (by decide) rfl (fun c2976 => ?_) (fun c2976 => ?_)
      · refine v_goto 3031 dL_law_3001 (by decide) ?_
        refine VV.less (Nat.le_refl _) (by omega) (by omega) (K S _ _ _ _ ⟨R1'.te (fun t ht => ke2.1 t (by omega)), R2'', I.m (Nat.le_succ N), J, ke2.2 Fr1, by rw [(ke2.1 80 (by omega)).2.1]; exact m1, by rw [(ke2.1 81 (by omega)).2.1]; exact l1⟩)
      · exact absurd rfl c2976
  · exact absurd rfl c2959
set_option maxRecDepth 40000 in
theorem L_L_law {G : GW} {Q : RS → PH → Prop} (hL : gw_L G ≤ 3072) (hq : ∀ h, Q (.inl (some (pv_I 1))) h) : ∀ fuel : Nat, ∀ (j : Nat) (S : SP) (h : PH) (z6 z7 z8 : Option PV), gw_L G / 6 = j + fuel → lw_I S j h → VV G 13 (1150 * fuel) (14040 * fuel) yL_law cL_law 9 (some .boolean) [] 28 [some (pv_O (7, 0)), some (pv_O (10, 0)), some (pv_O (40, 0)), some (pv_O (80, 0)), some (pv_O (81, 0)), some (pv_I (nI (6 * j))), z6, z7, z8] [] h Q := by
  intro fuel
  induction fuel with
  | zero =>
    intro j S h z6 z7 z8 hf L9
    have hx : gw_L G < 6 * j + 6 := by omega
    refine v_iload 30 dL_law_28 rfl rfl ?_
    refine v_aload_n 31 dL_law_30 rfl rfl ?_
    refine VV.know (fun ho9 _ _ => ?_)
    refine v_alen 32 dL_law_31 (by first | assumption | rfl) (by simp [g_tys]) rfl ?_
    rw [ho9.2.2.2.2.2.2.2.2.1]
    refine v_bipushv (v := 6) 34 dL_law_32 (by decide) rfl ?_
    refine v_isub 35 dL_law_34 rfl ?_
    refine v_icmp_gt 3037 38 dL_law_35 (by decide) rfl (fun c35 => ?_) (fun c35 => ?_)
    · refine v_iconstv (v := 1) 3038 dL_law_3037 (by decide) rfl ?_
      refine v_zreturn (ty := .boolean) (by first | rfl | decide | exact nz_if | exact nz_fi) dL_law_3038 rfl ?_
      exact hq h
    · have w := fun q => c35 (Int32.lt_iff_toInt_lt.mpr q)
      rw [show (nI (gw_L G) : Int32) - 6 = nI (gw_L G) - nI 6 from rfl, pk_sub_toInt (by omega) (by decide), nI_toInt (by omega)] at w
      exact absurd (by omega) w
  | succ fuel ih =>
    intro j S h z6 z7 z8 hf L9
    have hx : 6 * j + 6 ≤ gw_L G := by omega
    refine v_iload 30 dL_law_28 rfl rfl ?_
    refine v_aload_n 31 dL_law_30 rfl rfl ?_
    refine VV.know (fun ho9 _ _ => ?_)
    refine v_alen 32 dL_law_31 (by first | assumption | rfl) (by simp [g_tys]) rfl ?_
    rw [ho9.2.2.2.2.2.2.2.2.1]
    refine v_bipushv (v := 6) 34 dL_law_32 (by decide) rfl ?_
    refine v_isub 35 dL_law_34 rfl ?_
    refine v_icmp_gt 3037 38 dL_law_35 (by decide) rfl (fun c35 => ?_) (fun c35 => ?_)
    · have w := Int32.lt_iff_toInt_lt.mp c35
      rw [show (nI (gw_L G) : Int32) - 6 = nI (gw_L G) - nI 6 from rfl, pk_sub_toInt (by omega) (by decide), nI_toInt (by omega)] at w
      omega
    · refine v_aload_n 39 dL_law_38 rfl rfl ?_
      refine v_iload 41 dL_law_39 rfl rfl ?_
      refine VV.know (fun ho9 _ _ => ?_)
      refine v_iald 42 dL_law_41 (by first | assumption | rfl) (by rw [ho9.2.2.2.2.2.2.2.2.1]; exact in_nI (by omega) (by omega)) rfl ?_
      rw [nI_clamp (by omega), ho9.2.2.2.2.2.2.2.2.2]
      refine v_bipushv (v := 63) 44 dL_law_42 (by decide) rfl ?_
      refine v_iand 45 dL_law_44 rfl ?_
      have K9 : ∀ S' h' z6 z7 z8, lw_I S' (j + 1) h' → VV G 13 (1150 * fuel) (14040 * fuel) yL_law cL_law 9 (some .boolean) [] 3031 [some (pv_O (7, 0)), some (pv_O (10, 0)), some (pv_O (40, 0)), some (pv_O (80, 0)), some (pv_O (81, 0)), some (pv_I (nI (6 * j))), z6, z7, z8] [] h' Q := fun S' h' z6 z7 z8 L8 => by
        refine v_iinc 3034 dL_law_3031 rfl (by decide) rfl rfl ?_
        dsimp only [List.set]
        refine v_goto 28 dL_law_3034 (by decide) ?_
        rw [show nI (6 * j) + Int32.ofInt 6 = nI (6 * (j + 1)) from nI_add (6 * j) 6]
        exact ih (j + 1) S' h' _ _ _ (by omega) L8
      rw [pk_and _ 6 (by decide)]
      have hv : (gw_x G (6 * j)).toBitVec.toNat % 2 ^ 6 < 64 := Nat.mod_lt _ (by decide)
      generalize (gw_x G (6 * j)).toBitVec.toNat % 2 ^ 6 = v at hv ⊢
      rcases Nat.lt_or_ge 41 v with hv2 | hv2
      · refine v_tblOut 3031 dL_law_45 (Or.inr (by rw [nI_toInt (by omega)]; omega)) (by decide) ?_
        refine VV.less (Nat.le_refl _) (Nat.le_add_right _ _) (Nat.le_add_right _ _) (K9 S h _ _ _ ⟨L9.1, L9.2.1, L9.2.2.1.m (by omega), L9.2.2.2⟩)
      have hv3 : v = 0 ∨ v = 1 ∨ v = 2 ∨ v = 3 ∨ v = 4 ∨ v = 5 ∨ v = 6 ∨ v = 7 ∨ v = 8 ∨ v = 9 ∨ v = 10 ∨ v = 11 ∨ v = 12 ∨ v = 13 ∨ v = 14 ∨ v = 15 ∨ v = 16 ∨ v = 17 ∨ v = 18 ∨ v = 19 ∨ v = 20 ∨ v = 21 ∨ v = 22 ∨ v = 23 ∨ v = 24 ∨ v = 25 ∨ v = 26 ∨ v = 27 ∨ v = 28 ∨ v = 29 ∨ v = 30 ∨ v = 31 ∨ v = 32 ∨ v = 33 ∨ v = 34 ∨ v = 35 ∨ v = 36 ∨ v = 37 ∨ v = 38 ∨ v = 39 ∨ v = 40 ∨ v = 41 := by omega
      rcases hv3 with rfl | rfl | rfl | rfl | rfl | rfl | rfl | rfl | rfl | rfl | rfl | rfl | rfl | rfl | rfl | rfl | rfl | rfl | rfl | rfl | rfl | rfl | rfl | rfl | rfl | rfl | rfl | rfl | rfl | rfl | rfl | rfl | rfl | rfl | rfl | rfl | rfl | rfl | rfl | rfl | rfl | rfl
      · refine v_tblIn 228 dL_law_45 (by decide) (by decide) rfl (by decide) ?_
        exact W_0 hL (by omega) L9 (by omega) K9
      · refine v_tblIn 324 dL_law_45 (by decide) (by decide) rfl (by decide) ?_
        exact W_1 hL (by omega) L9 (by omega) K9
      · refine v_tblIn 406 dL_law_45 (by decide) (by decide) rfl (by decide) ?_
        exact W_2 hL (by omega) L9 (by omega) K9
      · refine v_tblIn 462 dL_law_45 (by decide) (by decide) rfl (by decide) ?_
        exact W_3 hL (by omega) L9 (by omega) K9
      · refine v_tblIn 530 dL_law_45 (by decide) (by decide) rfl (by decide) ?_
        exact W_4 hL (by omega) L9 (by omega) K9
      · refine v_tblIn 598 dL_law_45 (by decide) (by decide) rfl (by decide) ?_
        exact W_5 hL (by omega) L9 (by omega) K9
      · refine v_tblIn 666 dL_law_45 (by decide) (by decide) rfl (by decide) ?_
        exact W_6 hL (by omega) L9 (by omega) K9
      · refine v_tblIn 741 dL_law_45 (by decide) (by decide) rfl (by decide) ?_
        exact W_7 hL (by omega) L9 (by omega) K9
      · refine v_tblIn 835 dL_law_45 (by decide) (by decide) rfl (by decide) ?_
        exact W_8 hL (by omega) L9 (by omega) K9
      · refine v_tblIn 941 dL_law_45 (by decide) (by decide) rfl (by decide) ?_
        exact W_9 hL (by omega) L9 (by omega) K9
      · refine v_tblIn 1033 dL_law_45 (by decide) (by decide) rfl (by decide) ?_
        exact W_10 hL (by omega) L9 (by omega) K9
      · refine v_tblIn 1089 dL_law_45 (by decide) (by decide) rfl (by decide) ?_
        exact W_11 hL (by omega) L9 (by omega) K9
      · refine v_tblIn 1183 dL_law_45 (by decide) (by decide) rfl (by decide) ?_
        exact W_12 hL (by omega) L9 (by omega) K9
      · refine v_tblIn 1275 dL_law_45 (by decide) (by decide) rfl (by decide) ?_
        exact W_13 hL (by omega) L9 (by omega) K9
      · refine v_tblIn 1331 dL_law_45 (by decide) (by decide) rfl (by decide) ?_
        exact W_14 hL (by omega) L9 (by omega) K9
      · refine v_tblIn 1387 dL_law_45 (by decide) (by decide) rfl (by decide) ?_
        exact W_15 hL (by omega) L9 (by omega) K9
      · refine v_tblIn 1455 dL_law_45 (by decide) (by decide) rfl (by decide) ?_
        exact W_16 hL (by omega) L9 (by omega) K9
      · refine v_tblIn 1518 dL_law_45 (by decide) (by decide) rfl (by decide) ?_
        exact W_17 hL (by omega) L9 (by omega) K9
      · refine v_tblIn 1574 dL_law_45 (by decide) (by decide) rfl (by decide) ?_
        exact W_18 hL (by omega) L9 (by omega) K9
      · refine v_tblIn 1642 dL_law_45 (by decide) (by decide) rfl (by decide) ?_
        exact W_19 hL (by omega) L9 (by omega) K9
      · refine v_tblIn 1705 dL_law_45 (by decide) (by decide) rfl (by decide) ?_
        exact W_20 hL (by omega) L9 (by omega) K9
      · refine v_tblIn 1773 dL_law_45 (by decide) (by decide) rfl (by decide) ?_
        exact W_21 hL (by omega) L9 (by omega) K9
      · refine v_tblIn 1786 dL_law_45 (by decide) (by decide) rfl (by decide) ?_
        exact W_22 hL (by omega) L9 (by omega) K9
      · refine v_tblIn 1842 dL_law_45 (by decide) (by decide) rfl (by decide) ?_
        exact W_23 hL (by omega) L9 (by omega) K9
      · refine v_tblIn 1886 dL_law_45 (by decide) (by decide) rfl (by decide) ?_
        exact W_24 hL (by omega) L9 (by omega) K9
      · refine v_tblIn 1992 dL_law_45 (by decide) (by decide) rfl (by decide) ?_
        exact W_25 hL (by omega) L9 (by omega) K9
      · refine v_tblIn 2072 dL_law_45 (by decide) (by decide) rfl (by decide) ?_
        exact W_26 hL (by omega) L9 (by omega) K9
      · refine v_tblIn 2128 dL_law_45 (by decide) (by decide) rfl (by decide) ?_
        exact W_27 hL (by omega) L9 (by omega) K9
      · refine v_tblIn 2184 dL_law_45 (by decide) (by decide) rfl (by decide) ?_
        exact W_28 hL (by omega) L9 (by omega) K9
      · refine v_tblIn 2276 dL_law_45 (by decide) (by decide) rfl (by decide) ?_
        exact W_29 hL (by omega) L9 (by omega) K9
      · refine v_tblIn 2368 dL_law_45 (by decide) (by decide) rfl (by decide) ?_
        exact W_30 hL (by omega) L9 (by omega) K9
      · refine v_tblIn 2436 dL_law_45 (by decide) (by decide) rfl (by decide) ?_
        exact W_31 hL (by omega) L9 (by omega) K9
      · refine v_tblIn 2530 dL_law_45 (by decide) (by decide) rfl (by decide) ?_
        exact W_32 hL (by omega) L9 (by omega) K9
      · refine v_tblIn 2586 dL_law_45 (by decide) (by decide) rfl (by decide) ?_
        exact W_33 hL (by omega) L9 (by omega) K9
      · refine v_tblIn 2666 dL_law_45 (by decide) (by decide) rfl (by decide) ?_
        exact W_34 hL (by omega) L9 (by omega) K9
      · refine v_tblIn 2691 dL_law_45 (by decide) (by decide) rfl (by decide) ?_
        exact W_35 hL (by omega) L9 (by omega) K9
      · refine v_tblIn 2759 dL_law_45 (by decide) (by decide) rfl (by decide) ?_
        exact W_36 hL (by omega) L9 (by omega) K9
      · refine v_tblIn 2817 dL_law_45 (by decide) (by decide) rfl (by decide) ?_
        exact W_37 hL (by omega) L9 (by omega) K9
      · refine v_tblIn 2873 dL_law_45 (by decide) (by decide) rfl (by decide) ?_
        exact W_38 hL (by omega) L9 (by omega) K9
      · refine v_tblIn 2939 dL_law_45 (by decide) (by decide) rfl (by decide) ?_
        exact W_39 hL (by omega) L9 (by omega) K9
      · refine v_tblIn 3004 dL_law_45 (by decide) (by decide) rfl (by decide) ?_
        exact W_40 hL (by omega) L9 (by omega) K9
      · refine v_tblIn 3018 dL_law_45 (by decide) (by decide) rfl (by decide) ?_
        exact W_41 hL (by omega) L9 (by omega) K9
set_option maxRecDepth 40000 in
theorem C_L_law {G : GW} {hB : PH} {Q : RS → PH → Prop} (hL : gw_L G ≤ 3072) (B : h_b hB) (hq : ∀ h, Q (.inl (some (pv_I 1))) h) : VV G 13 588815 7188539 yL_law cL_law 9 (some .boolean) [] 0 [some (pv_O (7, 0)), none, none, none, none, none, none, none, none] [] hB Q := by
  refine v_new (k1 := 588814) (n1 := 7188528) 3 10 0 dL_law_0 nw_L_8 (by rfl) (by decide) (by rw [(B.1 10 (by decide)).1]) rfl rfl rfl ?_
  refine v_dup 4 dL_law_3 rfl rfl ?_
  refine v_invi (d' := 4) (k' := 5) (n' := 15) (k2 := 588809) (n2 := 7188513) 7 [] dL_law_4 mt_L_152 mi_X6_init rfl rfl (by first | assumption | rfl) rfl rfl (of_decide_eq_true rfl) rfl (by decide) rfl rfl rfl rfl (C_X6_init (by rw [(show hp_te hB (hp_new hB 10 0 0) 20 from (by repeat' first | exact hp_te.rf | refine hp_te.tr ?_ (hp_te.i (by omega)) | refine hp_te.tr ?_ (nl_te (by omega) (by omega)) | refine hp_te.tr ?_ (hp_te.n (by omega)))).1, (B.1 20 (by decide)).1]) (by rw [(show hp_te hB (hp_new hB 10 0 0) 21 from (by repeat' first | exact hp_te.rf | refine hp_te.tr ?_ (hp_te.i (by omega)) | refine hp_te.tr ?_ (nl_te (by omega) (by omega)) | refine hp_te.tr ?_ (hp_te.n (by omega)))).1, (B.1 21 (by decide)).1]) (by rw [(show hp_te hB (hp_new hB 10 0 0) 22 from (by repeat' first | exact hp_te.rf | refine hp_te.tr ?_ (hp_te.i (by omega)) | refine hp_te.tr ?_ (nl_te (by omega) (by omega)) | refine hp_te.tr ?_ (hp_te.n (by omega)))).1, (B.1 22 (by decide)).1]) (by rw [(show hp_te hB (hp_new hB 10 0 0) 23 from (by repeat' first | exact hp_te.rf | refine hp_te.tr ?_ (hp_te.i (by omega)) | refine hp_te.tr ?_ (nl_te (by omega) (by omega)) | refine hp_te.tr ?_ (hp_te.n (by omega)))).1, (B.1 23 (by decide)).1]) (by rw [(show hp_te hB (hp_new hB 10 0 0) 24 from (by repeat' first | exact hp_te.rf | refine hp_te.tr ?_ (hp_te.i (by omega)) | refine hp_te.tr ?_ (nl_te (by omega) (by omega)) | refine hp_te.tr ?_ (hp_te.n (by omega)))).1, (B.1 24 (by decide)).1]) ?_)
  refine v_astore_n 8 dL_law_7 (by decide) rfl rfl ?_
  dsimp only [List.set]
  refine v_new (k1 := 588808) (n1 := 7188500) 11 40 0 dL_law_8 nw_L_153 (by rfl) (by decide) (by rw [(show hp_te hB (hp_seti (nl_ (nl_ (nl_ (nl_ (nl_ (hp_new hB 10 0 0) 10 0 20) 10 1 21) 10 2 22) 10 3 23) 10 4 24) 10 0 5 8) 40 from (by repeat' first | exact hp_te.rf | refine hp_te.tr ?_ (hp_te.i (by omega)) | refine hp_te.tr ?_ (nl_te (by omega) (by omega)) | refine hp_te.tr ?_ (hp_te.n (by omega)))).1, (B.1 40 (by decide)).1]) rfl rfl rfl ?_
  refine v_dup 12 dL_law_11 rfl rfl ?_
  refine v_invi (d' := 4) (k' := 6) (n' := 18) (k2 := 588802) (n2 := 7188482) 15 [] dL_law_12 mt_L_155 mi_X12_init rfl rfl (by first | assumption | rfl) rfl rfl (of_decide_eq_true rfl) rfl (by decide) rfl rfl rfl rfl (C_X12_init (by rw [(show hp_te hB (hp_new (hp_seti (nl_ (nl_ (nl_ (nl_ (nl_ (hp_new hB 10 0 0) 10 0 20) 10 1 21) 10 2 22) 10 3 23) 10 4 24) 10 0 5 8) 40 0 0) 50 from (by repeat' first | exact hp_te.rf | refine hp_te.tr ?_ (hp_te.i (by omega)) | refine hp_te.tr ?_ (nl_te (by omega) (by omega)) | refine hp_te.tr ?_ (hp_te.n (by omega)))).1, (B.1 50 (by decide)).1]) (by rw [(show hp_te hB (hp_new (hp_seti (nl_ (nl_ (nl_ (nl_ (nl_ (hp_new hB 10 0 0) 10 0 20) 10 1 21) 10 2 22) 10 3 23) 10 4 24) 10 0 5 8) 40 0 0) 51 from (by repeat' first | exact hp_te.rf | refine hp_te.tr ?_ (hp_te.i (by omega)) | refine hp_te.tr ?_ (nl_te (by omega) (by omega)) | refine hp_te.tr ?_ (hp_te.n (by omega)))).1, (B.1 51 (by decide)).1]) (by rw [(show hp_te hB (hp_new (hp_seti (nl_ (nl_ (nl_ (nl_ (nl_ (hp_new hB 10 0 0) 10 0 20) 10 1 21) 10 2 22) 10 3 23) 10 4 24) 10 0 5 8) 40 0 0) 52 from (by repeat' first | exact hp_te.rf | refine hp_te.tr ?_ (hp_te.i (by omega)) | refine hp_te.tr ?_ (nl_te (by omega) (by omega)) | refine hp_te.tr ?_ (hp_te.n (by omega)))).1, (B.1 52 (by decide)).1]) (by rw [(show hp_te hB (hp_new (hp_seti (nl_ (nl_ (nl_ (nl_ (nl_ (hp_new hB 10 0 0) 10 0 20) 10 1 21) 10 2 22) 10 3 23) 10 4 24) 10 0 5 8) 40 0 0) 53 from (by repeat' first | exact hp_te.rf | refine hp_te.tr ?_ (hp_te.i (by omega)) | refine hp_te.tr ?_ (nl_te (by omega) (by omega)) | refine hp_te.tr ?_ (hp_te.n (by omega)))).1, (B.1 53 (by decide)).1]) (by rw [(show hp_te hB (hp_new (hp_seti (nl_ (nl_ (nl_ (nl_ (nl_ (hp_new hB 10 0 0) 10 0 20) 10 1 21) 10 2 22) 10 3 23) 10 4 24) 10 0 5 8) 40 0 0) 54 from (by repeat' first | exact hp_te.rf | refine hp_te.tr ?_ (hp_te.i (by omega)) | refine hp_te.tr ?_ (nl_te (by omega) (by omega)) | refine hp_te.tr ?_ (hp_te.n (by omega)))).1, (B.1 54 (by decide)).1]) (by rw [(show hp_te hB (hp_new (hp_seti (nl_ (nl_ (nl_ (nl_ (nl_ (hp_new hB 10 0 0) 10 0 20) 10 1 21) 10 2 22) 10 3 23) 10 4 24) 10 0 5 8) 40 0 0) 55 from (by repeat' first | exact hp_te.rf | refine hp_te.tr ?_ (hp_te.i (by omega)) | refine hp_te.tr ?_ (nl_te (by omega) (by omega)) | refine hp_te.tr ?_ (hp_te.n (by omega)))).1, (B.1 55 (by decide)).1]) ?_)
  refine v_astore_n 16 dL_law_15 (by decide) rfl rfl ?_
  dsimp only [List.set]
  refine v_iconstv (v := 1) 17 dL_law_16 (by decide) rfl ?_
  refine v_newarr (ty := .long) (N := 1) (k1 := 588801) (n1 := 7188481) 19 80 0 dL_law_17 ac_long rfl (by simp [g_tys]) (by rfl) (by decide) (by rw [(show hp_te hB (nl_ (hp_seti (nl_ (nl_ (nl_ (nl_ (nl_ (hp_new (hp_seti (nl_ (nl_ (nl_ (nl_ (nl_ (hp_new hB 10 0 0) 10 0 20) 10 1 21) 10 2 22) 10 3 23) 10 4 24) 10 0 5 8) 40 0 0) 40 1 50) 40 2 51) 40 3 52) 40 4 53) 40 5 54) 40 0 11 8) 40 12 55) 80 from (by repeat' first | exact hp_te.rf | refine hp_te.tr ?_ (hp_te.i (by omega)) | refine hp_te.tr ?_ (nl_te (by omega) (by omega)) | refine hp_te.tr ?_ (hp_te.n (by omega)))).1, (B.1 80 (by decide)).1]) (by decide) (by decide) (by decide) rfl rfl rfl ?_
  refine v_astore_n 20 dL_law_19 (by decide) rfl rfl ?_
  dsimp only [List.set]
  refine v_iconstv (v := 1) 21 dL_law_20 (by decide) rfl ?_
  refine v_newarr (ty := .double) (N := 1) (k1 := 588800) (n1 := 7188480) 23 81 0 dL_law_21 ac_double rfl (by simp [g_tys]) (by rfl) (by decide) (by rw [(show hp_te hB (hp_new (nl_ (hp_seti (nl_ (nl_ (nl_ (nl_ (nl_ (hp_new (hp_seti (nl_ (nl_ (nl_ (nl_ (nl_ (hp_new hB 10 0 0) 10 0 20) 10 1 21) 10 2 22) 10 3 23) 10 4 24) 10 0 5 8) 40 0 0) 40 1 50) 40 2 51) 40 3 52) 40 4 53) 40 5 54) 40 0 11 8) 40 12 55) 80 0 1) 81 from (by repeat' first | exact hp_te.rf | refine hp_te.tr ?_ (hp_te.i (by omega)) | refine hp_te.tr ?_ (nl_te (by omega) (by omega)) | refine hp_te.tr ?_ (hp_te.n (by omega)))).1, (B.1 81 (by decide)).1]) (by decide) (by decide) (by decide) rfl rfl rfl ?_
  refine v_astore 25 dL_law_23 (by decide) rfl rfl ?_
  dsimp only [List.set]
  refine v_iconstv (v := 0) 26 dL_law_25 (by decide) rfl ?_
  refine v_istore 28 dL_law_26 (by decide) rfl rfl ?_
  dsimp only [List.set]
  have R1 : Rp1 s_0 (hp_new (hp_new (nl_ (hp_seti (nl_ (nl_ (nl_ (nl_ (nl_ (hp_new (hp_seti (nl_ (nl_ (nl_ (nl_ (nl_ (hp_new hB 10 0 0) 10 0 20) 10 1 21) 10 2 22) 10 3 23) 10 4 24) 10 0 5 8) 40 0 0) 40 1 50) 40 2 51) 40 3 52) 40 4 53) 40 5 54) 40 0 11 8) 40 12 55) 80 0 1) 81 0 1) := (rp_1 B).te (fun t ht => (by repeat' first | exact hp_te.rf | refine hp_te.tr ?_ (hp_te.i (by omega)) | refine hp_te.tr ?_ (nl_te (by omega) (by omega)) | refine hp_te.tr ?_ (hp_te.n (by omega))))
  have e5 : hp_te hB (hp_seti (nl_ (nl_ (nl_ (nl_ (nl_ (hp_new hB 10 0 0) 10 0 20) 10 1 21) 10 2 22) 10 3 23) 10 4 24) 10 0 5 8) 5 := (by repeat' first | exact hp_te.rf | refine hp_te.tr ?_ (hp_te.i (by omega)) | refine hp_te.tr ?_ (nl_te (by omega) (by omega)) | refine hp_te.tr ?_ (hp_te.n (by omega)))
  have R2 : Rp2 s_0 (hp_new (hp_new (nl_ (hp_seti (nl_ (nl_ (nl_ (nl_ (nl_ (hp_new (hp_seti (nl_ (nl_ (nl_ (nl_ (nl_ (hp_new hB 10 0 0) 10 0 20) 10 1 21) 10 2 22) 10 3 23) 10 4 24) 10 0 5 8) 40 0 0) 40 1 50) 40 2 51) 40 3 52) 40 4 53) 40 5 54) 40 0 11 8) 40 12 55) 80 0 1) 81 0 1) := (rp_2 (h := (hp_seti (nl_ (nl_ (nl_ (nl_ (nl_ (hp_new hB 10 0 0) 10 0 20) 10 1 21) 10 2 22) 10 3 23) 10 4 24) 10 0 5 8)) (fun t ht => by
    have e : hp_te hB (hp_seti (nl_ (nl_ (nl_ (nl_ (nl_ (hp_new hB 10 0 0) 10 0 20) 10 1 21) 10 2 22) 10 3 23) 10 4 24) 10 0 5 8) t := (by repeat' first | exact hp_te.rf | refine hp_te.tr ?_ (hp_te.i (by omega)) | refine hp_te.tr ?_ (nl_te (by omega) (by omega)) | refine hp_te.tr ?_ (hp_te.n (by omega)))
    obtain ⟨q1, q2, q3, q4, q5, q6⟩ := B.1 t (by omega)
    exact ⟨e.1.trans q1, e.2.1.trans q2, e.2.2.1.trans q3, e.2.2.2.1.trans q4, e.2.2.2.2.1.trans q5, e.2.2.2.2.2.trans q6⟩) (by rw [e5.1]; exact B.2.1) (by rw [e5.2.1]; exact B.2.2)).te (fun t ht => (by repeat' first | exact hp_te.rf | refine hp_te.tr ?_ (hp_te.i (by omega)) | refine hp_te.tr ?_ (nl_te (by omega) (by omega)) | refine hp_te.tr ?_ (hp_te.n (by omega))))
  have Fr : fr_s (hp_new (hp_new (nl_ (hp_seti (nl_ (nl_ (nl_ (nl_ (nl_ (hp_new (hp_seti (nl_ (nl_ (nl_ (nl_ (nl_ (hp_new hB 10 0 0) 10 0 20) 10 1 21) 10 2 22) 10 3 23) 10 4 24) 10 0 5 8) 40 0 0) 40 1 50) 40 2 51) 40 3 52) 40 4 53) 40 5 54) 40 0 11 8) 40 12 55) 80 0 1) 81 0 1) := fun t a b => fr_te (h := hB) (by repeat' first | exact hp_te.rf | refine hp_te.tr ?_ (hp_te.i (by omega)) | refine hp_te.tr ?_ (nl_te (by omega) (by omega)) | refine hp_te.tr ?_ (hp_te.n (by omega))) (B.1 t (by omega)).1
  have l81 : hp_ln (hp_new (hp_new (nl_ (hp_seti (nl_ (nl_ (nl_ (nl_ (nl_ (hp_new (hp_seti (nl_ (nl_ (nl_ (nl_ (nl_ (hp_new hB 10 0 0) 10 0 20) 10 1 21) 10 2 22) 10 3 23) 10 4 24) 10 0 5 8) 40 0 0) 40 1 50) 40 2 51) 40 3 52) 40 4 53) 40 5 54) 40 0 11 8) 40 12 55) 80 0 1) 81 0 1) 81 0 = 1 := hp_new_ln0
  have l80 : hp_ln (hp_new (hp_new (nl_ (hp_seti (nl_ (nl_ (nl_ (nl_ (nl_ (hp_new (hp_seti (nl_ (nl_ (nl_ (nl_ (nl_ (hp_new hB 10 0 0) 10 0 20) 10 1 21) 10 2 22) 10 3 23) 10 4 24) 10 0 5 8) 40 0 0) 40 1 50) 40 2 51) 40 3 52) 40 4 53) 40 5 54) 40 0 11 8) 40 12 55) 80 0 1) 81 0 1) 80 0 = 1 := by
    rw [(hp_te.n (by decide) : hp_te (hp_new (nl_ (hp_seti (nl_ (nl_ (nl_ (nl_ (nl_ (hp_new (hp_seti (nl_ (nl_ (nl_ (nl_ (nl_ (hp_new hB 10 0 0) 10 0 20) 10 1 21) 10 2 22) 10 3 23) 10 4 24) 10 0 5 8) 40 0 0) 40 1 50) 40 2 51) 40 3 52) 40 4 53) 40 5 54) 40 0 11 8) 40 12 55) 80 0 1) (hp_new (hp_new (nl_ (hp_seti (nl_ (nl_ (nl_ (nl_ (nl_ (hp_new (hp_seti (nl_ (nl_ (nl_ (nl_ (nl_ (hp_new hB 10 0 0) 10 0 20) 10 1 21) 10 2 22) 10 3 23) 10 4 24) 10 0 5 8) 40 0 0) 40 1 50) 40 2 51) 40 3 52) 40 4 53) 40 5 54) 40 0 11 8) 40 12 55) 80 0 1) 81 0 1) 80).2.1]
    exact hp_new_ln0
  refine VV.less (Nat.le_refl _) (k' := 1150 * (gw_L G / 6)) (n' := 14040 * (gw_L G / 6)) (by omega) (by omega) ?_
  exact L_L_law hL hq (gw_L G / 6) 0 s_0 _ _ _ _ (by omega) ⟨R1, R2, iv_0, j2_0, Fr, l80, l81⟩
