set_option maxRecDepth 20000 in
theorem Li_X12_checksum {G : GW} {h : PH} {Q : RS → PH → Prop} {S : SP} {N : Nat} (R : Rp2 S h) (I : Iv S N) {k it : Nat} (hk : k < nn_ S 1) (K : ∀ z9, VV G 9 518 12560 yX12_checksum cX12_checksum 10 (some .long) [] 91 [some (pv_O (40, 0)), some (pv_L (c1_ S k)), none, some (pv_O (71, it)), some (pv_O (42, k)), some (pv_I (nI (s_uc S k (s_n S k)))), some (pv_O (62, k)), some (pv_I (nI (s_n S k))), some (pv_I (nI (s_n S k))), z9] [] h Q) : ∀ fuel : Nat, ∀ (l : Nat) (z9 : Option PV), l ≤ s_n S k → s_n S k - l < fuel → VV G 9 518 12560 yX12_checksum cX12_checksum 10 (some .long) [] 56 [some (pv_O (40, 0)), some (pv_L (c1_ S k)), none, some (pv_O (71, it)), some (pv_O (42, k)), some (pv_I (nI (s_uc S k l))), some (pv_O (62, k)), some (pv_I (nI (s_n S k))), some (pv_I (nI l)), z9] [] h Q := by
  intro fuel
  induction fuel with
  | zero =>
    intro l z9 h1 h2
    omega
  | succ fuel ih =>
    intro l zz9 hl h2
    have h24 := I.n24 hk
    refine v_iload 58 dX12_checksum_56 rfl rfl ?_
    refine v_iload 60 dX12_checksum_58 rfl rfl ?_
    refine v_icmp_ge 91 63 dX12_checksum_60 (by decide) rfl (fun c60 => ?_) (fun c60 => ?_)
    · have hkm : l = s_n S k := by
        rcases Nat.lt_or_ge l (s_n S k) with q | q
        · exact absurd c60 (nI_ge q (by omega))
        · omega
      subst hkm
      exact K _
    · have hkm : l < s_n S k := by
        rcases Nat.lt_or_ge l (s_n S k) with q | q
        · exact q
        · exact absurd (nI_le q (by omega)) c60
      refine v_aload 65 dX12_checksum_63 rfl rfl ?_
      refine v_iload 67 dX12_checksum_65 rfl rfl ?_
      refine v_zald 68 dX12_checksum_67 (by first | assumption | rfl) (by rw [R.ln (t := 62) (by decide)]; exact in_nI hkm (by omega)) rfl ?_
      rw [nI_clamp (by omega), R.vi (t := 62) (by decide)]
      refine v_istore 70 dX12_checksum_68 (by decide) rfl rfl ?_
      dsimp only [List.set]
      refine v_iload 72 dX12_checksum_70 rfl rfl ?_
      refine v_iload 74 dX12_checksum_72 rfl rfl ?_
      refine v_if_eq 81 77 dX12_checksum_74 (by decide) rfl (fun c74 => ?_) (fun c74 => ?_)
      · refine v_iconstv (v := 0) 82 dX12_checksum_81 (by decide) rfl ?_
        refine v_iadd 83 dX12_checksum_82 rfl ?_
        refine v_istore 85 dX12_checksum_83 (by decide) rfl rfl ?_
        dsimp only [List.set]
        refine v_iinc 88 dX12_checksum_85 rfl (by decide) rfl rfl ?_
        dsimp only [List.set]
        refine v_goto 56 dX12_checksum_88 (by decide) ?_
        rw [show nI l + Int32.ofInt 1 = nI (l + 1) from nI_1 l, Int32.add_zero]
        have X := fun z => ih (l + 1) z (by omega) (by omega)
        rw [show s_uc S k (l + 1) = s_uc S k l from congrArg (s_uc S k l + ·) (if_pos c74)] at X
        exact X _
      · refine v_iconstv (v := 1) 78 dX12_checksum_77 (by decide) rfl ?_
        refine v_goto 82 dX12_checksum_78 (by decide) ?_
        refine v_iadd 83 dX12_checksum_82 rfl ?_
        refine v_istore 85 dX12_checksum_83 (by decide) rfl rfl ?_
        dsimp only [List.set]
        refine v_iinc 88 dX12_checksum_85 rfl (by decide) rfl rfl ?_
        dsimp only [List.set]
        refine v_goto 56 dX12_checksum_88 (by decide) ?_
        rw [show nI l + Int32.ofInt 1 = nI (l + 1) from nI_1 l, nI_1]
        have X := fun z => ih (l + 1) z (by omega) (by omega)
        rw [show s_uc S k (l + 1) = s_uc S k l + 1 from congrArg (s_uc S k l + ·) (if_neg c74)] at X
        exact X _
set_option maxRecDepth 20000 in
theorem L1_X12_checksum {G : GW} {h0 : PH} {Q : RS → PH → Prop} {S : SP} {N : Nat} (I : Iv S N) {it : Nat} (K : ∀ (z4 z5 z6 z7 z8 z9 : Option PV) (h : PH), Rp2 S h → ke_ h0 h → VV G 9 518 12560 yX12_checksum cX12_checksum 10 (some .long) [] 104 [some (pv_O (40, 0)), some (pv_L (c1_ S (nn_ S 1))), none, some (pv_O (71, it)), z4, z5, z6, z7, z8, z9] [] h Q) : ∀ fuel : Nat, ∀ (k : Nat) (z4 z5 z6 z7 z8 z9 : Option PV) (h : PH), k ≤ nn_ S 1 → nn_ S 1 - k < fuel → Rp2 S h → is_I h it 51 0 k → ke_ h0 h → VV G 9 518 12560 yX12_checksum cX12_checksum 10 (some .long) [] 18 [some (pv_O (40, 0)), some (pv_L (c1_ S k)), none, some (pv_O (71, it)), z4, z5, z6, z7, z8, z9] [] h Q := by
  intro fuel
  induction fuel with
  | zero =>
    intro k z4 z5 z6 z7 z8 z9 h h1 h2
    omega
  | succ fuel ih =>
    intro k zz4 zz5 zz6 zz7 zz8 zz9 h hk h2 R hI keh
    refine v_aload_n 19 dX12_checksum_18 rfl rfl ?_
    refine v_invf (z := ("java/util/ArrayList$Itr", TJx35411, 4)) (d' := 0) (k' := 0) (n' := 0) (k2 := 518) (n2 := 12560) 24 [] dX12_checksum_19 mf_X12_292 md_Jx35411_hasNext_aae02 mi_Jx35411_hasNext_aae02 se_Jx35411_hasNext_aae02 (by simp [g_fw]; rfl) ⟨by decide, by decide +kernel⟩ (by first | assumption | rfl) (by rfl) rfl rfl (of_decide_eq_true rfl) rfl (by decide) rfl rfl rfl rfl (C_hn (tl := 51) (ta := 57) rfl rfl R.2.1.2.1 hI hk (fun g => ?_) (fun g => ?_))
    · refine v_if_eq 104 27 dX12_checksum_24 (by decide) rfl (fun c24 => ?_) (fun c24 => ?_)
      · first | exact absurd c24 (by decide) | exact absurd rfl c24 | exact absurd (of_decide_eq_true rfl) c24
      · refine v_aload_n 28 dX12_checksum_27 rfl rfl ?_
        refine v_invf (z := ("java/util/ArrayList$Itr", TJx35411, 4)) (d' := 1) (k' := 0) (n' := 0) (k2 := 518) (n2 := 12560) 33 [] dX12_checksum_28 mf_X12_298 md_Jx35411_next_0502b mi_Jx35411_next_0502b se_Jx35411_next_0502b (by simp [g_fw]; rfl) ⟨by decide, by decide +kernel⟩ (by first | assumption | rfl) (by rfl) rfl rfl (of_decide_eq_true rfl) rfl (by decide) rfl rfl rfl rfl (C_nx (tl := 51) (ta := 57) rfl rfl R.2.1.2.1 (by decide) (by decide) hI g (fun h2 I2 te2 ke2 => ?_))
        have R2 : Rp2 S h2 := R.te (fun t ht => te2 t (by omega))
        refine v_cast 36 dX12_checksum_33 ⟨_, _, rfl, rfl, cl_X12_98⟩ rfl ?_
        refine v_astore 38 dX12_checksum_36 (by decide) rfl rfl ?_
        dsimp only [List.set]
        refine v_iconstv (v := 0) 39 dX12_checksum_38 (by decide) rfl ?_
        refine v_istore 41 dX12_checksum_39 (by decide) rfl rfl ?_
        dsimp only [List.set]
        refine v_aload 43 dX12_checksum_41 rfl rfl ?_
        refine v_getfr 46 dX12_checksum_43 fl_X12_103 (by first | assumption | rfl) (by rfl) rfl ?_
        rw [R2.vr (t := 42) (by decide), I.us g]
        refine v_astore 48 dX12_checksum_46 (by decide) rfl rfl ?_
        dsimp only [List.set]
        refine v_aload 50 dX12_checksum_48 rfl rfl ?_
        refine v_alen 51 dX12_checksum_50 (by first | assumption | rfl) (by simp [g_tys]) rfl ?_
        rw [R2.ln (t := 62) (by decide), show hp_ln S.1 62 k = s_n S k from rfl]
        refine v_istore 53 dX12_checksum_51 (by decide) rfl rfl ?_
        dsimp only [List.set]
        refine v_iconstv (v := 0) 54 dX12_checksum_53 (by decide) rfl ?_
        refine v_istore 56 dX12_checksum_54 (by decide) rfl rfl ?_
        dsimp only [List.set]
        refine Li_X12_checksum R2 I g (fun z9 => ?_) _ 0 _ (Nat.zero_le _) (Nat.lt_succ_self _)
        refine v_ldc2 94 dX12_checksum_91 cn_X12_389 rfl rfl ?_
        refine v_lload_n 95 dX12_checksum_94 rfl rfl ?_
        refine v_lmul 96 dX12_checksum_95 rfl ?_
        refine v_iload 98 dX12_checksum_96 rfl rfl ?_
        refine v_i2l 99 dX12_checksum_98 rfl ?_
        refine v_ladd 100 dX12_checksum_99 rfl ?_
        refine v_lstore_n 101 dX12_checksum_100 (by decide) rfl rfl ?_
        dsimp only [List.set]
        refine v_goto 18 dX12_checksum_101 (by decide) ?_
        exact ih (k + 1) _ _ _ _ _ _ _ (by omega) (by omega) R2 I2 (keh.tr ke2)
    · refine v_if_eq 104 27 dX12_checksum_24 (by decide) rfl (fun c24 => ?_) (fun c24 => ?_)
      · subst g
        exact K _ _ _ _ _ _ _ R keh
      · first | exact absurd c24 (by decide) | exact absurd rfl c24 | exact absurd (of_decide_eq_true rfl) c24
set_option maxRecDepth 20000 in
theorem L2_X12_checksum {G : GW} {h0 : PH} {Q : RS → PH → Prop} {S : SP} {N : Nat} (I : Iv S N) {it : Nat} (K : ∀ (z4 z5 z6 z7 z8 z9 : Option PV) (h : PH), Rp2 S h → ke_ h0 h → VV G 9 517 12556 yX12_checksum cX12_checksum 10 (some .long) [] 150 [some (pv_O (40, 0)), some (pv_L (c2_ S (c1_ S (nn_ S 1)) (nn_ S 2))), none, some (pv_O (71, it)), z4, z5, z6, z7, z8, z9] [] h Q) : ∀ fuel : Nat, ∀ (k : Nat) (z4 z5 z6 z7 z8 z9 : Option PV) (h : PH), k ≤ nn_ S 2 → nn_ S 2 - k < fuel → Rp2 S h → is_I h it 52 0 k → ke_ h0 h → VV G 9 517 12556 yX12_checksum cX12_checksum 10 (some .long) [] 114 [some (pv_O (40, 0)), some (pv_L (c2_ S (c1_ S (nn_ S 1)) k)), none, some (pv_O (71, it)), z4, z5, z6, z7, z8, z9] [] h Q := by
  intro fuel
  induction fuel with
  | zero =>
    intro k z4 z5 z6 z7 z8 z9 h h1 h2
    omega
  | succ fuel ih =>
    intro k zz4 zz5 zz6 zz7 zz8 zz9 h hk h2 R hI keh
    refine v_aload_n 115 dX12_checksum_114 rfl rfl ?_
    refine v_invf (z := ("java/util/ArrayList$Itr", TJx35411, 4)) (d' := 0) (k' := 0) (n' := 0) (k2 := 517) (n2 := 12556) 120 [] dX12_checksum_115 mf_X12_292 md_Jx35411_hasNext_aae02 mi_Jx35411_hasNext_aae02 se_Jx35411_hasNext_aae02 (by simp [g_fw]; rfl) ⟨by decide, by decide +kernel⟩ (by first | assumption | rfl) (by rfl) rfl rfl (of_decide_eq_true rfl) rfl (by decide) rfl rfl rfl rfl (C_hn (tl := 52) (ta := 58) rfl rfl R.2.1.2.2.1 hI hk (fun g => ?_) (fun g => ?_))
    · refine v_if_eq 150 123 dX12_checksum_120 (by decide) rfl (fun c120 => ?_) (fun c120 => ?_)
      · first | exact absurd c120 (by decide) | exact absurd rfl c120 | exact absurd (of_decide_eq_true rfl) c120
      · refine v_aload_n 124 dX12_checksum_123 rfl rfl ?_
        refine v_invf (z := ("java/util/ArrayList$Itr", TJx35411, 4)) (d' := 1) (k' := 0) (n' := 0) (k2 := 517) (n2 := 12556) 129 [] dX12_checksum_124 mf_X12_298 md_Jx35411_next_0502b mi_Jx35411_next_0502b se_Jx35411_next_0502b (by simp [g_fw]; rfl) ⟨by decide, by decide +kernel⟩ (by first | assumption | rfl) (by rfl) rfl rfl (of_decide_eq_true rfl) rfl (by decide) rfl rfl rfl rfl (C_nx (tl := 52) (ta := 58) rfl rfl R.2.1.2.2.1 (by decide) (by decide) hI g (fun h2 I2 te2 ke2 => ?_))
        have R2 : Rp2 S h2 := R.te (fun t ht => te2 t (by omega))
        refine v_cast 132 dX12_checksum_129 ⟨_, _, rfl, rfl, cl_X12_129⟩ rfl ?_
        refine v_astore 134 dX12_checksum_132 (by decide) rfl rfl ?_
        dsimp only [List.set]
        refine v_ldc2 137 dX12_checksum_134 cn_X12_389 rfl rfl ?_
        refine v_lload_n 138 dX12_checksum_137 rfl rfl ?_
        refine v_lmul 139 dX12_checksum_138 rfl ?_
        refine v_aload 141 dX12_checksum_139 rfl rfl ?_
        refine v_invs (d' := 1) (k' := 0) (n' := 0) (k2 := 517) (n2 := 12556) 144 [_] dX12_checksum_141 mt_X12_378 ms_X12_priceOf rfl rfl (of_decide_eq_true rfl) rfl (by decide) rfl rfl rfl rfl (C_X12_priceOf R2 I g ?_)
        refine v_i2l 145 dX12_checksum_144 rfl ?_
        refine v_ladd 146 dX12_checksum_145 rfl ?_
        refine v_lstore_n 147 dX12_checksum_146 (by decide) rfl rfl ?_
        dsimp only [List.set]
        refine v_goto 114 dX12_checksum_147 (by decide) ?_
        exact ih (k + 1) _ _ _ _ _ _ _ (by omega) (by omega) R2 I2 (keh.tr ke2)
    · refine v_if_eq 150 123 dX12_checksum_120 (by decide) rfl (fun c120 => ?_) (fun c120 => ?_)
      · subst g
        exact K _ _ _ _ _ _ _ R keh
      · first | exact absurd c120 (by decide) | exact absurd rfl c120 | exact absurd (of_decide_eq_true rfl) c120
set_option maxRecDepth 20000 in
theorem L3_X12_checksum {G : GW} {h0 : PH} {Q : RS → PH → Prop} {S : SP} {N : Nat} (I : Iv S N) {it : Nat} (Fr : fr_s h0) (hq : ∀ h', Rp2 S h' → ke_ h0 h' → Q (.inl (some (pv_L (op_checksum S)))) h') : ∀ fuel : Nat, ∀ (k : Nat) (z4 z5 z6 z7 z8 z9 : Option PV) (h : PH), k + fuel = nn_ S 3 → Rp2 S h → is_I h it 55 0 k → ke_ h0 h → VV G 9 (129 * fuel) (3137 * fuel) yX12_checksum cX12_checksum 10 (some .long) [] 160 [some (pv_O (40, 0)), some (pv_L (c3_ S (c2_ S (c1_ S (nn_ S 1)) (nn_ S 2)) k)), none, some (pv_O (71, it)), z4, z5, z6, z7, z8, z9] [] h Q := by
  intro fuel
  induction fuel with
  | zero =>
    intro k z4 z5 z6 z7 z8 z9 h hf R hI keh
    obtain rfl : k = nn_ S 3 := by omega
    refine v_aload_n 161 dX12_checksum_160 rfl rfl ?_
    refine v_invf (z := ("java/util/ArrayList$Itr", TJx35411, 4)) (d' := 0) (k' := 0) (n' := 0) (k2 := 0) (n2 := 0) 166 [] dX12_checksum_161 mf_X12_292 md_Jx35411_hasNext_aae02 mi_Jx35411_hasNext_aae02 se_Jx35411_hasNext_aae02 (by simp [g_fw]; rfl) ⟨by decide, by decide +kernel⟩ (by first | assumption | rfl) (by rfl) rfl rfl (of_decide_eq_true rfl) rfl (by decide) rfl rfl rfl rfl (C_hn (tl := 55) (ta := 61) rfl rfl R.2.1.2.2.2.2.2 hI (by omega) (fun g => ?_) (fun g => ?_))
    · omega
    · refine v_if_eq 199 169 dX12_checksum_166 (by decide) rfl (fun c166 => ?_) (fun c166 => ?_)
      · refine v_ldc2 202 dX12_checksum_199 cn_X12_389 rfl rfl ?_
        refine v_lload_n 203 dX12_checksum_202 rfl rfl ?_
        refine v_lmul 204 dX12_checksum_203 rfl ?_
        refine v_aload_n 205 dX12_checksum_204 rfl rfl ?_
        refine v_getfi 208 dX12_checksum_205 fl_X12_168 (by first | assumption | rfl) (by rfl) rfl ?_
        rw [R.1.2 10 (by decide) (by decide)]
        refine v_i2l 209 dX12_checksum_208 rfl ?_
        refine v_ladd 210 dX12_checksum_209 rfl ?_
        refine v_lreturn dX12_checksum_210 rfl ?_
        exact hq _ R keh
      · first | exact absurd c166 (by decide) | exact absurd rfl c166 | exact absurd (of_decide_eq_true rfl) c166
  | succ fuel ih =>
    intro k zz4 zz5 zz6 zz7 zz8 zz9 h hf R hI keh
    obtain ⟨⟨i1, i2, i3, i4, i5, i6, i7⟩, -, -, -, Ip⟩ := I.2.2.2.2.1 k (by omega)
    refine v_aload_n 161 dX12_checksum_160 rfl rfl ?_
    refine v_invf (z := ("java/util/ArrayList$Itr", TJx35411, 4)) (d' := 0) (k' := 0) (n' := 0) (k2 := (129 * fuel + 129)) (n2 := (3137 * fuel + 3137)) 166 [] dX12_checksum_161 mf_X12_292 md_Jx35411_hasNext_aae02 mi_Jx35411_hasNext_aae02 se_Jx35411_hasNext_aae02 (by simp [g_fw]; rfl) ⟨by decide, by decide +kernel⟩ (by first | assumption | rfl) (by rfl) rfl rfl (of_decide_eq_true rfl) rfl (by decide) rfl rfl rfl rfl (C_hn (tl := 55) (ta := 61) rfl rfl R.2.1.2.2.2.2.2 hI (by omega) (fun g => ?_) (fun g => ?_))
    · refine v_if_eq 199 169 dX12_checksum_166 (by decide) rfl (fun c166 => ?_) (fun c166 => ?_)
      · first | exact absurd c166 (by decide) | exact absurd rfl c166 | exact absurd (of_decide_eq_true rfl) c166
      · refine v_aload_n 170 dX12_checksum_169 rfl rfl ?_
        refine v_invf (z := ("java/util/ArrayList$Itr", TJx35411, 4)) (d' := 1) (k' := 0) (n' := 0) (k2 := (129 * fuel + 129)) (n2 := (3137 * fuel + 3137)) 175 [] dX12_checksum_170 mf_X12_298 md_Jx35411_next_0502b mi_Jx35411_next_0502b se_Jx35411_next_0502b (by simp [g_fw]; rfl) ⟨by decide, by decide +kernel⟩ (by first | assumption | rfl) (by rfl) rfl rfl (of_decide_eq_true rfl) rfl (by decide) rfl rfl rfl rfl (C_nx (tl := 55) (ta := 61) rfl rfl R.2.1.2.2.2.2.2 (by decide) (by decide) hI g (fun h2 I2 te2 ke2 => ?_))
        have R2 : Rp2 S h2 := R.te (fun t ht => te2 t (by omega))
        have hc := g
        refine v_cast 178 dX12_checksum_175 ⟨_, _, rfl, rfl, cl_X12_304⟩ rfl ?_
        refine v_astore 180 dX12_checksum_178 (by decide) rfl rfl ?_
        dsimp only [List.set]
        refine v_ldc2 183 dX12_checksum_180 cn_X12_389 rfl rfl ?_
        refine v_lload_n 184 dX12_checksum_183 rfl rfl ?_
        refine v_lmul 185 dX12_checksum_184 rfl ?_
        refine v_aload 187 dX12_checksum_185 rfl rfl ?_
        refine v_invv (d' := 8) (k' := 129) (n' := 3137) (k2 := (129 * fuel)) (n2 := (3137 * fuel)) 190 [] dX12_checksum_187 mt_X12_320 mi_X11_pieces me_X11_pieces (by first | assumption | rfl) (by rfl) rfl rfl (of_decide_eq_true rfl) rfl (by decide) rfl rfl rfl rfl (C_X11_pieces R2 i4 i6 ((keh.tr ke2).2 Fr) (fun A9 h9 p9 f9 => ?_))
        have R3 := f9.R R2
        have I3 := I2.to (h' := h9) (congrFun (f9.1 71 (by decide) (by decide) (by decide)).2.2.1 it) (congrFun (f9.1 71 (by decide) (by decide) (by decide)).2.2.2.1 it) (by rw [(f9.1 55 (by decide) (by decide) (by decide)).2.2.1])
        refine v_invs (d' := 1) (k' := 0) (n' := 0) (k2 := (129 * fuel)) (n2 := (3137 * fuel)) 193 [_] dX12_checksum_190 mt_X12_324 ms_X12_most rfl rfl (of_decide_eq_true rfl) rfl (by decide) rfl rfl rfl rfl (C_X12_most rfl p9.1 ?_)
        rw [pr_mo p9 64 (Nat.le_refl _) Ip.1]
        refine v_i2l 194 dX12_checksum_193 rfl ?_
        refine v_ladd 195 dX12_checksum_194 rfl ?_
        refine v_lstore_n 196 dX12_checksum_195 (by decide) rfl rfl ?_
        dsimp only [List.set]
        refine v_goto 160 dX12_checksum_196 (by decide) ?_
        exact ih (k + 1) _ _ _ _ _ _ _ (by omega) R3 I3 (keh.tr (ke2.tr f9.ke))
    · omega
set_option maxRecDepth 20000 in
theorem C_X12_checksum {G : GW} {h : PH} {Q : RS → PH → Prop} {S : SP} {N : Nat} (R : Rp2 S h) (I : Iv S N) (Fr : fr_s h) (hq : ∀ h', Rp2 S h' → ke_ h h' → Q (.inl (some (pv_L (op_checksum S)))) h') : VV G 9 519 12564 yX12_checksum cX12_checksum 10 (some .long) [] 0 (vv_en 10 [pv_O (40, 0)]) [] h Q := by
  show VV G 9 519 12564 yX12_checksum cX12_checksum 10 (some .long) [] 0 [some (pv_O (40, 0)), none, none, none, none, none, none, none, none, none] [] h Q
  obtain ⟨z0, z1, z2, z3, z4, z5⟩ := I.cs
  refine v_aload_n 1 dX12_checksum_0 rfl rfl ?_
  refine v_invv (d' := 0) (k' := 0) (n' := 0) (k2 := 519) (n2 := 12564) 4 [] dX12_checksum_1 mt_X12_48 mi_X12_begins me_X12_begins (by first | assumption | rfl) (by rfl) rfl rfl (of_decide_eq_true rfl) rfl (by decide) rfl rfl rfl rfl (C2_begins R (fun h0 R e0 ke0 => ?_))
  have Fr := ke0.2 Fr
  refine v_ldc2 7 dX12_checksum_4 cn_X12_302 rfl rfl ?_
  refine v_lstore_n 8 dX12_checksum_7 (by decide) rfl rfl ?_
  dsimp only [List.set]
  refine v_aload_n 9 dX12_checksum_8 rfl rfl ?_
  refine v_getfr 12 dX12_checksum_9 fl_X12_16 (by first | assumption | rfl) (by rfl) rfl ?_
  rw [R.1.1.2.2.1]
  refine v_invf (z := ("java/util/ArrayList", TJx4a65c, 3)) (d' := 2) (k' := 1) (n' := 4) (k2 := 518) (n2 := 12560) 17 [] dX12_checksum_12 mf_X12_288 md_Jx4a65c_iterator_32c93 mi_Jx4a65c_iterator_32c93 se_Jx4a65c_iterator_32c93 (by simp [g_fw]; rfl) ⟨by decide, by decide +kernel⟩ (by first | assumption | rfl) (by rfl) rfl rfl (of_decide_eq_true rfl) rfl (by decide) rfl rfl rfl rfl (C_it (tl := 51) (ta := 57) rfl rfl R.2.1.2.1 Fr (by decide) (fun i1 h1 I1 te1 ke1 => ?_))
  have R1 : Rp2 S h1 := R.te (fun t ht => te1 t (by omega))
  refine v_astore_n 18 dX12_checksum_17 (by decide) rfl rfl ?_
  dsimp only [List.set]
  refine L1_X12_checksum I (fun z4 z5 z6 z7 z8 z9 h R ke2 => ?_) _ 0 _ _ _ _ _ _ _ (Nat.zero_le _) (Nat.lt_succ_self _) R1 I1 ke1
  have Fr := ke2.2 Fr
  refine v_aload_n 105 dX12_checksum_104 rfl rfl ?_
  refine v_getfr 108 dX12_checksum_105 fl_X12_19 (by first | assumption | rfl) (by rfl) rfl ?_
  rw [R.1.1.2.2.2.1]
  refine v_invf (z := ("java/util/ArrayList", TJx4a65c, 3)) (d' := 2) (k' := 1) (n' := 4) (k2 := 517) (n2 := 12556) 113 [] dX12_checksum_108 mf_X12_288 md_Jx4a65c_iterator_32c93 mi_Jx4a65c_iterator_32c93 se_Jx4a65c_iterator_32c93 (by simp [g_fw]; rfl) ⟨by decide, by decide +kernel⟩ (by first | assumption | rfl) (by rfl) rfl rfl (of_decide_eq_true rfl) rfl (by decide) rfl rfl rfl rfl (C_it (tl := 52) (ta := 58) rfl rfl R.2.1.2.2.1 Fr (by decide) (fun i3 h3 I3 te3 ke3 => ?_))
  have R3 : Rp2 S h3 := R.te (fun t ht => te3 t (by omega))
  refine v_astore_n 114 dX12_checksum_113 (by decide) rfl rfl ?_
  dsimp only [List.set]
  refine L2_X12_checksum I (fun z4 z5 z6 z7 z8 z9 h R ke4 => ?_) _ 0 _ _ _ _ _ _ _ (Nat.zero_le _) (Nat.lt_succ_self _) R3 I3 ke3
  have Fr := ke4.2 Fr
  refine v_aload_n 151 dX12_checksum_150 rfl rfl ?_
  refine v_getfr 154 dX12_checksum_151 fl_X12_32 (by first | assumption | rfl) (by rfl) rfl ?_
  rw [R.1.1.2.2.2.2.2.2]
  refine v_invf (z := ("java/util/ArrayList", TJx4a65c, 3)) (d' := 2) (k' := 1) (n' := 4) (k2 := 516) (n2 := 12552) 159 [] dX12_checksum_154 mf_X12_288 md_Jx4a65c_iterator_32c93 mi_Jx4a65c_iterator_32c93 se_Jx4a65c_iterator_32c93 (by simp [g_fw]; rfl) ⟨by decide, by decide +kernel⟩ (by first | assumption | rfl) (by rfl) rfl rfl (of_decide_eq_true rfl) rfl (by decide) rfl rfl rfl rfl (C_it (tl := 55) (ta := 61) rfl rfl R.2.1.2.2.2.2.2 Fr (by decide) (fun i5 h5 I5 te5 ke5 => ?_))
  have R5 : Rp2 S h5 := R.te (fun t ht => te5 t (by omega))
  refine v_astore_n 160 dX12_checksum_159 (by decide) rfl rfl ?_
  dsimp only [List.set]
  refine VV.less (Nat.le_refl _) (k' := 129 * nn_ S 3) (n' := 3137 * nn_ S 3) (by omega) (by omega) ?_
  exact L3_X12_checksum I (ke5.2 Fr) (fun h' R' k' => hq h' R' (((ke0.tr (ke2)).tr ke4).tr (ke5.tr k'))) (nn_ S 3) 0 _ _ _ _ _ _ _ (Nat.zero_add _) R5 I5 ke_.rf
