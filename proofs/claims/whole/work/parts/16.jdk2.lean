set_option maxRecDepth 20000 in
theorem C_J6_valueOf_2dffe {G : GW} {h : PH} {Q : RS → PH → Prop} {m : Nat} (hm : m < 128) (hq : Q (.inl (some (pv_O (4, m + 128)))) h) : VV G 0 0 0 yJ6_valueOf_2dffe cJ6_valueOf_2dffe 1 (some (.object "java/lang/Integer")) [] 0 (vv_en 1 [pv_I (nI m)]) [] h Q := by
  show VV G 0 0 0 yJ6_valueOf_2dffe cJ6_valueOf_2dffe 1 (some (.object "java/lang/Integer")) [] 0 [some (pv_I (nI m))] [] h Q
  refine VV.know (fun ho9 _ _ => ?_)
  refine v_iload_n 1 dJ6_valueOf_2dffe_0 rfl rfl ?_
  refine v_bipushv (v := -128) 3 dJ6_valueOf_2dffe_1 (by decide) rfl ?_
  refine v_icmp_lt 23 6 dJ6_valueOf_2dffe_3 (by decide) rfl (fun c3 => ?_) (fun c3 => ?_)
  · exact absurd c3 (by rw [Int32.lt_iff_toInt_lt, nI_toInt (by omega)]; show ¬ ((m : Int) < -128); omega)
  · refine v_iload_n 7 dJ6_valueOf_2dffe_6 rfl rfl ?_
    refine v_gets (z := (RJxabbfe, "high", "I", pv_I 127)) 10 dJ6_valueOf_2dffe_7 gs_J6_191 (by simp [g_st]) (by intro r hr; cases hr) rfl ?_
    dsimp only
    refine v_icmp_gt 23 13 dJ6_valueOf_2dffe_10 (by decide) rfl (fun c10 => ?_) (fun c10 => ?_)
    · exact absurd c10 (by rw [Int32.lt_iff_toInt_lt, nI_toInt (by omega)]; show ¬ ((127 : Int) < m); omega)
    · refine v_gets (z := (RJxabbfe, "cache", "[Ljava/lang/Integer;", pv_O (6, 0))) 16 dJ6_valueOf_2dffe_13 gs_J6_195 (by simp [g_st]) (by intro r hr; cases hr; decide) rfl ?_
      dsimp only
      refine v_iload_n 17 dJ6_valueOf_2dffe_16 rfl rfl ?_
      refine v_sipushv (v := 128) 20 dJ6_valueOf_2dffe_17 (by decide) rfl ?_
      refine v_iadd 21 dJ6_valueOf_2dffe_20 rfl ?_
      rw [show nI m + 128 = nI (m + 128) from nI_add m 128]
      refine v_aald (ty := .object "java/lang/Integer") (by rfl) (by simp [g_tys]) 22 dJ6_valueOf_2dffe_21 (by first | assumption | rfl) (by rw [ho9.2.2.2.2.2.2.1]; exact in_nI (by omega) (by omega)) rfl ?_
      refine v_areturn dJ6_valueOf_2dffe_22 rfl (Or.inl ⟨_, rfl⟩) ?_
      rw [nI_clamp (by omega), ho9.2.2.2.2.2.2.2.1 _ (by omega)]
      exact hq
/-- where a sign stands first in a text -/
def ix_is (L : List Nat) (c r : Int32) : Prop := (∃ k, k < L.length ∧ nI (L.getD k 0) = c ∧ (∀ j, j < k → nI (L.getD j 0) ≠ c) ∧ r = nI k) ∨ ((∀ k, k < L.length → nI (L.getD k 0) ≠ c) ∧ r = -1)
theorem g_txt_ok : ∀ i, i < 11 → (g_txt.getD i []).length < 8 ∧ ∀ k, k < 8 → (g_txt.getD i []).getD k 0 < 128 := by decide
theorem by_code {c : Int32} {m : Nat} (hm : m < 128) (h0 : 0 ≤ c) (h1 : c ≤ 255) : nI m = c.toInt8.toInt32 ↔ nI m = c := by
  have hc : c = nI c.toNatClampNeg := by
    obtain ⟨j, hj, e⟩ := nI_of (x := c) (Int32.not_lt.mpr h0)
    rw [e, nI_clamp hj]
  have hlt : c.toNatClampNeg < 256 := by
    have h2 := Int32.le_iff_toInt_le.mp h1
    rw [hc] at h2
    have hj : c.toNatClampNeg < 2 ^ 31 := by
      obtain ⟨j, hj, e⟩ := nI_of (x := c) (Int32.not_lt.mpr h0)
      rw [e, nI_clamp hj]; exact hj
    rw [nI_toInt hj] at h2
    have : (255 : Int32).toInt = 255 := by decide
    omega
  have key : ∀ a : Fin 128, ∀ b : Fin 256, (nI a.val = (nI b.val).toInt8.toInt32 ↔ nI a.val = nI b.val) := by decide +kernel
  rw [hc]
  exact key ⟨m, hm⟩ ⟨c.toNatClampNeg, hlt⟩
set_option maxRecDepth 20000 in
theorem C_J0_coder_7d493 {G : GW} {h : PH} {Q : RS → PH → Prop} {i0 : Nat} (hq : Q (.inl (some (pv_I 0))) h) : VV G 0 0 0 yJ0_coder_7d493 cJ0_coder_7d493 1 (some .byte) [] 0 (vv_en 1 [pv_O (1, i0)]) [] h Q := by
  show VV G 0 0 0 yJ0_coder_7d493 cJ0_coder_7d493 1 (some .byte) [] 0 [some (pv_O (1, i0))] [] h Q
  refine VV.know (fun ho9 _ _ => ?_)
  refine v_gets (z := (RJ0, "COMPACT_STRINGS", "Z", pv_I 1)) 3 dJ0_coder_7d493_0 gs_J0_38 (by simp [g_st]) (by intro r hr; cases hr) rfl ?_
  dsimp only
  refine v_if_eq 13 6 dJ0_coder_7d493_3 (by decide) rfl (fun c3 => ?_) (fun c3 => ?_)
  · exact absurd c3 (by decide)
  · refine v_aload_n 7 dJ0_coder_7d493_6 rfl rfl ?_
    refine v_getfi 10 dJ0_coder_7d493_7 fl_J0_15 (by first | assumption | rfl) (by rfl) rfl ?_
    refine v_goto 14 dJ0_coder_7d493_10 (by decide) ?_
    refine v_zreturn (ty := .byte) (by rw [(ho9.2.1 i0).2]; rfl) dJ0_coder_7d493_14 rfl ?_
    exact vq_i hq (ho9.2.1 i0).2.symm
set_option maxRecDepth 20000 in
theorem C_J0_length_8abf5 {G : GW} {h : PH} {Q : RS → PH → Prop} {i0 : Nat} (hi0 : i0 < 11) (hq : Q (.inl (some (pv_I (nI (g_txt.getD i0 []).length)))) h) : VV G 1 0 0 yJ0_length_8abf5 cJ0_length_8abf5 1 (some .int) [] 0 (vv_en 1 [pv_O (1, i0)]) [] h Q := by
  show VV G 1 0 0 yJ0_length_8abf5 cJ0_length_8abf5 1 (some .int) [] 0 [some (pv_O (1, i0))] [] h Q
  refine VV.know (fun ho9 _ _ => ?_)
  refine v_aload_n 1 dJ0_length_8abf5_0 rfl rfl ?_
  refine v_getfr 4 dJ0_length_8abf5_1 fl_J0_9 (by first | assumption | rfl) (by rfl) rfl ?_
  rw [(ho9.2.1 i0).1]
  refine v_alen 5 dJ0_length_8abf5_4 (by first | assumption | rfl) (by simp [g_tys]) rfl ?_
  rw [(ho9.2.2.1 i0).1]
  refine v_aload_n 6 dJ0_length_8abf5_5 rfl rfl ?_
  refine v_invv (d' := 0) (k' := 0) (n' := 0) (k2 := 0) (n2 := 0) 9 [] dJ0_length_8abf5_6 mt_J0_335 mi_J0_coder_7d493 me_J0_coder_7d493 (by first | assumption | rfl) (by rfl) rfl rfl (of_decide_eq_true rfl) rfl (by decide) rfl rfl rfl rfl (C_J0_coder_7d493 ?_)
  refine v_ishr 10 dJ0_length_8abf5_9 rfl ?_
  refine v_ireturn dJ0_length_8abf5_10 rfl ?_
  refine vq_i hq ?_
  have h9 := (g_txt_ok i0 hi0).1
  generalize (g_txt.getD i0 []).length = z at h9
  revert z
  decide
set_option maxRecDepth 20000 in
theorem C_J0_isLatin1_aae02 {G : GW} {h : PH} {Q : RS → PH → Prop} {i0 : Nat} (hq : Q (.inl (some (pv_I 1))) h) : VV G 0 0 0 yJ0_isLatin1_aae02 cJ0_isLatin1_aae02 1 (some .boolean) [] 0 (vv_en 1 [pv_O (1, i0)]) [] h Q := by
  show VV G 0 0 0 yJ0_isLatin1_aae02 cJ0_isLatin1_aae02 1 (some .boolean) [] 0 [some (pv_O (1, i0))] [] h Q
  refine VV.know (fun ho9 _ _ => ?_)
  refine v_gets (z := (RJ0, "COMPACT_STRINGS", "Z", pv_I 1)) 3 dJ0_isLatin1_aae02_0 gs_J0_38 (by simp [g_st]) (by intro r hr; cases hr) rfl ?_
  dsimp only
  refine v_if_eq 17 6 dJ0_isLatin1_aae02_3 (by decide) rfl (fun c3 => ?_) (fun c3 => ?_)
  · exact absurd c3 (by decide)
  · refine v_aload_n 7 dJ0_isLatin1_aae02_6 rfl rfl ?_
    refine v_getfi 10 dJ0_isLatin1_aae02_7 fl_J0_15 (by first | assumption | rfl) (by rfl) rfl ?_
    refine v_if_ne 17 13 dJ0_isLatin1_aae02_10 (by decide) rfl (fun c10 => ?_) (fun c10 => ?_)
    · exact absurd (ho9.2.1 i0).2 c10
    · refine v_iconstv (v := 1) 14 dJ0_isLatin1_aae02_13 (by decide) rfl ?_
      refine v_goto 18 dJ0_isLatin1_aae02_14 (by decide) ?_
      refine v_zreturn (ty := .boolean) (by first | rfl | decide | exact nz_if | exact nz_fi) dJ0_isLatin1_aae02_18 rfl ?_
      exact hq
set_option maxRecDepth 20000 in
theorem C_J1_canEncode_9a6ad {G : GW} {h : PH} {Q : RS → PH → Prop} {c : Int32} (hc : 0 ≤ c) (hq : Q (.inl (some (pv_I (if c ≤ 255 then 1 else 0)))) h) : VV G 0 0 0 yJ1_canEncode_9a6ad cJ1_canEncode_9a6ad 1 (some .boolean) [] 0 (vv_en 1 [pv_I c]) [] h Q := by
  show VV G 0 0 0 yJ1_canEncode_9a6ad cJ1_canEncode_9a6ad 1 (some .boolean) [] 0 [some (pv_I c)] [] h Q
  refine v_iload_n 1 dJ1_canEncode_9a6ad_0 rfl rfl ?_
  refine v_if_lt 15 4 dJ1_canEncode_9a6ad_1 (by decide) rfl (fun c1 => ?_) (fun c1 => ?_)
  · exact absurd hc (Int32.not_le.mpr c1)
  · refine v_iload_n 5 dJ1_canEncode_9a6ad_4 rfl rfl ?_
    refine v_sipushv (v := 255) 8 dJ1_canEncode_9a6ad_5 (by decide) rfl ?_
    refine v_icmp_gt 15 11 dJ1_canEncode_9a6ad_8 (by decide) rfl (fun c8 => ?_) (fun c8 => ?_)
    · refine v_iconstv (v := 0) 16 dJ1_canEncode_9a6ad_15 (by decide) rfl ?_
      refine v_zreturn (ty := .boolean) (by first | rfl | decide | exact nz_if | exact nz_fi) dJ1_canEncode_9a6ad_16 rfl ?_
      refine vq_i hq ?_
      first | exact if_neg (Int32.not_le.mpr c8) | exact if_pos (Int32.not_lt.mp c8)
    · refine v_iconstv (v := 1) 12 dJ1_canEncode_9a6ad_11 (by decide) rfl ?_
      refine v_goto 16 dJ1_canEncode_9a6ad_12 (by decide) ?_
      refine v_zreturn (ty := .boolean) (by first | rfl | decide | exact nz_if | exact nz_fi) dJ1_canEncode_9a6ad_16 rfl ?_
      refine vq_i hq ?_
      first | exact if_neg (Int32.not_le.mpr c8) | exact if_pos (Int32.not_lt.mp c8)
set_option maxRecDepth 20000 in
theorem L_J1_indexOfChar_4cfef {G : GW} {h : PH} {Q : RS → PH → Prop} {i0 : Nat} (hi0 : i0 < 11) {c : Int32} (hc0 : 0 ≤ c) (hc1 : c ≤ 255) (ho9 : hp_old G h) (hq : ∀ r, ix_is (g_txt.getD i0 []) c r → Q (.inl (some (pv_I r))) h) : ∀ fuel : Nat, ∀ k, k ≤ (g_txt.getD i0 []).length → (g_txt.getD i0 []).length - k < fuel → (∀ j, j < k → nI ((g_txt.getD i0 []).getD j 0) ≠ c) → VV G 0 0 0 yJ1_indexOfChar_4cfef cJ1_indexOfChar_4cfef 6 (some .int) [] 7 [some (pv_O (2, i0)), some (pv_I c), some (pv_I 0), some (pv_I (nI (g_txt.getD i0 []).length)), some (pv_I c.toInt8.toInt32), some (pv_I (nI k))] [] h Q := by
  intro fuel
  induction fuel with
  | zero =>
    intro k hk hf hj
    omega
  | succ fuel ih =>
    intro k hk hf hj
    have hT := g_txt_ok i0 hi0
    refine v_iload 9 dJ1_indexOfChar_4cfef_7 rfl rfl ?_
    refine v_iload_n 10 dJ1_indexOfChar_4cfef_9 rfl rfl ?_
    refine v_icmp_ge 31 13 dJ1_indexOfChar_4cfef_10 (by decide) rfl (fun c10 => ?_) (fun c10 => ?_)
    · have hkl : (g_txt.getD i0 []).length ≤ k := by
        rcases Nat.lt_or_ge k (g_txt.getD i0 []).length with q | q
        · exact absurd c10 (nI_ge q (by omega))
        · exact q
      refine v_iconstv (v := -1) 32 dJ1_indexOfChar_4cfef_31 (by decide) rfl ?_
      refine v_ireturn dJ1_indexOfChar_4cfef_32 rfl ?_
      exact hq _ (Or.inr ⟨fun j hj9 => hj j (by omega), rfl⟩)
    · have hkl : k < (g_txt.getD i0 []).length := by
        rcases Nat.lt_or_ge k (g_txt.getD i0 []).length with q | q
        · exact q
        · exact absurd (nI_le q (by omega)) c10
      have hk8 : (g_txt.getD i0 []).getD k 0 < 128 := hT.2 k (by omega)
      refine v_aload_n 14 dJ1_indexOfChar_4cfef_13 rfl rfl ?_
      refine v_iload 16 dJ1_indexOfChar_4cfef_14 rfl rfl ?_
      refine v_bald 17 dJ1_indexOfChar_4cfef_16 (by first | assumption | rfl) (by rw [(ho9.2.2.1 i0).1]; exact in_nI hkl (by omega)) rfl ?_
      refine v_iload 19 dJ1_indexOfChar_4cfef_17 rfl rfl ?_
      rw [nI_clamp (by omega), (ho9.2.2.1 i0).2 k]
      refine v_icmp_ne 25 22 dJ1_indexOfChar_4cfef_19 (by decide) rfl (fun c19 => ?_) (fun c19 => ?_)
      · refine v_iinc 28 dJ1_indexOfChar_4cfef_25 rfl (by decide) rfl rfl ?_
        dsimp only [List.set]
        refine v_goto 7 dJ1_indexOfChar_4cfef_28 (by decide) ?_
        rw [show nI k + Int32.ofInt 1 = nI (k + 1) from nI_1 k]
        exact ih (k + 1) (by omega) (by omega) (lt_s hj (fun e9 => c19 ((by_code hk8 hc0 hc1).mpr e9)))
      · refine v_iload 24 dJ1_indexOfChar_4cfef_22 rfl rfl ?_
        refine v_ireturn dJ1_indexOfChar_4cfef_24 rfl ?_
        exact hq _ (Or.inl ⟨k, hkl, (by_code hk8 hc0 hc1).mp c19, hj, rfl⟩)
set_option maxRecDepth 20000 in
theorem C_J1_indexOfChar_4cfef {G : GW} {h : PH} {Q : RS → PH → Prop} {i0 : Nat} (hi0 : i0 < 11) {c : Int32} (hc0 : 0 ≤ c) (hc1 : c ≤ 255) (hq : ∀ r, ix_is (g_txt.getD i0 []) c r → Q (.inl (some (pv_I r))) h) : VV G 0 0 0 yJ1_indexOfChar_4cfef cJ1_indexOfChar_4cfef 6 (some .int) [] 0 (vv_en 6 [pv_O (2, i0), pv_I c, pv_I 0, pv_I (nI (g_txt.getD i0 []).length)]) [] h Q := by
  show VV G 0 0 0 yJ1_indexOfChar_4cfef cJ1_indexOfChar_4cfef 6 (some .int) [] 0 [some (pv_O (2, i0)), some (pv_I c), some (pv_I 0), some (pv_I (nI (g_txt.getD i0 []).length)), none, none] [] h Q
  refine VV.know (fun ho9 _ _ => ?_)
  refine v_iload_n 1 dJ1_indexOfChar_4cfef_0 rfl rfl ?_
  refine v_i2b 2 dJ1_indexOfChar_4cfef_1 rfl ?_
  refine v_istore 4 dJ1_indexOfChar_4cfef_2 (by decide) rfl rfl ?_
  dsimp only [List.set]
  refine v_iload_n 5 dJ1_indexOfChar_4cfef_4 rfl rfl ?_
  refine v_istore 7 dJ1_indexOfChar_4cfef_5 (by decide) rfl rfl ?_
  dsimp only [List.set]
  exact L_J1_indexOfChar_4cfef hi0 hc0 hc1 ho9 hq _ 0 (Nat.zero_le _) (Nat.lt_succ_self _) (fun j hj => absurd hj (Nat.not_lt_zero j))
set_option maxRecDepth 20000 in
theorem C_J1_indexOf_4cfef {G : GW} {h : PH} {Q : RS → PH → Prop} {i0 : Nat} (hi0 : i0 < 11) {c : Int32} (hc0 : 0 ≤ c) (hq : ∀ r, ix_is (g_txt.getD i0 []) c r → Q (.inl (some (pv_I r))) h) : VV G 1 0 0 yJ1_indexOf_4cfef cJ1_indexOf_4cfef 4 (some .int) [] 0 (vv_en 4 [pv_O (2, i0), pv_I c, pv_I 0, pv_I (nI (g_txt.getD i0 []).length)]) [] h Q := by
  show VV G 1 0 0 yJ1_indexOf_4cfef cJ1_indexOf_4cfef 4 (some .int) [] 0 [some (pv_O (2, i0)), some (pv_I c), some (pv_I 0), some (pv_I (nI (g_txt.getD i0 []).length))] [] h Q
  refine VV.know (fun ho9 _ _ => ?_)
  have hT := g_txt_ok i0 hi0
  refine v_iload_n 1 dJ1_indexOf_4cfef_0 rfl rfl ?_
  refine v_invs (d' := 0) (k' := 0) (n' := 0) (k2 := 0) (n2 := 0) 4 [_] dJ1_indexOf_4cfef_1 mt_J1_88 ms_J1_canEncode_9a6ad rfl rfl (of_decide_eq_true rfl) rfl (by decide) rfl rfl rfl rfl (C_J1_canEncode_9a6ad hc0 ?_)
  refine v_if_ne 9 7 dJ1_indexOf_4cfef_4 (by decide) rfl (fun c4 => ?_) (fun c4 => ?_)
  · have hc1 : c ≤ 255 := Decidable.of_not_not (fun q9 => c4 (if_neg q9))
    refine v_iload_n 10 dJ1_indexOf_4cfef_9 rfl rfl ?_
    refine v_iconstv (v := 0) 11 dJ1_indexOf_4cfef_10 (by decide) rfl ?_
    refine v_max 14 dJ1_indexOf_4cfef_11 ma_J1_92 ma_s_max ma_i rfl (by decide) rfl ?_
    refine v_istore_n 15 dJ1_indexOf_4cfef_14 (by decide) rfl rfl ?_
    dsimp only [List.set]
    refine v_iload_n 16 dJ1_indexOf_4cfef_15 rfl rfl ?_
    refine v_aload_n 17 dJ1_indexOf_4cfef_16 rfl rfl ?_
    refine v_alen 18 dJ1_indexOf_4cfef_17 (by first | assumption | rfl) (by simp [g_tys]) rfl ?_
    rw [(ho9.2.2.1 i0).1]
    refine v_min 21 dJ1_indexOf_4cfef_18 ma_J1_38 ma_s_min ma_i rfl (by decide) rfl ?_
    refine v_istore_n 22 dJ1_indexOf_4cfef_21 (by decide) rfl rfl ?_
    dsimp only [List.set]
    refine v_iload_n 23 dJ1_indexOf_4cfef_22 rfl rfl ?_
    refine v_iload_n 24 dJ1_indexOf_4cfef_23 rfl rfl ?_
    try dsimp only
    refine v_icmp_lt 29 27 dJ1_indexOf_4cfef_24 (by decide) rfl (fun c24 => ?_) (fun c24 => ?_)
    · skip
      refine v_aload_n 30 dJ1_indexOf_4cfef_29 rfl rfl ?_
      refine v_iload_n 31 dJ1_indexOf_4cfef_30 rfl rfl ?_
      refine v_iload_n 32 dJ1_indexOf_4cfef_31 rfl rfl ?_
      refine v_iload_n 33 dJ1_indexOf_4cfef_32 rfl rfl ?_
      rw [if_neg (fun q9 : (0 : Int32) < 0 => absurd q9 (by decide)), if_neg (fun q9 => absurd q9 (nI_nlt (Nat.le_refl _) (by omega)))]
      refine v_invs (d' := 0) (k' := 0) (n' := 0) (k2 := 0) (n2 := 0) 36 [_, _, _, _] dJ1_indexOf_4cfef_33 mt_J1_95 ms_J1_indexOfChar_4cfef rfl rfl (of_decide_eq_true rfl) rfl (by decide) rfl rfl rfl rfl (C_J1_indexOfChar_4cfef hi0 hc0 hc1 (fun r hr => ?_))
      refine v_ireturn dJ1_indexOf_4cfef_36 rfl ?_
      exact hq _ hr
    · skip
      refine v_iconstv (v := -1) 28 dJ1_indexOf_4cfef_27 (by decide) rfl ?_
      refine v_ireturn dJ1_indexOf_4cfef_28 rfl ?_
      have hl0 : (g_txt.getD i0 []).length = 0 := by
        rcases Nat.eq_zero_or_pos (g_txt.getD i0 []).length with q | q
        · exact q
        · refine absurd ?_ c24
          rw [if_neg (fun q9 => absurd q9 (by decide)), if_neg (fun q9 => absurd q9 (nI_nlt (Nat.le_refl _) (by omega)))]
          exact nI_lt (a := 0) q (by omega)
      exact hq _ (Or.inr ⟨fun k hk => by omega, rfl⟩)
  · have hc1 : ¬ c ≤ 255 := fun q9 => by rw [if_pos q9] at c4; exact absurd c4 (by decide)
    refine v_iconstv (v := -1) 8 dJ1_indexOf_4cfef_7 (by decide) rfl ?_
    refine v_ireturn dJ1_indexOf_4cfef_8 rfl ?_
    refine hq _ (Or.inr ⟨fun k hk e9 => hc1 ?_, rfl⟩)
    rw [← e9]
    exact nI_le (b := 255) (by have := hT.2 k (by omega); omega) (by decide)
set_option maxRecDepth 20000 in
theorem C_J0_indexOf_7cf53 {G : GW} {h : PH} {Q : RS → PH → Prop} {i0 : Nat} (hi0 : i0 < 11) {c : Int32} (hc0 : 0 ≤ c) (hq : ∀ r, ix_is (g_txt.getD i0 []) c r → Q (.inl (some (pv_I r))) h) : VV G 2 0 0 yJ0_indexOf_7cf53 cJ0_indexOf_7cf53 3 (some .int) [] 0 (vv_en 3 [pv_O (1, i0), pv_I c, pv_I 0]) [] h Q := by
  show VV G 2 0 0 yJ0_indexOf_7cf53 cJ0_indexOf_7cf53 3 (some .int) [] 0 [some (pv_O (1, i0)), some (pv_I c), some (pv_I 0)] [] h Q
  refine VV.know (fun ho9 _ _ => ?_)
  refine v_aload_n 1 dJ0_indexOf_7cf53_0 rfl rfl ?_
  refine v_invv (d' := 0) (k' := 0) (n' := 0) (k2 := 0) (n2 := 0) 4 [] dJ0_indexOf_7cf53_1 mt_J0_492 mi_J0_isLatin1_aae02 me_J0_isLatin1_aae02 (by first | assumption | rfl) (by rfl) rfl rfl (of_decide_eq_true rfl) rfl (by decide) rfl rfl rfl rfl (C_J0_isLatin1_aae02 ?_)
  refine v_if_eq 23 7 dJ0_indexOf_7cf53_4 (by decide) rfl (fun c4 => ?_) (fun c4 => ?_)
  · exact absurd c4 (by decide)
  · refine v_aload_n 8 dJ0_indexOf_7cf53_7 rfl rfl ?_
    refine v_getfr 11 dJ0_indexOf_7cf53_8 fl_J0_9 (by first | assumption | rfl) (by rfl) rfl ?_
    rw [(ho9.2.1 i0).1]
    refine v_iload_n 12 dJ0_indexOf_7cf53_11 rfl rfl ?_
    refine v_iload_n 13 dJ0_indexOf_7cf53_12 rfl rfl ?_
    refine v_aload_n 14 dJ0_indexOf_7cf53_13 rfl rfl ?_
    refine v_invv (d' := 1) (k' := 0) (n' := 0) (k2 := 0) (n2 := 0) 17 [] dJ0_indexOf_7cf53_14 mt_J0_505 mi_J0_length_8abf5 me_J0_length_8abf5 (by first | assumption | rfl) (by rfl) rfl rfl (of_decide_eq_true rfl) rfl (by decide) rfl rfl rfl rfl (C_J0_length_8abf5 hi0 ?_)
    refine v_invs (d' := 1) (k' := 0) (n' := 0) (k2 := 0) (n2 := 0) 20 [_, _, _, _] dJ0_indexOf_7cf53_17 mt_J0_637 ms_J1_indexOf_4cfef rfl rfl (of_decide_eq_true rfl) rfl (by decide) rfl rfl rfl rfl (C_J1_indexOf_4cfef hi0 hc0 (fun r hr => ?_))
    refine v_goto 36 dJ0_indexOf_7cf53_20 (by decide) ?_
    refine v_ireturn dJ0_indexOf_7cf53_36 rfl ?_
    exact hq _ hr
set_option maxRecDepth 20000 in
theorem C_J0_indexOf_0f7a4 {G : GW} {h : PH} {Q : RS → PH → Prop} {i0 : Nat} (hi0 : i0 < 11) {c : Int32} (hc0 : 0 ≤ c) (hq : ∀ r, ix_is (g_txt.getD i0 []) c r → Q (.inl (some (pv_I r))) h) : VV G 3 0 0 yJ0_indexOf_0f7a4 cJ0_indexOf_0f7a4 2 (some .int) [] 0 (vv_en 2 [pv_O (1, i0), pv_I c]) [] h Q := by
  show VV G 3 0 0 yJ0_indexOf_0f7a4 cJ0_indexOf_0f7a4 2 (some .int) [] 0 [some (pv_O (1, i0)), some (pv_I c)] [] h Q
  refine v_aload_n 1 dJ0_indexOf_0f7a4_0 rfl rfl ?_
  refine v_iload_n 2 dJ0_indexOf_0f7a4_1 rfl rfl ?_
  refine v_iconstv (v := 0) 3 dJ0_indexOf_0f7a4_2 (by decide) rfl ?_
  refine v_invv (d' := 2) (k' := 0) (n' := 0) (k2 := 0) (n2 := 0) 6 [_, _] dJ0_indexOf_0f7a4_3 mt_J0_633 mi_J0_indexOf_7cf53 me_J0_indexOf_7cf53 (by first | assumption | rfl) (by rfl) rfl rfl (of_decide_eq_true rfl) rfl (by decide) rfl rfl rfl rfl (C_J0_indexOf_7cf53 hi0 hc0 (fun r hr => ?_))
  refine v_ireturn dJ0_indexOf_0f7a4_6 rfl ?_
  exact hq _ hr
