theorem rs_q {S : SP} {h : PH} {k : Nat} (R : Rp2 (rs_ S k) h) : q_l h 52 58 (nn_ S 2) (fun k => (43, k)) := by
  have X := R.2.1.2.2.1
  unfold nn_ at X ⊢
  rw [rs_2] at X
  exact X
theorem rs_i {S : SP} {h : PH} {k : Nat} (R : Rp2 (rs_ S k) h) : Rp2 (rs_ S (k + 1)) (hp_seti h 43 k 12 0) := by
  have X := R.i (t := 43) (i := k) (k := 12) (x := 0) (by decide)
  rw [rs_2] at X
  exact X
set_option maxRecDepth 20000 in
theorem L_X12_rest {G : GW} {h0 : PH} {Q : RS → PH → Prop} {S : SP} {it : Nat} (hq : ∀ h', Rp2 (rs_ S (nn_ S 2)) h' → ke_ h0 h' → Q (.inl (some (pv_I (nI (rc_ S (nn_ S 2)))))) h') : ∀ fuel : Nat, ∀ (k : Nat) (z3 : Option PV) (h : PH), k ≤ nn_ S 2 → nn_ S 2 - k < fuel → Rp2 (rs_ S k) h → is_I h it 52 0 k → ke_ h0 h → VV G 2 0 0 yX12_rest cX12_rest 4 (some .int) [] 16 [some (pv_O (40, 0)), some (pv_I (nI (rc_ S k))), some (pv_O (71, it)), z3] [] h Q := by
  intro fuel
  induction fuel with
  | zero =>
    intro k z3 h h1 h2
    omega
  | succ fuel ih =>
    intro k zz3 h hk h2 R hI keh
    refine v_aload_n 17 dX12_rest_16 rfl rfl ?_
    refine v_invf (z := ("java/util/ArrayList$Itr", TJx35411, 4)) (d' := 0) (k' := 0) (n' := 0) (k2 := 0) (n2 := 0) 22 [] dX12_rest_17 mf_X12_292 md_Jx35411_hasNext_aae02 mi_Jx35411_hasNext_aae02 se_Jx35411_hasNext_aae02 (by simp [g_fw]; rfl) ⟨by decide, by decide +kernel⟩ (by first | assumption | rfl) (by rfl) rfl rfl (of_decide_eq_true rfl) rfl (by decide) rfl rfl rfl rfl (C_hn (tl := 52) (ta := 58) rfl rfl (rs_q R) hI hk (fun g => ?_) (fun g => ?_))
    · refine v_if_eq 58 25 dX12_rest_22 (by decide) rfl (fun c22 => ?_) (fun c22 => ?_)
      · first | exact absurd c22 (by decide) | exact absurd rfl c22 | exact absurd (of_decide_eq_true rfl) c22
      · refine v_aload_n 26 dX12_rest_25 rfl rfl ?_
        refine v_invf (z := ("java/util/ArrayList$Itr", TJx35411, 4)) (d' := 1) (k' := 0) (n' := 0) (k2 := 0) (n2 := 0) 31 [] dX12_rest_26 mf_X12_298 md_Jx35411_next_0502b mi_Jx35411_next_0502b se_Jx35411_next_0502b (by simp [g_fw]; rfl) ⟨by decide, by decide +kernel⟩ (by first | assumption | rfl) (by rfl) rfl rfl (of_decide_eq_true rfl) rfl (by decide) rfl rfl rfl rfl (C_nx (tl := 52) (ta := 58) rfl rfl (rs_q R) (by decide) (by decide) hI g (fun h2 I2 te2 ke2 => ?_))
        have R2 : Rp2 (rs_ S k) h2 := R.te (fun t ht => te2 t (by omega))
        refine v_cast 34 dX12_rest_31 ⟨_, _, rfl, rfl, cl_X12_129⟩ rfl ?_
        refine v_astore_n 35 dX12_rest_34 (by decide) rfl rfl ?_
        dsimp only [List.set]
        refine v_iload_n 36 dX12_rest_35 rfl rfl ?_
        refine v_aload_n 37 dX12_rest_36 rfl rfl ?_
        refine v_getfi 40 dX12_rest_37 fl_X12_279 (by first | assumption | rfl) (by rfl) rfl ?_
        rw [R2.vi (t := 43) (by decide), (rs_tx S k (Nat.le_refl k)).2.2.1]
        refine v_if_le 47 43 dX12_rest_40 (by decide) rfl (fun c40 => ?_) (fun c40 => ?_)
        · refine v_iconstv (v := 0) 48 dX12_rest_47 (by decide) rfl ?_
          refine v_iadd 49 dX12_rest_48 rfl ?_
          refine v_istore_n 50 dX12_rest_49 (by decide) rfl rfl ?_
          dsimp only [List.set]
          refine v_aload_n 51 dX12_rest_50 rfl rfl ?_
          refine v_iconstv (v := 0) 52 dX12_rest_51 (by decide) rfl ?_
          refine v_putfi 55 dX12_rest_52 pf_X12_rest_279 (by first | assumption | rfl) (by first | assumption | decide) (by rfl) rfl rfl rfl ?_
          refine v_goto 16 dX12_rest_55 (by decide) ?_
          rw [show nI (rc_ S k) + 0 = nI (rc_ S (k + 1)) from by rw [Int32.add_zero]; show _ = nI (rc_ S k + (if 0 < hp_vi S.1 43 k 12 then 1 else 0)); rw [if_neg (Int32.not_lt.mpr c40)]; rfl]
          exact ih (k + 1) _ _ (by omega) (by omega) (rs_i R2) (I2.to rfl rfl (hp_seti_ne (by simp))) ((keh.tr ke2).tr (ke_.i (by decide) (by decide)))
        · refine v_iconstv (v := 1) 44 dX12_rest_43 (by decide) rfl ?_
          refine v_goto 48 dX12_rest_44 (by decide) ?_
          refine v_iadd 49 dX12_rest_48 rfl ?_
          refine v_istore_n 50 dX12_rest_49 (by decide) rfl rfl ?_
          dsimp only [List.set]
          refine v_aload_n 51 dX12_rest_50 rfl rfl ?_
          refine v_iconstv (v := 0) 52 dX12_rest_51 (by decide) rfl ?_
          refine v_putfi 55 dX12_rest_52 pf_X12_rest_279 (by first | assumption | rfl) (by first | assumption | decide) (by rfl) rfl rfl rfl ?_
          refine v_goto 16 dX12_rest_55 (by decide) ?_
          rw [show nI (rc_ S k) + 1 = nI (rc_ S (k + 1)) from by rw [nI_1]; show _ = nI (rc_ S k + (if 0 < hp_vi S.1 43 k 12 then 1 else 0)); rw [if_pos (Int32.not_le.mp c40)]]
          exact ih (k + 1) _ _ (by omega) (by omega) (rs_i R2) (I2.to rfl rfl (hp_seti_ne (by simp))) ((keh.tr ke2).tr (ke_.i (by decide) (by decide)))
    · refine v_if_eq 58 25 dX12_rest_22 (by decide) rfl (fun c22 => ?_) (fun c22 => ?_)
      · refine v_iload_n 59 dX12_rest_58 rfl rfl ?_
        refine v_ireturn dX12_rest_59 rfl ?_
        subst g
        exact hq _ R keh
      · first | exact absurd c22 (by decide) | exact absurd rfl c22 | exact absurd (of_decide_eq_true rfl) c22
set_option maxRecDepth 20000 in
theorem C_X12_rest {G : GW} {h : PH} {Q : RS → PH → Prop} {S : SP} {N : Nat} (R : Rp2 S h) (I : Iv S N) (Fr : fr_s h) (hq : ∀ h', Rp2 (op_rest S).2 h' → ke_ h h' → Q (.inl (some (pv_I (op_rest S).1))) h') : VV G 9 1 4 yX12_rest cX12_rest 4 (some .int) [] 0 (vv_en 4 [pv_O (40, 0)]) [] h Q := by
  show VV G 9 1 4 yX12_rest cX12_rest 4 (some .int) [] 0 [some (pv_O (40, 0)), none, none, none] [] h Q
  refine v_aload_n 1 dX12_rest_0 rfl rfl ?_
  refine v_invv (d' := 0) (k' := 0) (n' := 0) (k2 := 1) (n2 := 4) 4 [] dX12_rest_1 mt_X12_48 mi_X12_begins me_X12_begins (by first | assumption | rfl) (by rfl) rfl rfl (of_decide_eq_true rfl) rfl (by decide) rfl rfl rfl rfl (C2_begins R (fun h0 R e0 ke0 => ?_))
  have Fr := ke0.2 Fr
  refine v_iconstv (v := 0) 5 dX12_rest_4 (by decide) rfl ?_
  refine v_istore_n 6 dX12_rest_5 (by decide) rfl rfl ?_
  dsimp only [List.set]
  refine v_aload_n 7 dX12_rest_6 rfl rfl ?_
  refine v_getfr 10 dX12_rest_7 fl_X12_19 (by first | assumption | rfl) (by rfl) rfl ?_
  rw [R.1.1.2.2.2.1]
  refine v_invf (z := ("java/util/ArrayList", TJx4a65c, 3)) (d' := 2) (k' := 1) (n' := 4) (k2 := 0) (n2 := 0) 15 [] dX12_rest_10 mf_X12_288 md_Jx4a65c_iterator_32c93 mi_Jx4a65c_iterator_32c93 se_Jx4a65c_iterator_32c93 (by simp [g_fw]; rfl) ⟨by decide, by decide +kernel⟩ (by first | assumption | rfl) (by rfl) rfl rfl (of_decide_eq_true rfl) rfl (by decide) rfl rfl rfl rfl (C_it (tl := 52) (ta := 58) rfl rfl R.2.1.2.2.1 Fr (by decide) (fun i1 h1 I1 te1 ke1 => ?_))
  have R1 : Rp2 S h1 := R.te (fun t ht => te1 t (by omega))
  refine v_astore_n 16 dX12_rest_15 (by decide) rfl rfl ?_
  dsimp only [List.set]
  exact VV.less (by decide) (by decide) (by decide) (L_X12_rest hq _ 0 _ _ (Nat.zero_le _) (Nat.lt_succ_self _) R1 I1 (ke0.tr ke1))
set_option maxRecDepth 20000 in
theorem Li_X12_unused {G : GW} {h : PH} {Q : RS → PH → Prop} {S : SP} {N : Nat} (R : Rp2 S h) (I : Iv S N) {f it : Nat} {x : Int32} (hf : f < nn_ S 1) (K : VV G 4 0 0 yX12_unused cX12_unused 5 (some .int) [] 12 [some (pv_O (40, 0)), some (pv_I (uf_ S f x (s_n S f))), some (pv_O (71, it)), some (pv_O (42, f)), some (pv_I (nI (s_n S f)))] [] h Q) : ∀ fuel : Nat, ∀ (l : Nat), l ≤ s_n S f → s_n S f - l < fuel → VV G 4 0 0 yX12_unused cX12_unused 5 (some .int) [] 34 [some (pv_O (40, 0)), some (pv_I (uf_ S f x l)), some (pv_O (71, it)), some (pv_O (42, f)), some (pv_I (nI l))] [] h Q := by
  intro fuel
  induction fuel with
  | zero =>
    intro l h1 h2
    omega
  | succ fuel ih =>
    intro l hl h2
    have h24 := I.n24 hf
    refine v_iload 36 dX12_unused_34 rfl rfl ?_
    refine v_aload_n 37 dX12_unused_36 rfl rfl ?_
    refine v_getfr 40 dX12_unused_37 fl_X12_103 (by first | assumption | rfl) (by rfl) rfl ?_
    rw [R.vr (t := 42) (by decide), I.us hf]
    refine v_alen 41 dX12_unused_40 (by first | assumption | rfl) (by simp [g_tys]) rfl ?_
    rw [R.ln (t := 62) (by decide), show hp_ln S.1 62 f = s_n S f from rfl]
    refine v_icmp_ge 73 44 dX12_unused_41 (by decide) rfl (fun c41 => ?_) (fun c41 => ?_)
    · have hkm : l = s_n S f := by
        rcases Nat.lt_or_ge l (s_n S f) with q | q
        · exact absurd c41 (nI_ge q (by omega))
        · omega
      subst hkm
      refine v_goto 12 dX12_unused_73 (by decide) ?_
      exact K
    · have hkm : l < s_n S f := by
        rcases Nat.lt_or_ge l (s_n S f) with q | q
        · exact q
        · exact absurd (nI_le q (by omega)) c41
      refine v_iload_n 45 dX12_unused_44 rfl rfl ?_
      refine v_aload_n 46 dX12_unused_45 rfl rfl ?_
      refine v_getfr 49 dX12_unused_46 fl_X12_103 (by first | assumption | rfl) (by rfl) rfl ?_
      rw [R.vr (t := 42) (by decide), I.us hf]
      refine v_iload 51 dX12_unused_49 rfl rfl ?_
      refine v_zald 52 dX12_unused_51 (by first | assumption | rfl) (by rw [R.ln (t := 62) (by decide)]; exact in_nI hkm (by omega)) rfl ?_
      rw [nI_clamp (by omega), R.vi (t := 62) (by decide)]
      refine v_if_eq 59 55 dX12_unused_52 (by decide) rfl (fun c52 => ?_) (fun c52 => ?_)
      · refine v_aload_n 60 dX12_unused_59 rfl rfl ?_
        refine v_iload 62 dX12_unused_60 rfl rfl ?_
        refine v_invv (d' := 2) (k' := 0) (n' := 0) (k2 := 0) (n2 := 0) 65 [_] dX12_unused_62 mt_X12_117 mi_X7_area me_X7_area (by first | assumption | rfl) (by rfl) rfl rfl (of_decide_eq_true rfl) rfl (by decide) rfl rfl rfl rfl (C_X7_area (R.tg (by decide)) (R.tg (by decide)) I hf (by omega) ?_)
        refine v_iadd 66 dX12_unused_65 rfl ?_
        refine v_istore_n 67 dX12_unused_66 (by decide) rfl rfl ?_
        dsimp only [List.set]
        refine v_iinc 70 dX12_unused_67 rfl (by decide) rfl rfl ?_
        dsimp only [List.set]
        refine v_goto 34 dX12_unused_70 (by decide) ?_
        rw [show nI l + Int32.ofInt 1 = nI (l + 1) from nI_1 l]
        have X := ih (l + 1) (by omega) (by omega)
        rw [show uf_ S f x (l + 1) = uf_ S f x l + s_a S f (nI l) from congrArg (uf_ S f x l + ·) (if_pos c52)] at X
        exact X
      · refine v_iconstv (v := 0) 56 dX12_unused_55 (by decide) rfl ?_
        refine v_goto 65 dX12_unused_56 (by decide) ?_
        refine v_iadd 66 dX12_unused_65 rfl ?_
        refine v_istore_n 67 dX12_unused_66 (by decide) rfl rfl ?_
        dsimp only [List.set]
        refine v_iinc 70 dX12_unused_67 rfl (by decide) rfl rfl ?_
        dsimp only [List.set]
        refine v_goto 34 dX12_unused_70 (by decide) ?_
        rw [show nI l + Int32.ofInt 1 = nI (l + 1) from nI_1 l]
        have X := ih (l + 1) (by omega) (by omega)
        rw [show uf_ S f x (l + 1) = uf_ S f x l + 0 from congrArg (uf_ S f x l + ·) (if_neg c52)] at X
        exact X
set_option maxRecDepth 20000 in
theorem L_X12_unused {G : GW} {h0 : PH} {Q : RS → PH → Prop} {S : SP} {N : Nat} (I : Iv S N) {it : Nat} (hq : ∀ h', Rp2 S h' → ke_ h0 h' → (∀ t, t ≠ 71 → hp_te h0 h' t) → Q (.inl (some (pv_I (uu_ S (nn_ S 1))))) h') : ∀ fuel : Nat, ∀ (k : Nat) (z3 z4 : Option PV) (h : PH), k ≤ nn_ S 1 → nn_ S 1 - k < fuel → Rp2 S h → is_I h it 51 0 k → ke_ h0 h → (∀ t, t ≠ 71 → hp_te h0 h t) → VV G 4 0 0 yX12_unused cX12_unused 5 (some .int) [] 12 [some (pv_O (40, 0)), some (pv_I (uu_ S k)), some (pv_O (71, it)), z3, z4] [] h Q := by
  intro fuel
  induction fuel with
  | zero =>
    intro k z3 z4 h h1 h2
    omega
  | succ fuel ih =>
    intro k zz3 zz4 h hk h2 R hI keh teh
    refine v_aload_n 13 dX12_unused_12 rfl rfl ?_
    refine v_invf (z := ("java/util/ArrayList$Itr", TJx35411, 4)) (d' := 0) (k' := 0) (n' := 0) (k2 := 0) (n2 := 0) 18 [] dX12_unused_13 mf_X12_292 md_Jx35411_hasNext_aae02 mi_Jx35411_hasNext_aae02 se_Jx35411_hasNext_aae02 (by simp [g_fw]; rfl) ⟨by decide, by decide +kernel⟩ (by first | assumption | rfl) (by rfl) rfl rfl (of_decide_eq_true rfl) rfl (by decide) rfl rfl rfl rfl (C_hn (tl := 51) (ta := 57) rfl rfl R.2.1.2.1 hI hk (fun g => ?_) (fun g => ?_))
    · refine v_if_eq 76 21 dX12_unused_18 (by decide) rfl (fun c18 => ?_) (fun c18 => ?_)
      · first | exact absurd c18 (by decide) | exact absurd rfl c18 | exact absurd (of_decide_eq_true rfl) c18
      · refine v_aload_n 22 dX12_unused_21 rfl rfl ?_
        refine v_invf (z := ("java/util/ArrayList$Itr", TJx35411, 4)) (d' := 1) (k' := 0) (n' := 0) (k2 := 0) (n2 := 0) 27 [] dX12_unused_22 mf_X12_298 md_Jx35411_next_0502b mi_Jx35411_next_0502b se_Jx35411_next_0502b (by simp [g_fw]; rfl) ⟨by decide, by decide +kernel⟩ (by first | assumption | rfl) (by rfl) rfl rfl (of_decide_eq_true rfl) rfl (by decide) rfl rfl rfl rfl (C_nx (tl := 51) (ta := 57) rfl rfl R.2.1.2.1 (by decide) (by decide) hI g (fun h2 I2 te2 ke2 => ?_))
        have R2 : Rp2 S h2 := R.te (fun t ht => te2 t (by omega))
        refine v_cast 30 dX12_unused_27 ⟨_, _, rfl, rfl, cl_X12_98⟩ rfl ?_
        refine v_astore_n 31 dX12_unused_30 (by decide) rfl rfl ?_
        dsimp only [List.set]
        refine v_iconstv (v := 0) 32 dX12_unused_31 (by decide) rfl ?_
        refine v_istore 34 dX12_unused_32 (by decide) rfl rfl ?_
        dsimp only [List.set]
        refine Li_X12_unused R2 I g ?_ _ 0 (Nat.zero_le _) (Nat.lt_succ_self _)
        exact ih (k + 1) _ _ _ (by omega) (by omega) R2 I2 (keh.tr ke2) (fun t ht => (teh t ht).tr (te2 t ht))
    · refine v_if_eq 76 21 dX12_unused_18 (by decide) rfl (fun c18 => ?_) (fun c18 => ?_)
      · refine v_iload_n 77 dX12_unused_76 rfl rfl ?_
        refine v_ireturn dX12_unused_77 rfl ?_
        subst g
        exact hq _ R keh teh
      · first | exact absurd c18 (by decide) | exact absurd rfl c18 | exact absurd (of_decide_eq_true rfl) c18
set_option maxRecDepth 20000 in
theorem C_X12_unused {G : GW} {h : PH} {Q : RS → PH → Prop} {S : SP} {N : Nat} (R : Rp2 S h) (I : Iv S N) (Fr : fr_s h) (hq : ∀ h', Rp2 S h' → ke_ h h' → (∀ t, t ≠ 71 → hp_te h h' t) → Q (.inl (some (pv_I (uu_ S (nn_ S 1))))) h') : VV G 4 1 4 yX12_unused cX12_unused 5 (some .int) [] 0 (vv_en 5 [pv_O (40, 0)]) [] h Q := by
  show VV G 4 1 4 yX12_unused cX12_unused 5 (some .int) [] 0 [some (pv_O (40, 0)), none, none, none, none] [] h Q
  refine v_iconstv (v := 0) 1 dX12_unused_0 (by decide) rfl ?_
  refine v_istore_n 2 dX12_unused_1 (by decide) rfl rfl ?_
  dsimp only [List.set]
  refine v_aload_n 3 dX12_unused_2 rfl rfl ?_
  refine v_getfr 6 dX12_unused_3 fl_X12_16 (by first | assumption | rfl) (by rfl) rfl ?_
  rw [R.1.1.2.2.1]
  refine v_invf (z := ("java/util/ArrayList", TJx4a65c, 3)) (d' := 2) (k' := 1) (n' := 4) (k2 := 0) (n2 := 0) 11 [] dX12_unused_6 mf_X12_288 md_Jx4a65c_iterator_32c93 mi_Jx4a65c_iterator_32c93 se_Jx4a65c_iterator_32c93 (by simp [g_fw]; rfl) ⟨by decide, by decide +kernel⟩ (by first | assumption | rfl) (by rfl) rfl rfl (of_decide_eq_true rfl) rfl (by decide) rfl rfl rfl rfl (C_it (tl := 51) (ta := 57) rfl rfl R.2.1.2.1 Fr (by decide) (fun i1 h1 I1 te1 ke1 => ?_))
  have R1 : Rp2 S h1 := R.te (fun t ht => te1 t (by omega))
  refine v_astore_n 12 dX12_unused_11 (by decide) rfl rfl ?_
  dsimp only [List.set]
  exact VV.less (by decide) (by decide) (by decide) (L_X12_unused I hq _ 0 _ _ _ (Nat.zero_le _) (Nat.lt_succ_self _) R1 I1 ke1 te1)
theorem ixf_a (c : Int32) : (c = 102 ∧ ixf_ c tx_a 0 = 0) ∨ (¬ c = 102 ∧ c = 98 ∧ ixf_ c tx_a 0 = 1) ∨ (¬ c = 102 ∧ ¬ c = 98 ∧ c = 112 ∧ ixf_ c tx_a 0 = 2) ∨ (¬ c = 102 ∧ ¬ c = 98 ∧ ¬ c = 112 ∧ c = 111 ∧ ixf_ c tx_a 0 = 3) ∨ (¬ c = 102 ∧ ¬ c = 98 ∧ ¬ c = 112 ∧ ¬ c = 111 ∧ c = 114 ∧ ixf_ c tx_a 0 = 4) ∨ (¬ c = 102 ∧ ¬ c = 98 ∧ ¬ c = 112 ∧ ¬ c = 111 ∧ ¬ c = 114 ∧ c = 119 ∧ ixf_ c tx_a 0 = 5) ∨ (¬ c = 102 ∧ ¬ c = 98 ∧ ¬ c = 112 ∧ ¬ c = 111 ∧ ¬ c = 114 ∧ ¬ c = 119 ∧ c = 108 ∧ ixf_ c tx_a 0 = 6) ∨ (¬ c = 102 ∧ ¬ c = 98 ∧ ¬ c = 112 ∧ ¬ c = 111 ∧ ¬ c = 114 ∧ ¬ c = 119 ∧ ¬ c = 108 ∧ ixf_ c tx_a 0 = -1) := by
  by_cases q1 : c = 102
  · subst q1; exact Or.inl ⟨rfl, by decide⟩
  by_cases q2 : c = 98
  · subst q2; exact Or.inr (Or.inl ⟨q1, rfl, by decide⟩)
  by_cases q3 : c = 112
  · subst q3; exact Or.inr (Or.inr (Or.inl ⟨q1, q2, rfl, by decide⟩))
  by_cases q4 : c = 111
  · subst q4; exact Or.inr (Or.inr (Or.inr (Or.inl ⟨q1, q2, q3, rfl, by decide⟩)))
  by_cases q5 : c = 114
  · subst q5; exact Or.inr (Or.inr (Or.inr (Or.inr (Or.inl ⟨q1, q2, q3, q4, rfl, by decide⟩))))
  by_cases q6 : c = 119
  · subst q6; exact Or.inr (Or.inr (Or.inr (Or.inr (Or.inr (Or.inl ⟨q1, q2, q3, q4, q5, rfl, by decide⟩)))))
  by_cases q7 : c = 108
  · subst q7; exact Or.inr (Or.inr (Or.inr (Or.inr (Or.inr (Or.inr (Or.inl ⟨q1, q2, q3, q4, q5, q6, rfl, by decide⟩))))))
  refine Or.inr (Or.inr (Or.inr (Or.inr (Or.inr (Or.inr (Or.inr ⟨q1, q2, q3, q4, q5, q6, q7, ?_⟩))))))
  unfold ixf_; rw [if_neg (fun e => q1 e.symm)]
  unfold ixf_; rw [if_neg (fun e => q2 e.symm)]
  unfold ixf_; rw [if_neg (fun e => q3 e.symm)]
  unfold ixf_; rw [if_neg (fun e => q4 e.symm)]
  unfold ixf_; rw [if_neg (fun e => q5 e.symm)]
  unfold ixf_; rw [if_neg (fun e => q6 e.symm)]
  unfold ixf_; rw [if_neg (fun e => q7 e.symm)]
  rfl
set_option maxRecDepth 20000 in
theorem L_X12_account {G : GW} {h0 : PH} {Q : RS → PH → Prop} {S : SP} {N : Nat} (I : Iv S N) (J : J2 S) {c : Int32} {it : Nat} (K : ∀ (z4 : Option PV) (h : PH), Rp2 S h → ke_ h0 h → hp_vi h 40 0 0 = 0 → VV G 8 2 11 yX12_account cX12_account 5 (some .int) [] 51 [some (pv_O (40, 0)), some (pv_I c), some (pv_I (s_oa S (nn_ S 5))), some (pv_O (71, it)), z4] [] h Q) : ∀ fuel : Nat, ∀ (k : Nat) (z4 : Option PV) (h : PH), k ≤ nn_ S 5 → nn_ S 5 - k < fuel → Rp2 S h → is_I h it 54 0 k → ke_ h0 h → hp_vi h 40 0 0 = 0 → VV G 8 2 11 yX12_account cX12_account 5 (some .int) [] 16 [some (pv_O (40, 0)), some (pv_I c), some (pv_I (s_oa S k)), some (pv_O (71, it)), z4] [] h Q := by
  intro fuel
  induction fuel with
  | zero =>
    intro k z4 h h1 h2
    omega
  | succ fuel ih =>
    intro k zz4 h hk h2 R hI keh e0
    refine v_aload_n 17 dX12_account_16 rfl rfl ?_
    refine v_invf (z := ("java/util/ArrayList$Itr", TJx35411, 4)) (d' := 0) (k' := 0) (n' := 0) (k2 := 2) (n2 := 11) 22 [] dX12_account_17 mf_X12_292 md_Jx35411_hasNext_aae02 mi_Jx35411_hasNext_aae02 se_Jx35411_hasNext_aae02 (by simp [g_fw]; rfl) ⟨by decide, by decide +kernel⟩ (by first | assumption | rfl) (by rfl) rfl rfl (of_decide_eq_true rfl) rfl (by decide) rfl rfl rfl rfl (C_hn (tl := 54) (ta := 60) rfl rfl R.2.1.2.2.2.2.1 hI hk (fun g => ?_) (fun g => ?_))
    · refine v_if_eq 51 25 dX12_account_22 (by decide) rfl (fun c22 => ?_) (fun c22 => ?_)
      · first | exact absurd c22 (by decide) | exact absurd rfl c22 | exact absurd (of_decide_eq_true rfl) c22
      · refine v_aload_n 26 dX12_account_25 rfl rfl ?_
        refine v_invf (z := ("java/util/ArrayList$Itr", TJx35411, 4)) (d' := 1) (k' := 0) (n' := 0) (k2 := 2) (n2 := 11) 31 [] dX12_account_26 mf_X12_298 md_Jx35411_next_0502b mi_Jx35411_next_0502b se_Jx35411_next_0502b (by simp [g_fw]; rfl) ⟨by decide, by decide +kernel⟩ (by first | assumption | rfl) (by rfl) rfl rfl (of_decide_eq_true rfl) rfl (by decide) rfl rfl rfl rfl (C_nx (tl := 54) (ta := 60) rfl rfl R.2.1.2.2.2.2.1 (by decide) (by decide) hI g (fun h2 I2 te2 ke2 => ?_))
        have R2 : Rp2 S h2 := R.te (fun t ht => te2 t (by omega))
        refine v_castI 34 dX12_account_31 rfl cl_X12_359 rfl ?_
        refine v_astore 36 dX12_account_34 (by decide) rfl rfl ?_
        dsimp only [List.set]
        refine v_iload_n 37 dX12_account_36 rfl rfl ?_
        refine v_aload 39 dX12_account_37 rfl rfl ?_
        refine v_iconstv (v := 0) 40 dX12_account_39 (by decide) rfl ?_
        refine v_iald 41 dX12_account_40 (by first | assumption | rfl) (by rw [R2.ln (t := 45) (by decide), J k g]; exact in_nI (m := 0) (by decide) (by decide)) rfl ?_
        rw [R2.vi (t := 45) (by decide), show Int32.toNatClampNeg 0 = 0 from rfl]
        refine v_aload 43 dX12_account_41 rfl rfl ?_
        refine v_iconstv (v := 1) 44 dX12_account_43 (by decide) rfl ?_
        refine v_iald 45 dX12_account_44 (by first | assumption | rfl) (by rw [R2.ln (t := 45) (by decide), J k g]; exact in_nI (m := 1) (by decide) (by decide)) rfl ?_
        rw [R2.vi (t := 45) (by decide), show Int32.toNatClampNeg 1 = 1 from rfl]
        refine v_imul 46 dX12_account_45 rfl ?_
        refine v_iadd 47 dX12_account_46 rfl ?_
        refine v_istore_n 48 dX12_account_47 (by decide) rfl rfl ?_
        dsimp only [List.set]
        refine v_goto 16 dX12_account_48 (by decide) ?_
        exact ih (k + 1) _ _ (by omega) (by omega) R2 I2 (keh.tr ke2) (by rw [(te2 40 (by decide)).2.2.1]; exact e0)
    · refine v_if_eq 51 25 dX12_account_22 (by decide) rfl (fun c22 => ?_) (fun c22 => ?_)
      · subst g
        exact K _ _ R keh e0
      · first | exact absurd c22 (by decide) | exact absurd rfl c22 | exact absurd (of_decide_eq_true rfl) c22
set_option maxRecDepth 20000 in
theorem C_X12_account {G : GW} {h : PH} {Q : RS → PH → Prop} {S : SP} {N : Nat} (R : Rp2 S h) (I : Iv S N) (J : J2 S) (Fr : fr_s h) {c : Int32} (hc : 0 ≤ c ∧ c ≤ 65535) (hq : ∀ v h', ((op_account S c).1 = 0 → v = (op_account S c).2) → Rp2 S h' → hp_vi h' 40 0 0 = nI (op_account S c).1 → ke_ h h' → Q (.inl (some (pv_I v))) h') : VV G 9 3 15 yX12_account cX12_account 5 (some .int) [] 0 (vv_en 5 [pv_O (40, 0), pv_I c]) [] h Q := by
  show VV G 9 3 15 yX12_account cX12_account 5 (some .int) [] 0 [some (pv_O (40, 0)), some (pv_I c), none, none, none] [] h Q
  obtain ⟨z0, z1, z2, z3, z4, z5⟩ := I.cs
  refine v_aload_n 1 dX12_account_0 rfl rfl ?_
  refine v_invv (d' := 0) (k' := 0) (n' := 0) (k2 := 3) (n2 := 15) 4 [] dX12_account_1 mt_X12_48 mi_X12_begins me_X12_begins (by first | assumption | rfl) (by rfl) rfl rfl (of_decide_eq_true rfl) rfl (by decide) rfl rfl rfl rfl (C2_begins R (fun h0 R e0 ke0 => ?_))
  have Fr := ke0.2 Fr
  refine v_iconstv (v := 0) 5 dX12_account_4 (by decide) rfl ?_
  refine v_istore_n 6 dX12_account_5 (by decide) rfl rfl ?_
  dsimp only [List.set]
  refine v_aload_n 7 dX12_account_6 rfl rfl ?_
  refine v_getfr 10 dX12_account_7 fl_X12_25 (by first | assumption | rfl) (by rfl) rfl ?_
  rw [R.1.1.2.2.2.2.2.1]
  refine v_invf (z := ("java/util/ArrayList", TJx4a65c, 3)) (d' := 2) (k' := 1) (n' := 4) (k2 := 2) (n2 := 11) 15 [] dX12_account_10 mf_X12_288 md_Jx4a65c_iterator_32c93 mi_Jx4a65c_iterator_32c93 se_Jx4a65c_iterator_32c93 (by simp [g_fw]; rfl) ⟨by decide, by decide +kernel⟩ (by first | assumption | rfl) (by rfl) rfl rfl (of_decide_eq_true rfl) rfl (by decide) rfl rfl rfl rfl (C_it (tl := 54) (ta := 60) rfl rfl R.2.1.2.2.2.2.1 Fr (by decide) (fun i1 h1 I1 te1 ke1 => ?_))
  have R1 : Rp2 S h1 := R.te (fun t ht => te1 t (by omega))
  refine v_astore_n 16 dX12_account_15 (by decide) rfl rfl ?_
  dsimp only [List.set]
  refine VV.less (by decide) (by decide) (by decide) (L_X12_account (h0 := h0) (it := i1) I J (fun z4 h R keh e0 => ?_) _ 0 _ _ (Nat.zero_le _) (Nat.lt_succ_self _) R1 I1 ke1 (by rw [(te1 40 (by decide)).2.2.1]; exact e0))
  obtain ⟨g7, hg7⟩ := (keh.2 Fr) 72 (by decide) (by decide)
  refine v_bipushv (v := 7) 53 dX12_account_51 (by decide) rfl ?_
  refine v_newarr (ty := .int) (N := 7) (k1 := 1) (n1 := 4) 55 72 g7 dX12_account_53 ac_int rfl (by simp [g_tys]) (by rfl) (by decide) (hg7 g7 (Nat.le_refl _)) (by decide) (by decide) (by decide) rfl rfl rfl ?_
  refine v_dup 56 dX12_account_55 rfl rfl ?_
  refine v_iconstv (v := 0) 57 dX12_account_56 (by decide) rfl ?_
  refine v_aload_n 58 dX12_account_57 rfl rfl ?_
  refine v_getfi 61 dX12_account_58 fl_X12_204 (by first | assumption | rfl) (by rfl) rfl ?_
  rw [vi_n, if_neg (by simp), R.1.2 7 (by decide) (by decide)]
  refine v_iast 62 dX12_account_61 (by first | assumption | rfl) (by first | assumption | decide) (by show vp_in _ (hp_ln (hp_new _ 72 g7 7) 72 g7); rw [hp_new_ln0]; exact in_nI (m := 0) (by decide) (by decide)) rfl ?_
  rw [show Int32.toNatClampNeg 0 = 0 from rfl]
  refine v_dup 63 dX12_account_62 rfl rfl ?_
  refine v_iconstv (v := 1) 64 dX12_account_63 (by decide) rfl ?_
  refine v_aload_n 65 dX12_account_64 rfl rfl ?_
  refine v_getfi 68 dX12_account_65 fl_X12_213 (by first | assumption | rfl) (by rfl) rfl ?_
  rw [hp_seti_ne (by simp), vi_n, if_neg (by simp), R.1.2 8 (by decide) (by decide)]
  refine v_iast 69 dX12_account_68 (by first | assumption | rfl) (by first | assumption | decide) (by show vp_in _ (hp_ln (hp_new _ 72 g7 7) 72 g7); rw [hp_new_ln0]; exact in_nI (m := 1) (by decide) (by decide)) rfl ?_
  rw [show Int32.toNatClampNeg 1 = 1 from rfl]
  refine v_dup 70 dX12_account_69 rfl rfl ?_
  refine v_iconstv (v := 2) 71 dX12_account_70 (by decide) rfl ?_
  refine v_aload_n 72 dX12_account_71 rfl rfl ?_
  refine v_getfi 75 dX12_account_72 fl_X12_336 (by first | assumption | rfl) (by rfl) rfl ?_
  rw [hp_seti_ne (by simp), hp_seti_ne (by simp), vi_n, if_neg (by simp), R.1.2 9 (by decide) (by decide)]
  refine v_iast 76 dX12_account_75 (by first | assumption | rfl) (by first | assumption | decide) (by show vp_in _ (hp_ln (hp_new _ 72 g7 7) 72 g7); rw [hp_new_ln0]; exact in_nI (m := 2) (by decide) (by decide)) rfl ?_
  rw [show Int32.toNatClampNeg 2 = 2 from rfl]
  refine v_dup 77 dX12_account_76 rfl rfl ?_
  refine v_iconstv (v := 3) 78 dX12_account_77 (by decide) rfl ?_
  refine v_iload_n 79 dX12_account_78 rfl rfl ?_
  refine v_iast 80 dX12_account_79 (by first | assumption | rfl) (by first | assumption | decide) (by show vp_in _ (hp_ln (hp_new _ 72 g7 7) 72 g7); rw [hp_new_ln0]; exact in_nI (m := 3) (by decide) (by decide)) rfl ?_
  rw [show Int32.toNatClampNeg 3 = 3 from rfl]
  refine v_dup 81 dX12_account_80 rfl rfl ?_
  refine v_iconstv (v := 4) 82 dX12_account_81 (by decide) rfl ?_
  refine v_aload_n 83 dX12_account_82 rfl rfl ?_
  refine v_getfi 86 dX12_account_83 fl_X12_367 (by first | assumption | rfl) (by rfl) rfl ?_
  rw [hp_seti_ne (by simp), hp_seti_ne (by simp), hp_seti_ne (by simp), hp_seti_ne (by simp), vi_n, if_neg (by simp), R.1.2 6 (by decide) (by decide)]
  refine v_iast 87 dX12_account_86 (by first | assumption | rfl) (by first | assumption | decide) (by show vp_in _ (hp_ln (hp_new _ 72 g7 7) 72 g7); rw [hp_new_ln0]; exact in_nI (m := 4) (by decide) (by decide)) rfl ?_
  rw [show Int32.toNatClampNeg 4 = 4 from rfl]
  refine v_dup 88 dX12_account_87 rfl rfl ?_
  refine v_iconstv (v := 5) 89 dX12_account_88 (by decide) rfl ?_
  refine v_aload_n 90 dX12_account_89 rfl rfl ?_
  refine v_getfi 93 dX12_account_90 fl_X12_168 (by first | assumption | rfl) (by rfl) rfl ?_
  rw [hp_seti_ne (by simp), hp_seti_ne (by simp), hp_seti_ne (by simp), hp_seti_ne (by simp), hp_seti_ne (by simp), vi_n, if_neg (by simp), R.1.2 10 (by decide) (by decide)]
  refine v_iast 94 dX12_account_93 (by first | assumption | rfl) (by first | assumption | decide) (by show vp_in _ (hp_ln (hp_new _ 72 g7 7) 72 g7); rw [hp_new_ln0]; exact in_nI (m := 5) (by decide) (by decide)) rfl ?_
  rw [show Int32.toNatClampNeg 5 = 5 from rfl]
  refine v_dup 95 dX12_account_94 rfl rfl ?_
  refine v_bipushv (v := 6) 97 dX12_account_95 (by decide) rfl ?_
  refine v_aload_n 98 dX12_account_97 rfl rfl ?_
  refine v_invv (d' := 4) (k' := 1) (n' := 4) (k2 := 0) (n2 := 0) 101 [] dX12_account_98 mt_X12_370 mi_X12_unused me_X12_unused (by first | assumption | rfl) (by rfl) rfl rfl (of_decide_eq_true rfl) rfl (by decide) rfl rfl rfl rfl (C_X12_unused (S := S) (R.te (fun t ht => (by repeat' first | exact hp_te.rf | refine hp_te.tr ?_ (hp_te.i (by omega)) | refine hp_te.tr ?_ (hp_te.n (by omega))))) I (((by repeat' first | exact ke_.rf | refine ke_.tr ?_ (ke_.i (by decide) (by decide)) | refine ke_.tr ?_ (ke_.n (by decide) (by decide)) : ke_ h _).2 (keh.2 Fr))) (fun h9 R9 ke9 te9 => ?_))
  refine v_iast 102 dX12_account_101 (by first | assumption | rfl) (by first | assumption | decide) (by rw [(te9 72 (by decide)).2.1]; show vp_in _ (hp_ln (hp_new _ 72 g7 7) 72 g7); rw [hp_new_ln0]; exact in_nI (m := 6) (by decide) (by decide)) rfl ?_
  rw [show Int32.toNatClampNeg 6 = 6 from rfl]
  refine v_astore_n 103 dX12_account_102 (by decide) rfl rfl ?_
  dsimp only [List.set]
  refine v_aload_n 104 dX12_account_103 rfl rfl ?_
  refine v_ldcsw (i := 10) (tx := "fbporwl") 107 dX12_account_104 (by first | (simp [g_sx]; done) | (simp [g_sx]; rfl)) (by decide) rfl ?_
  refine v_iload_n 108 dX12_account_107 rfl rfl ?_
  refine v_invv (d' := 3) (k' := 0) (n' := 0) (k2 := 0) (n2 := 0) 111 [_] dX12_account_108 mt_X12_53 mi_J0_indexOf_0f7a4 me_J0_indexOf_0f7a4 (by first | assumption | rfl) (by rfl) rfl rfl (of_decide_eq_true rfl) rfl (by decide) rfl rfl rfl rfl (C_ixf (by decide) hc.1 ?_)
  have X9 := ixf_a c
  refine v_if_ge 118 114 dX12_account_111 (by decide) rfl (fun c111 => ?_) (fun c111 => ?_)
  · have c111 : 0 ≤ ixf_ c tx_a 0 := c111
    refine v_iconstv (v := 0) 119 dX12_account_118 (by decide) rfl ?_
    refine v_iconstv (v := 1) 120 dX12_account_119 (by decide) rfl ?_
    refine v_invv (d' := 0) (k' := 0) (n' := 0) (k2 := 0) (n2 := 0) 123 [_, _] dX12_account_120 mt_X12_67 mi_X12_fails me_X12_fails (by first | assumption | rfl) (by rfl) rfl rfl (of_decide_eq_true rfl) rfl (by decide) rfl rfl rfl rfl (C_f0 (by show hp_vi h9 40 0 0 = 0; rw [(te9 40 (by decide)).2.2.1]; exact e0) ?_)
    refine v_if_eq 130 126 dX12_account_123 (by decide) rfl (fun c123 => ?_) (fun c123 => ?_)
    · rcases X9 with q | q | q | q | q | q | q | q
      · refine v_aload_n 131 dX12_account_130 rfl rfl ?_
        refine v_ldcsw (i := 10) (tx := "fbporwl") 134 dX12_account_131 (by first | (simp [g_sx]; done) | (simp [g_sx]; rfl)) (by decide) rfl ?_
        refine v_iload_n 135 dX12_account_134 rfl rfl ?_
        refine v_invv (d' := 3) (k' := 0) (n' := 0) (k2 := 0) (n2 := 0) 138 [_] dX12_account_135 mt_X12_53 mi_J0_indexOf_0f7a4 me_J0_indexOf_0f7a4 (by first | assumption | rfl) (by rfl) rfl rfl (of_decide_eq_true rfl) rfl (by decide) rfl rfl rfl rfl (C_ixf (by decide) hc.1 ?_)
        rw [show ixf_ c (g_txt.getD 10 []) 0 = 0 from q.2]
        refine v_iald 139 dX12_account_138 (by first | assumption | rfl) (by show vp_in _ (hp_ln h9 72 g7); rw [(te9 72 (by decide)).2.1]; show vp_in _ (hp_ln (hp_new _ 72 g7 7) 72 g7); rw [hp_new_ln0]; exact in_nI (m := 0) (by decide) (by decide)) rfl ?_
        rw [show Int32.toNatClampNeg 0 = 0 from rfl, hp_seti_ne (by simp), (te9 72 (by decide)).2.2.1, hp_seti_ne (by simp), hp_seti_ne (by simp), hp_seti_ne (by simp), hp_seti_ne (by simp), hp_seti_ne (by simp), hp_seti_at]
        refine v_ireturn dX12_account_139 rfl ?_
        have ev : op_account S c = (0, hp_vi S.1 40 0 7) := by unfold op_account; rw [if_pos q.1]
        rw [ev] at hq
        exact hq _ _ (fun _ => rfl) (R9.te (fun t ht => hp_te.i (by omega))) (by show hp_vi h9 40 0 0 = 0; rw [(te9 40 (by decide)).2.2.1]; exact e0) ((((ke0.tr keh).tr (by repeat' first | exact ke_.rf | refine ke_.tr ?_ (ke_.i (by decide) (by decide)) | refine ke_.tr ?_ (ke_.n (by decide) (by decide)))).tr ke9).tr (ke_.i (by decide) (by decide)))
      · refine v_aload_n 131 dX12_account_130 rfl rfl ?_
        refine v_ldcsw (i := 10) (tx := "fbporwl") 134 dX12_account_131 (by first | (simp [g_sx]; done) | (simp [g_sx]; rfl)) (by decide) rfl ?_
        refine v_iload_n 135 dX12_account_134 rfl rfl ?_
        refine v_invv (d' := 3) (k' := 0) (n' := 0) (k2 := 0) (n2 := 0) 138 [_] dX12_account_135 mt_X12_53 mi_J0_indexOf_0f7a4 me_J0_indexOf_0f7a4 (by first | assumption | rfl) (by rfl) rfl rfl (of_decide_eq_true rfl) rfl (by decide) rfl rfl rfl rfl (C_ixf (by decide) hc.1 ?_)
        rw [show ixf_ c (g_txt.getD 10 []) 0 = 1 from q.2.2]
        refine v_iald 139 dX12_account_138 (by first | assumption | rfl) (by show vp_in _ (hp_ln h9 72 g7); rw [(te9 72 (by decide)).2.1]; show vp_in _ (hp_ln (hp_new _ 72 g7 7) 72 g7); rw [hp_new_ln0]; exact in_nI (m := 1) (by decide) (by decide)) rfl ?_
        rw [show Int32.toNatClampNeg 1 = 1 from rfl, hp_seti_ne (by simp), (te9 72 (by decide)).2.2.1, hp_seti_ne (by simp), hp_seti_ne (by simp), hp_seti_ne (by simp), hp_seti_ne (by simp), hp_seti_at]
        refine v_ireturn dX12_account_139 rfl ?_
        have ev : op_account S c = (0, hp_vi S.1 40 0 8) := by unfold op_account; rw [if_neg q.1, if_pos q.2.1]
        rw [ev] at hq
        exact hq _ _ (fun _ => rfl) (R9.te (fun t ht => hp_te.i (by omega))) (by show hp_vi h9 40 0 0 = 0; rw [(te9 40 (by decide)).2.2.1]; exact e0) ((((ke0.tr keh).tr (by repeat' first | exact ke_.rf | refine ke_.tr ?_ (ke_.i (by decide) (by decide)) | refine ke_.tr ?_ (ke_.n (by decide) (by decide)))).tr ke9).tr (ke_.i (by decide) (by decide)))
      · refine v_aload_n 131 dX12_account_130 rfl rfl ?_
        refine v_ldcsw (i := 10) (tx := "fbporwl") 134 dX12_account_131 (by first | (simp [g_sx]; done) | (simp [g_sx]; rfl)) (by decide) rfl ?_
        refine v_iload_n 135 dX12_account_134 rfl rfl ?_
        refine v_invv (d' := 3) (k' := 0) (n' := 0) (k2 := 0) (n2 := 0) 138 [_] dX12_account_135 mt_X12_53 mi_J0_indexOf_0f7a4 me_J0_indexOf_0f7a4 (by first | assumption | rfl) (by rfl) rfl rfl (of_decide_eq_true rfl) rfl (by decide) rfl rfl rfl rfl (C_ixf (by decide) hc.1 ?_)
        rw [show ixf_ c (g_txt.getD 10 []) 0 = 2 from q.2.2.2]
        refine v_iald 139 dX12_account_138 (by first | assumption | rfl) (by show vp_in _ (hp_ln h9 72 g7); rw [(te9 72 (by decide)).2.1]; show vp_in _ (hp_ln (hp_new _ 72 g7 7) 72 g7); rw [hp_new_ln0]; exact in_nI (m := 2) (by decide) (by decide)) rfl ?_
        rw [show Int32.toNatClampNeg 2 = 2 from rfl, hp_seti_ne (by simp), (te9 72 (by decide)).2.2.1, hp_seti_ne (by simp), hp_seti_ne (by simp), hp_seti_ne (by simp), hp_seti_at]
        refine v_ireturn dX12_account_139 rfl ?_
        have ev : op_account S c = (0, hp_vi S.1 40 0 9) := by unfold op_account; rw [if_neg q.1, if_neg q.2.1, if_pos q.2.2.1]
        rw [ev] at hq
        exact hq _ _ (fun _ => rfl) (R9.te (fun t ht => hp_te.i (by omega))) (by show hp_vi h9 40 0 0 = 0; rw [(te9 40 (by decide)).2.2.1]; exact e0) ((((ke0.tr keh).tr (by repeat' first | exact ke_.rf | refine ke_.tr ?_ (ke_.i (by decide) (by decide)) | refine ke_.tr ?_ (ke_.n (by decide) (by decide)))).tr ke9).tr (ke_.i (by decide) (by decide)))
      · refine v_aload_n 131 dX12_account_130 rfl rfl ?_
        refine v_ldcsw (i := 10) (tx := "fbporwl") 134 dX12_account_131 (by first | (simp [g_sx]; done) | (simp [g_sx]; rfl)) (by decide) rfl ?_
        refine v_iload_n 135 dX12_account_134 rfl rfl ?_
        refine v_invv (d' := 3) (k' := 0) (n' := 0) (k2 := 0) (n2 := 0) 138 [_] dX12_account_135 mt_X12_53 mi_J0_indexOf_0f7a4 me_J0_indexOf_0f7a4 (by first | assumption | rfl) (by rfl) rfl rfl (of_decide_eq_true rfl) rfl (by decide) rfl rfl rfl rfl (C_ixf (by decide) hc.1 ?_)
        rw [show ixf_ c (g_txt.getD 10 []) 0 = 3 from q.2.2.2.2]
        refine v_iald 139 dX12_account_138 (by first | assumption | rfl) (by show vp_in _ (hp_ln h9 72 g7); rw [(te9 72 (by decide)).2.1]; show vp_in _ (hp_ln (hp_new _ 72 g7 7) 72 g7); rw [hp_new_ln0]; exact in_nI (m := 3) (by decide) (by decide)) rfl ?_
        rw [show Int32.toNatClampNeg 3 = 3 from rfl, hp_seti_ne (by simp), (te9 72 (by decide)).2.2.1, hp_seti_ne (by simp), hp_seti_ne (by simp), hp_seti_at]
        refine v_ireturn dX12_account_139 rfl ?_
        have ev : op_account S c = (0, s_oa S (nn_ S 5)) := by unfold op_account; rw [if_neg q.1, if_neg q.2.1, if_neg q.2.2.1, if_pos q.2.2.2.1]
        rw [ev] at hq
        exact hq _ _ (fun _ => rfl) (R9.te (fun t ht => hp_te.i (by omega))) (by show hp_vi h9 40 0 0 = 0; rw [(te9 40 (by decide)).2.2.1]; exact e0) ((((ke0.tr keh).tr (by repeat' first | exact ke_.rf | refine ke_.tr ?_ (ke_.i (by decide) (by decide)) | refine ke_.tr ?_ (ke_.n (by decide) (by decide)))).tr ke9).tr (ke_.i (by decide) (by decide)))
      · refine v_aload_n 131 dX12_account_130 rfl rfl ?_
        refine v_ldcsw (i := 10) (tx := "fbporwl") 134 dX12_account_131 (by first | (simp [g_sx]; done) | (simp [g_sx]; rfl)) (by decide) rfl ?_
        refine v_iload_n 135 dX12_account_134 rfl rfl ?_
        refine v_invv (d' := 3) (k' := 0) (n' := 0) (k2 := 0) (n2 := 0) 138 [_] dX12_account_135 mt_X12_53 mi_J0_indexOf_0f7a4 me_J0_indexOf_0f7a4 (by first | assumption | rfl) (by rfl) rfl rfl (of_decide_eq_true rfl) rfl (by decide) rfl rfl rfl rfl (C_ixf (by decide) hc.1 ?_)
        rw [show ixf_ c (g_txt.getD 10 []) 0 = 4 from q.2.2.2.2.2]
        refine v_iald 139 dX12_account_138 (by first | assumption | rfl) (by show vp_in _ (hp_ln h9 72 g7); rw [(te9 72 (by decide)).2.1]; show vp_in _ (hp_ln (hp_new _ 72 g7 7) 72 g7); rw [hp_new_ln0]; exact in_nI (m := 4) (by decide) (by decide)) rfl ?_
        rw [show Int32.toNatClampNeg 4 = 4 from rfl, hp_seti_ne (by simp), (te9 72 (by decide)).2.2.1, hp_seti_ne (by simp), hp_seti_at]
        refine v_ireturn dX12_account_139 rfl ?_
        have ev : op_account S c = (0, hp_vi S.1 40 0 6) := by unfold op_account; rw [if_neg q.1, if_neg q.2.1, if_neg q.2.2.1, if_neg q.2.2.2.1, if_pos q.2.2.2.2.1]
        rw [ev] at hq
        exact hq _ _ (fun _ => rfl) (R9.te (fun t ht => hp_te.i (by omega))) (by show hp_vi h9 40 0 0 = 0; rw [(te9 40 (by decide)).2.2.1]; exact e0) ((((ke0.tr keh).tr (by repeat' first | exact ke_.rf | refine ke_.tr ?_ (ke_.i (by decide) (by decide)) | refine ke_.tr ?_ (ke_.n (by decide) (by decide)))).tr ke9).tr (ke_.i (by decide) (by decide)))
      · refine v_aload_n 131 dX12_account_130 rfl rfl ?_
        refine v_ldcsw (i := 10) (tx := "fbporwl") 134 dX12_account_131 (by first | (simp [g_sx]; done) | (simp [g_sx]; rfl)) (by decide) rfl ?_
        refine v_iload_n 135 dX12_account_134 rfl rfl ?_
        refine v_invv (d' := 3) (k' := 0) (n' := 0) (k2 := 0) (n2 := 0) 138 [_] dX12_account_135 mt_X12_53 mi_J0_indexOf_0f7a4 me_J0_indexOf_0f7a4 (by first | assumption | rfl) (by rfl) rfl rfl (of_decide_eq_true rfl) rfl (by decide) rfl rfl rfl rfl (C_ixf (by decide) hc.1 ?_)
        rw [show ixf_ c (g_txt.getD 10 []) 0 = 5 from q.2.2.2.2.2.2]
        refine v_iald 139 dX12_account_138 (by first | assumption | rfl) (by show vp_in _ (hp_ln h9 72 g7); rw [(te9 72 (by decide)).2.1]; show vp_in _ (hp_ln (hp_new _ 72 g7 7) 72 g7); rw [hp_new_ln0]; exact in_nI (m := 5) (by decide) (by decide)) rfl ?_
        rw [show Int32.toNatClampNeg 5 = 5 from rfl, hp_seti_ne (by simp), (te9 72 (by decide)).2.2.1, hp_seti_at]
        refine v_ireturn dX12_account_139 rfl ?_
        have ev : op_account S c = (0, hp_vi S.1 40 0 10) := by unfold op_account; rw [if_neg q.1, if_neg q.2.1, if_neg q.2.2.1, if_neg q.2.2.2.1, if_neg q.2.2.2.2.1, if_pos q.2.2.2.2.2.1]
        rw [ev] at hq
        exact hq _ _ (fun _ => rfl) (R9.te (fun t ht => hp_te.i (by omega))) (by show hp_vi h9 40 0 0 = 0; rw [(te9 40 (by decide)).2.2.1]; exact e0) ((((ke0.tr keh).tr (by repeat' first | exact ke_.rf | refine ke_.tr ?_ (ke_.i (by decide) (by decide)) | refine ke_.tr ?_ (ke_.n (by decide) (by decide)))).tr ke9).tr (ke_.i (by decide) (by decide)))
      · refine v_aload_n 131 dX12_account_130 rfl rfl ?_
        refine v_ldcsw (i := 10) (tx := "fbporwl") 134 dX12_account_131 (by first | (simp [g_sx]; done) | (simp [g_sx]; rfl)) (by decide) rfl ?_
        refine v_iload_n 135 dX12_account_134 rfl rfl ?_
        refine v_invv (d' := 3) (k' := 0) (n' := 0) (k2 := 0) (n2 := 0) 138 [_] dX12_account_135 mt_X12_53 mi_J0_indexOf_0f7a4 me_J0_indexOf_0f7a4 (by first | assumption | rfl) (by rfl) rfl rfl (of_decide_eq_true rfl) rfl (by decide) rfl rfl rfl rfl (C_ixf (by decide) hc.1 ?_)
        rw [show ixf_ c (g_txt.getD 10 []) 0 = 6 from q.2.2.2.2.2.2.2]
        refine v_iald 139 dX12_account_138 (by first | assumption | rfl) (by show vp_in _ (hp_ln h9 72 g7); rw [(te9 72 (by decide)).2.1]; show vp_in _ (hp_ln (hp_new _ 72 g7 7) 72 g7); rw [hp_new_ln0]; exact in_nI (m := 6) (by decide) (by decide)) rfl ?_
        rw [show Int32.toNatClampNeg 6 = 6 from rfl, hp_seti_at]
        refine v_ireturn dX12_account_139 rfl ?_
        have ev : op_account S c = (0, uu_ S (nn_ S 1)) := by unfold op_account; rw [if_neg q.1, if_neg q.2.1, if_neg q.2.2.1, if_neg q.2.2.2.1, if_neg q.2.2.2.2.1, if_neg q.2.2.2.2.2.1, if_pos q.2.2.2.2.2.2.1]
        rw [ev] at hq
        exact hq _ _ (fun _ => rfl) (R9.te (fun t ht => hp_te.i (by omega))) (by show hp_vi h9 40 0 0 = 0; rw [(te9 40 (by decide)).2.2.1]; exact e0) ((((ke0.tr keh).tr (by repeat' first | exact ke_.rf | refine ke_.tr ?_ (ke_.i (by decide) (by decide)) | refine ke_.tr ?_ (ke_.n (by decide) (by decide)))).tr ke9).tr (ke_.i (by decide) (by decide)))
      · rw [q.2.2.2.2.2.2.2] at c111
        exact absurd c111 (by decide)
    · first | exact absurd c123 (by decide) | exact absurd rfl c123 | exact absurd (of_decide_eq_true rfl) c123
  · have c111 : ¬ 0 ≤ ixf_ c tx_a 0 := c111
    refine v_iconstv (v := 1) 115 dX12_account_114 (by decide) rfl ?_
    refine v_goto 119 dX12_account_115 (by decide) ?_
    refine v_iconstv (v := 1) 120 dX12_account_119 (by decide) rfl ?_
    refine v_invv (d' := 0) (k' := 0) (n' := 0) (k2 := 0) (n2 := 0) 123 [_, _] dX12_account_120 mt_X12_67 mi_X12_fails me_X12_fails (by first | assumption | rfl) (by rfl) rfl rfl (of_decide_eq_true rfl) rfl (by decide) rfl rfl rfl rfl (C_f1 (by show hp_vi h9 40 0 0 = 0; rw [(te9 40 (by decide)).2.2.1]; exact e0) (by decide) ?_)
    refine v_if_eq 130 126 dX12_account_123 (by decide) rfl (fun c123 => ?_) (fun c123 => ?_)
    · first | exact absurd c123 (by decide) | exact absurd rfl c123 | exact absurd (of_decide_eq_true rfl) c123
    · refine v_iconstv (v := -1) 127 dX12_account_126 (by decide) rfl ?_
      refine v_goto 139 dX12_account_127 (by decide) ?_
      refine v_ireturn dX12_account_139 rfl ?_
      have ev : op_account S c = (1, 0) := by
        rcases X9 with q | q | q | q | q | q | q | q
        · rw [q.2] at c111
          exact absurd (by decide) c111
        · rw [q.2.2] at c111
          exact absurd (by decide) c111
        · rw [q.2.2.2] at c111
          exact absurd (by decide) c111
        · rw [q.2.2.2.2] at c111
          exact absurd (by decide) c111
        · rw [q.2.2.2.2.2] at c111
          exact absurd (by decide) c111
        · rw [q.2.2.2.2.2.2] at c111
          exact absurd (by decide) c111
        · rw [q.2.2.2.2.2.2.2] at c111
          exact absurd (by decide) c111
        · unfold op_account
          rw [if_neg q.1, if_neg q.2.1, if_neg q.2.2.1, if_neg q.2.2.2.1, if_neg q.2.2.2.2.1, if_neg q.2.2.2.2.2.1, if_neg q.2.2.2.2.2.2.1]
      rw [ev] at hq
      exact hq _ _ (fun e => absurd e (Nat.succ_ne_zero _)) (R9.te (fun t ht => hp_te.i (by omega))).th hp_seti_at (((((ke0.tr keh).tr (by repeat' first | exact ke_.rf | refine ke_.tr ?_ (ke_.i (by decide) (by decide)) | refine ke_.tr ?_ (ke_.n (by decide) (by decide)))).tr ke9).tr (ke_.i (by decide) (by decide))).tr (ke_.i (by decide) (by decide)))
