section VVR6
variable {h h' : PH}
/-- each offcut is a pair -/
def J2 (S : SP) : Prop := ∀ k, k < nn_ S 5 → hp_ln S.1 45 (S.2.2 k) = 2
theorem ke_.t71 (te : ∀ t, t ≠ 71 → hp_te h h' t) (f : fr_t h 71 → fr_t h' 71) : ke_ h h' := ⟨fun t ht => te t (by omega), fun q t a b => by
  by_cases e : t = 71
  · subst e; exact f (q 71 a b)
  · exact (q t a b).te (te t e)⟩
theorem is_I.to {i tl il c : Nat} (hI : is_I h i tl il c) (e1 : hp_vi h' 71 i = hp_vi h 71 i) (e2 : hp_vr h' 71 i = hp_vr h 71 i) (e3 : hp_vi h' tl il 0 = hp_vi h tl il 0) : is_I h' i tl il c := by
  obtain ⟨a1, a2, a3⟩ := hI
  exact ⟨by rw [e1]; exact a1, by rw [e2]; exact a2, by rw [e1, e3]; exact a3⟩
end VVR6
theorem C_it {G : GW} {h : PH} {Q : RS → PH → Prop} {tl ta n : Nat} {f : Nat → RN} (htl : tg_k tl = some (.inl 3)) (hta : tg_k ta = some (.inr g_O)) (q : q_l h tl ta n f) (Fr : fr_s h) (h71 : tl ≠ 71) (hq : ∀ i h', is_I h' i tl 0 0 → (∀ t, t ≠ 71 → hp_te h h' t) → ke_ h h' → Q (.inl (some (pv_O (71, i)))) h') : VV G 2 1 4 yJx4a65c_iterator_32c93 cJx4a65c_iterator_32c93 1 (some (.object "java/util/Iterator")) [] 0 (vv_en 1 [pv_O (tl, 0)]) [] h Q := by
  obtain ⟨g, hg⟩ := Fr 71 (by decide) (by decide)
  refine C_Jx4a65c_iterator_32c93 htl h71 (hg g (Nat.le_refl _)) (fun h' I' te' al' => hq g h' I' te' (ke_.t71 te' (fun _ => ⟨g + 1, fun j hj => ?_⟩)))
  rw [al' j (by omega)]
  exact hg j (by omega)
theorem C_hn {G : GW} {h : PH} {Q : RS → PH → Prop} {i c tl ta n : Nat} {f : Nat → RN} (htl : tg_k tl = some (.inl 3)) (hta : tg_k ta = some (.inr g_O)) (q : q_l h tl ta n f) (hI : is_I h i tl 0 c) (hc : c ≤ n) (hq1 : c < n → Q (.inl (some (pv_I 1))) h) (hq0 : c = n → Q (.inl (some (pv_I 0))) h) : VV G 0 0 0 yJx35411_hasNext_aae02 cJx35411_hasNext_aae02 1 (some .boolean) [] 0 (vv_en 1 [pv_O (71, i)]) [] h Q := by
  obtain ⟨cap, L⟩ := q
  refine C_Jx35411_hasNext_aae02 htl hta L hI hc ?_
  by_cases e : c = n
  · rw [if_pos e]; exact hq0 e
  · rw [if_neg e]; exact hq1 (by omega)
theorem C_nx {G : GW} {h : PH} {Q : RS → PH → Prop} {i c tl ta n : Nat} {f : Nat → RN} (htl : tg_k tl = some (.inl 3)) (hta : tg_k ta = some (.inr g_O)) (q : q_l h tl ta n f) (h71 : tl ≠ 71) (h72 : ta ≠ 71) (hI : is_I h i tl 0 c) (hc : c < n) (hq : ∀ h', is_I h' i tl 0 (c + 1) → (∀ t, t ≠ 71 → hp_te h h' t) → ke_ h h' → Q (.inl (some (pv_O (f c)))) h') : VV G 1 0 0 yJx35411_next_0502b cJx35411_next_0502b 3 (some (.object "java/lang/Object")) [] 0 (vv_en 3 [pv_O (71, i)]) [] h Q := by
  obtain ⟨cap, L⟩ := q
  refine C_Jx35411_next_0502b htl hta L h71 h72 hI hc (fun h' I' te' al' => hq h' I' te' (ke_.t71 te' (fun ⟨g, hg⟩ => ⟨g, fun j hj => ?_⟩)))
  rw [al' j]
  exact hg j hj
set_option maxRecDepth 20000 in
theorem L_X12_offcuts {G : GW} {h0 : PH} {Q : RS → PH → Prop} {S : SP} {N : Nat} (I : Iv S N) (J : J2 S) {w : Int32} {it : Nat} (hq : ∀ h', Rp2 S h' → ke_ h0 h' → Q (.inl (some (pv_I (nI (oc_ S w (nn_ S 5)))))) h') : ∀ fuel : Nat, ∀ (k : Nat) (z4 : Option PV) (h : PH), k ≤ nn_ S 5 → nn_ S 5 - k < fuel → Rp2 S h → is_I h it 54 0 k → ke_ h0 h → VV G 2 0 0 yX12_offcuts cX12_offcuts 5 (some .int) [] 16 [some (pv_O (40, 0)), some (pv_I w), some (pv_I (nI (oc_ S w k))), some (pv_O (71, it)), z4] [] h Q := by
  intro fuel
  induction fuel with
  | zero =>
    intro k z4 h h1 h2
    omega
  | succ fuel ih =>
    intro k zz4 h hk h2 R hI keh
    refine v_aload_n 17 dX12_offcuts_16 rfl rfl ?_
    refine v_invf (z := ("java/util/ArrayList$Itr", TJx35411, 4)) (d' := 0) (k' := 0) (n' := 0) (k2 := 0) (n2 := 0) 22 [] dX12_offcuts_17 mf_X12_292 md_Jx35411_hasNext_aae02 mi_Jx35411_hasNext_aae02 se_Jx35411_hasNext_aae02 (by simp [g_fw]; rfl) ⟨by decide, by decide +kernel⟩ (by first | assumption | rfl) (by rfl) rfl rfl (of_decide_eq_true rfl) rfl (by decide) rfl rfl rfl rfl (C_hn (tl := 54) (ta := 60) rfl rfl R.2.1.2.2.2.2.1 hI hk (fun g => ?_) (fun g => ?_))
    · refine v_if_eq 55 25 dX12_offcuts_22 (by decide) rfl (fun c22 => ?_) (fun c22 => ?_)
      · first | exact absurd c22 (by decide) | exact absurd rfl c22 | exact absurd (of_decide_eq_true rfl) c22
      · refine v_aload_n 26 dX12_offcuts_25 rfl rfl ?_
        refine v_invf (z := ("java/util/ArrayList$Itr", TJx35411, 4)) (d' := 1) (k' := 0) (n' := 0) (k2 := 0) (n2 := 0) 31 [] dX12_offcuts_26 mf_X12_298 md_Jx35411_next_0502b mi_Jx35411_next_0502b se_Jx35411_next_0502b (by simp [g_fw]; rfl) ⟨by decide, by decide +kernel⟩ (by first | assumption | rfl) (by rfl) rfl rfl (of_decide_eq_true rfl) rfl (by decide) rfl rfl rfl rfl (C_nx (tl := 54) (ta := 60) rfl rfl R.2.1.2.2.2.2.1 (by decide) (by decide) hI g (fun h2 I2 te2 ke2 => ?_))
        have R2 : Rp2 S h2 := R.te (fun t ht => te2 t (by omega))
        refine v_castI 34 dX12_offcuts_31 rfl cl_X12_359 rfl ?_
        refine v_astore 36 dX12_offcuts_34 (by decide) rfl rfl ?_
        dsimp only [List.set]
        refine v_iload_n 37 dX12_offcuts_36 rfl rfl ?_
        refine v_aload 39 dX12_offcuts_37 rfl rfl ?_
        refine v_iconstv (v := 0) 40 dX12_offcuts_39 (by decide) rfl ?_
        refine v_iald 41 dX12_offcuts_40 (by first | assumption | rfl) (by rw [R2.ln (t := 45) (by decide), J k g]; exact in_nI (m := 0) (by decide) (by decide)) rfl ?_
        rw [R2.vi (t := 45) (by decide), show Int32.toNatClampNeg 0 = 0 from rfl]
        refine v_iload_n 42 dX12_offcuts_41 rfl rfl ?_
        refine v_icmp_ne 49 45 dX12_offcuts_42 (by decide) rfl (fun c42 => ?_) (fun c42 => ?_)
        · refine v_iconstv (v := 0) 50 dX12_offcuts_49 (by decide) rfl ?_
          refine v_iadd 51 dX12_offcuts_50 rfl ?_
          refine v_istore_n 52 dX12_offcuts_51 (by decide) rfl rfl ?_
          dsimp only [List.set]
          refine v_goto 16 dX12_offcuts_52 (by decide) ?_
          rw [show nI (oc_ S w k) + 0 = nI (oc_ S w (k + 1)) from by rw [Int32.add_zero]; show _ = nI (oc_ S w k + (if hp_vi S.1 45 (S.2.2 k) 0 = w then 1 else 0)); rw [if_neg c42]; rfl]
          exact ih (k + 1) _ _ (by omega) (by omega) R2 I2 (keh.tr ke2)
        · refine v_iconstv (v := 1) 46 dX12_offcuts_45 (by decide) rfl ?_
          refine v_goto 50 dX12_offcuts_46 (by decide) ?_
          refine v_iadd 51 dX12_offcuts_50 rfl ?_
          refine v_istore_n 52 dX12_offcuts_51 (by decide) rfl rfl ?_
          dsimp only [List.set]
          refine v_goto 16 dX12_offcuts_52 (by decide) ?_
          rw [show nI (oc_ S w k) + 1 = nI (oc_ S w (k + 1)) from by rw [nI_1]; show _ = nI (oc_ S w k + (if hp_vi S.1 45 (S.2.2 k) 0 = w then 1 else 0)); rw [if_pos c42]]
          exact ih (k + 1) _ _ (by omega) (by omega) R2 I2 (keh.tr ke2)
    · refine v_if_eq 55 25 dX12_offcuts_22 (by decide) rfl (fun c22 => ?_) (fun c22 => ?_)
      · refine v_iload_n 56 dX12_offcuts_55 rfl rfl ?_
        refine v_ireturn dX12_offcuts_56 rfl ?_
        subst g
        exact hq _ R keh
      · first | exact absurd c22 (by decide) | exact absurd rfl c22 | exact absurd (of_decide_eq_true rfl) c22
set_option maxRecDepth 20000 in
theorem C_X12_offcuts {G : GW} {h : PH} {Q : RS → PH → Prop} {S : SP} {N : Nat} (R : Rp2 S h) (I : Iv S N) (J : J2 S) (Fr : fr_s h) {w : Int32} (hq : ∀ h', Rp2 S h' → ke_ h h' → Q (.inl (some (pv_I (nI (oc_ S w (nn_ S 5)))))) h') : VV G 9 1 4 yX12_offcuts cX12_offcuts 5 (some .int) [] 0 (vv_en 5 [pv_O (40, 0), pv_I w]) [] h Q := by
  show VV G 9 1 4 yX12_offcuts cX12_offcuts 5 (some .int) [] 0 [some (pv_O (40, 0)), some (pv_I w), none, none, none] [] h Q
  refine v_aload_n 1 dX12_offcuts_0 rfl rfl ?_
  refine v_invv (d' := 0) (k' := 0) (n' := 0) (k2 := 1) (n2 := 4) 4 [] dX12_offcuts_1 mt_X12_48 mi_X12_begins me_X12_begins (by first | assumption | rfl) (by rfl) rfl rfl (of_decide_eq_true rfl) rfl (by decide) rfl rfl rfl rfl (C2_begins R (fun h0 R e0 ke0 => ?_))
  have Fr := ke0.2 Fr
  refine v_iconstv (v := 0) 5 dX12_offcuts_4 (by decide) rfl ?_
  refine v_istore_n 6 dX12_offcuts_5 (by decide) rfl rfl ?_
  dsimp only [List.set]
  refine v_aload_n 7 dX12_offcuts_6 rfl rfl ?_
  refine v_getfr 10 dX12_offcuts_7 fl_X12_25 (by first | assumption | rfl) (by rfl) rfl ?_
  rw [R.1.1.2.2.2.2.2.1]
  refine v_invf (z := ("java/util/ArrayList", TJx4a65c, 3)) (d' := 2) (k' := 1) (n' := 4) (k2 := 0) (n2 := 0) 15 [] dX12_offcuts_10 mf_X12_288 md_Jx4a65c_iterator_32c93 mi_Jx4a65c_iterator_32c93 se_Jx4a65c_iterator_32c93 (by simp [g_fw]; rfl) ⟨by decide, by decide +kernel⟩ (by first | assumption | rfl) (by rfl) rfl rfl (of_decide_eq_true rfl) rfl (by decide) rfl rfl rfl rfl (C_it (tl := 54) (ta := 60) rfl rfl R.2.1.2.2.2.2.1 Fr (by decide) (fun i1 h1 I1 te1 ke1 => ?_))
  have R1 : Rp2 S h1 := R.te (fun t ht => te1 t (by omega))
  refine v_astore_n 16 dX12_offcuts_15 (by decide) rfl rfl ?_
  dsimp only [List.set]
  exact VV.less (by decide) (by decide) (by decide) (L_X12_offcuts I J hq _ 0 _ _ (Nat.zero_le _) (Nat.lt_succ_self _) R1 I1 (ke0.tr ke1))
set_option maxRecDepth 20000 in
theorem L_X12_burnt {G : GW} {h : PH} {Q : RS → PH → Prop} {S : SP} {p : Nat} {x : Int32} (R : Rp2 S h) (hl : hp_ln S.1 64 p = 8) (hq : Q (.inl (some (pv_I (nI (s_bu S p 8))))) h) : ∀ fuel : Nat, ∀ (k : Nat) (z6 : Option PV), k ≤ 8 → 8 - k < fuel → VV G 0 0 0 yX12_burnt cX12_burnt 7 (some .int) [] 40 [some (pv_O (40, 0)), some (pv_I x), some (pv_I (nI (s_bu S p k))), some (pv_O (64, p)), some (pv_I (nI 8)), some (pv_I (nI k)), z6] [] h Q := by
  intro fuel
  induction fuel with
  | zero =>
    intro k z6 h1 h2
    omega
  | succ fuel ih =>
    intro k zz6 h1 h2
    refine v_iload 42 dX12_burnt_40 rfl rfl ?_
    refine v_iload 44 dX12_burnt_42 rfl rfl ?_
    refine v_icmp_ge 74 47 dX12_burnt_44 (by decide) rfl (fun c44 => ?_) (fun c44 => ?_)
    · have hkm : k = 8 := by
        rcases Nat.lt_or_ge k 8 with q | q
        · exact absurd c44 (nI_ge q (by omega))
        · omega
      subst hkm
      refine v_iload_n 75 dX12_burnt_74 rfl rfl ?_
      refine v_ireturn dX12_burnt_75 rfl ?_
      exact hq
    · have hkm : k < 8 := by
        rcases Nat.lt_or_ge k 8 with q | q
        · exact q
        · exact absurd (nI_le q (by omega)) c44
      refine v_aload_n 48 dX12_burnt_47 rfl rfl ?_
      refine v_iload 50 dX12_burnt_48 rfl rfl ?_
      refine v_iald 51 dX12_burnt_50 (by first | assumption | rfl) (by rw [R.ln (t := 64) (by decide), hl]; exact in_nI hkm (by omega)) rfl ?_
      rw [nI_clamp (by omega), R.vi (t := 64) (by decide)]
      refine v_istore 53 dX12_burnt_51 (by decide) rfl rfl ?_
      dsimp only [List.set]
      refine v_iload_n 54 dX12_burnt_53 rfl rfl ?_
      refine v_iload 56 dX12_burnt_54 rfl rfl ?_
      refine v_bipushv (v := 90) 58 dX12_burnt_56 (by decide) rfl ?_
      refine v_icmp_le 65 61 dX12_burnt_58 (by decide) rfl (fun c58 => ?_) (fun c58 => ?_)
      · refine v_iconstv (v := 0) 66 dX12_burnt_65 (by decide) rfl ?_
        refine v_iadd 67 dX12_burnt_66 rfl ?_
        refine v_istore_n 68 dX12_burnt_67 (by decide) rfl rfl ?_
        dsimp only [List.set]
        refine v_iinc 71 dX12_burnt_68 rfl (by decide) rfl rfl ?_
        dsimp only [List.set]
        refine v_goto 40 dX12_burnt_71 (by decide) ?_
        rw [show nI k + Int32.ofInt 1 = nI (k + 1) from nI_1 k, show nI (s_bu S p k) + 0 = nI (s_bu S p (k + 1)) from by rw [Int32.add_zero]; show _ = nI (s_bu S p k + (if 90 < hp_vi S.1 64 p k then 1 else 0)); rw [if_neg (Int32.not_lt.mpr c58)]; rfl]
        exact ih (k + 1) _ (by omega) (by omega)
      · refine v_iconstv (v := 1) 62 dX12_burnt_61 (by decide) rfl ?_
        refine v_goto 66 dX12_burnt_62 (by decide) ?_
        refine v_iadd 67 dX12_burnt_66 rfl ?_
        refine v_istore_n 68 dX12_burnt_67 (by decide) rfl rfl ?_
        dsimp only [List.set]
        refine v_iinc 71 dX12_burnt_68 rfl (by decide) rfl rfl ?_
        dsimp only [List.set]
        refine v_goto 40 dX12_burnt_71 (by decide) ?_
        rw [show nI k + Int32.ofInt 1 = nI (k + 1) from nI_1 k, show nI (s_bu S p k) + 1 = nI (s_bu S p (k + 1)) from by rw [nI_1]; show _ = nI (s_bu S p k + (if 90 < hp_vi S.1 64 p k then 1 else 0)); rw [if_pos (Int32.not_le.mp c58)]]
        exact ih (k + 1) _ (by omega) (by omega)
set_option maxRecDepth 20000 in
theorem C_X12_burnt {G : GW} {h : PH} {Q : RS → PH → Prop} {S : SP} {N : Nat} (R : Rp2 S h) (I : Iv S N) {x : Int32} (hq : ∀ v h', ((op_burnt S x).1 = 0 → v = (op_burnt S x).2) → Rp2 S h' → hp_vi h' 40 0 0 = nI (op_burnt S x).1 → ke_ h h' → Q (.inl (some (pv_I v))) h') : VV G 9 0 0 yX12_burnt cX12_burnt 7 (some .int) [] 0 (vv_en 7 [pv_O (40, 0), pv_I x]) [] h Q := by
  show VV G 9 0 0 yX12_burnt cX12_burnt 7 (some .int) [] 0 [some (pv_O (40, 0)), some (pv_I x), none, none, none, none, none] [] h Q
  obtain ⟨z0, z1, z2, z3, z4, z5⟩ := I.cs
  refine v_aload_n 1 dX12_burnt_0 rfl rfl ?_
  refine v_invv (d' := 0) (k' := 0) (n' := 0) (k2 := 0) (n2 := 0) 4 [] dX12_burnt_1 mt_X12_48 mi_X12_begins me_X12_begins (by first | assumption | rfl) (by rfl) rfl rfl (of_decide_eq_true rfl) rfl (by decide) rfl rfl rfl rfl (C2_begins R (fun h0 R e0 ke0 => ?_))
  refine v_aload_n 5 dX12_burnt_4 rfl rfl ?_
  refine v_iload_n 6 dX12_burnt_5 rfl rfl ?_
  refine v_invv (d' := 4) (k' := 0) (n' := 0) (k2 := 0) (n2 := 0) 9 [_] dX12_burnt_6 mt_X12_307 mi_X12_noPicture me_X12_noPicture (by first | assumption | rfl) (by rfl) rfl rfl (of_decide_eq_true rfl) rfl (by decide) rfl rfl rfl rfl (C_X12_noPicture R e0 (fun a6 => ?_) (fun b6 => ?_))
  · have hc := a6.cl (by omega)
    obtain ⟨⟨i1, i2, i3, i4, i5, i6, i7⟩, -⟩ := I.2.2.2.2.1 _ hc.1
    refine v_if_eq 14 12 dX12_burnt_9 (by decide) rfl (fun c9 => ?_) (fun c9 => ?_)
    · refine v_iconstv (v := 0) 15 dX12_burnt_14 (by decide) rfl ?_
      refine v_istore_n 16 dX12_burnt_15 (by decide) rfl rfl ?_
      dsimp only [List.set]
      refine v_aload_n 17 dX12_burnt_16 rfl rfl ?_
      refine v_getfr 20 dX12_burnt_17 fl_X12_32 (by first | assumption | rfl) (by rfl) rfl ?_
      rw [R.1.1.2.2.2.2.2.2]
      refine v_iload_n 21 dX12_burnt_20 rfl rfl ?_
      refine v_invf (z := ("java/util/ArrayList", TJx4a65c, 3)) (d' := 2) (k' := 0) (n' := 0) (k2 := 0) (n2 := 0) 26 [_] dX12_burnt_21 mf_X12_90 md_Jx4a65c_get_915e3 mi_Jx4a65c_get_915e3 se_Jx4a65c_get_915e3 (by simp [g_fw]; rfl) ⟨by decide, by decide +kernel⟩ (by first | assumption | rfl) (by rfl) rfl rfl (of_decide_eq_true rfl) rfl (by decide) rfl rfl rfl rfl (C_gt (tl := 55) (ta := 61) rfl rfl R.2.1.2.2.2.2.2 (by assumption) ?_)
      refine v_cast 29 dX12_burnt_26 ⟨_, _, rfl, rfl, cl_X12_304⟩ rfl ?_
      refine v_getfr 32 dX12_burnt_29 fl_X12_351 (by first | assumption | rfl) (by rfl) rfl ?_
      rw [R.vr (t := 44) (by decide), i5]
      refine v_astore_n 33 dX12_burnt_32 (by decide) rfl rfl ?_
      dsimp only [List.set]
      refine v_aload_n 34 dX12_burnt_33 rfl rfl ?_
      refine v_alen 35 dX12_burnt_34 (by first | assumption | rfl) (by simp [g_tys]) rfl ?_
      rw [R.ln (t := 64) (by decide), i7]
      refine v_istore 37 dX12_burnt_35 (by decide) rfl rfl ?_
      dsimp only [List.set]
      refine v_iconstv (v := 0) 38 dX12_burnt_37 (by decide) rfl ?_
      refine v_istore 40 dX12_burnt_38 (by decide) rfl rfl ?_
      dsimp only [List.set]
      have ev : op_burnt S x = (0, nI (s_bu S (cl_ x) 8)) := by unfold op_burnt; rw [if_pos a6]
      rw [ev] at hq
      exact VV.less (by decide) (by decide) (by decide) (L_X12_burnt R i7 (hq _ _ (fun _ => rfl) R e0 ke0) 9 0 _ (Nat.zero_le _) (by omega))
    · first | exact absurd c9 (by decide) | exact absurd rfl c9 | exact absurd (of_decide_eq_true rfl) c9
  · refine v_if_eq 14 12 dX12_burnt_9 (by decide) rfl (fun c9 => ?_) (fun c9 => ?_)
    · first | exact absurd c9 (by decide) | exact absurd rfl c9 | exact absurd (of_decide_eq_true rfl) c9
    · refine v_iconstv (v := -1) 13 dX12_burnt_12 (by decide) rfl ?_
      refine v_ireturn dX12_burnt_13 rfl ?_
      have ev : op_burnt S x = (1, 0) := by unfold op_burnt; simp only [b6, ↓reduceIte, and_self, and_true, true_and, and_false, false_and, not_true_eq_false, not_false_eq_true]
      rw [ev] at hq
      exact hq _ _ (fun e => absurd e (Nat.succ_ne_zero _)) R.th hp_seti_at (ke0.tr (ke_.i (by decide) (by decide)))
theorem fd_ {x : Int32} (h0 : 0 ≤ x ∧ x ≤ 65535) : (97 ≤ x ∧ x ≤ 104) ↔ (0 ≤ x - 97 ∧ x - 97 ≤ 7) := by
  obtain ⟨j, h1, h2, rfl⟩ := a_nat (lo := 0) (hi := 65535) h0 (by decide) (by decide)
  rw [Int32.le_iff_toInt_le, Int32.le_iff_toInt_le, Int32.le_iff_toInt_le, Int32.le_iff_toInt_le, show nI j - 97 = nI j - nI 97 from rfl, pk_sub_toInt (by omega) (by omega), nI_toInt (by omega)]
  have e1 : (97 : Int32).toInt = 97 := rfl
  have e2 : (104 : Int32).toInt = 104 := rfl
  have e3 : (0 : Int32).toInt = 0 := rfl
  have e4 : (7 : Int32).toInt = 7 := rfl
  omega
theorem i8n {x : Int32} (h : 0 ≤ x ∧ x ≤ 7) : vp_in x 8 ∧ nI (cl_ x) = x ∧ cl_ x < 8 := by
  obtain ⟨j, hj, rfl⟩ := i8_ h
  unfold cl_
  rw [nI_clamp (by omega)]
  exact ⟨in_nI hj (by omega), rfl, hj⟩
set_option maxRecDepth 20000 in
theorem C_X12_sand {G : GW} {h : PH} {Q : RS → PH → Prop} {S : SP} {N : Nat} (R : Rp2 S h) (I : Iv S N) {x fd dg sc : Int32} (hfd : 0 ≤ fd ∧ fd ≤ 65535) (hq : ∀ v h', ((op_sand S x fd dg sc).1 = 0 → v = (op_sand S x fd dg sc).2.1) → Rp2 (op_sand S x fd dg sc).2.2 h' → hp_vi h' 40 0 0 = nI (op_sand S x fd dg sc).1 → ke_ h h' → Q (.inl (some (pv_I v))) h') : VV G 9 0 0 yX12_sand cX12_sand 6 (some .int) [] 0 (vv_en 6 [pv_O (40, 0), pv_I x, pv_I fd, pv_I dg, pv_I sc]) [] h Q := by
  show VV G 9 0 0 yX12_sand cX12_sand 6 (some .int) [] 0 [some (pv_O (40, 0)), some (pv_I x), some (pv_I fd), some (pv_I dg), some (pv_I sc), none] [] h Q
  obtain ⟨z0, z1, z2, z3, z4, z5⟩ := I.cs
  refine v_aload_n 1 dX12_sand_0 rfl rfl ?_
  refine v_invv (d' := 0) (k' := 0) (n' := 0) (k2 := 0) (n2 := 0) 4 [] dX12_sand_1 mt_X12_48 mi_X12_begins me_X12_begins (by first | assumption | rfl) (by rfl) rfl rfl (of_decide_eq_true rfl) rfl (by decide) rfl rfl rfl rfl (C2_begins R (fun h0 R e0 ke0 => ?_))
  refine v_aload_n 5 dX12_sand_4 rfl rfl ?_
  refine v_iload_n 6 dX12_sand_5 rfl rfl ?_
  refine v_invv (d' := 4) (k' := 0) (n' := 0) (k2 := 0) (n2 := 0) 9 [_] dX12_sand_6 mt_X12_307 mi_X12_noPicture me_X12_noPicture (by first | assumption | rfl) (by rfl) rfl rfl (of_decide_eq_true rfl) rfl (by decide) rfl rfl rfl rfl (C_X12_noPicture R e0 (fun a6 => ?_) (fun b6 => ?_))
  · have hc := a6.cl (by omega)
    obtain ⟨⟨i1, i2, i3, i4, i5, i6, i7⟩, -⟩ := I.2.2.2.2.1 _ hc.1
    refine v_if_ne 98 12 dX12_sand_9 (by decide) rfl (fun c9 => ?_) (fun c9 => ?_)
    · first | exact absurd c9 (by decide) | exact absurd rfl c9 | exact absurd (of_decide_eq_true rfl) c9
    · refine v_aload_n 13 dX12_sand_12 rfl rfl ?_
      refine v_iload_n 14 dX12_sand_13 rfl rfl ?_
      refine v_i2l 15 dX12_sand_14 rfl ?_
      refine v_ldc2 18 dX12_sand_15 cn_X12_310 rfl rfl ?_
      refine v_ldc2 21 dX12_sand_18 cn_X12_312 rfl rfl ?_
      refine v_invs (d' := 0) (k' := 0) (n' := 0) (k2 := 0) (n2 := 0) 24 [_, _, _] dX12_sand_21 mt_X12_44 ms_X12_in rfl rfl (of_decide_eq_true rfl) rfl (by decide) rfl rfl rfl rfl (C_in2 (lo := 97) (hi := 104) rfl (by decide) (by decide) (fun a21 => ?_) (fun b21 => ?_))
      · have a99 := (fd_ hfd).mp a21
        have i8 := i8n a99
        refine v_if_eq 54 27 dX12_sand_24 (by decide) rfl (fun c24 => ?_) (fun c24 => ?_)
        · first | exact absurd c24 (by decide) | exact absurd rfl c24 | exact absurd (of_decide_eq_true rfl) c24
        · refine v_iload_n 28 dX12_sand_27 rfl rfl ?_
          refine v_i2l 29 dX12_sand_28 rfl ?_
          refine v_ldc2 32 dX12_sand_29 cn_X12_59 rfl rfl ?_
          refine v_ldc2 35 dX12_sand_32 cn_X12_349 rfl rfl ?_
          refine v_invs (d' := 0) (k' := 0) (n' := 0) (k2 := 0) (n2 := 0) 38 [_, _, _] dX12_sand_35 mt_X12_44 ms_X12_in rfl rfl (of_decide_eq_true rfl) rfl (by decide) rfl rfl rfl rfl (C_in2 (lo := 100) (hi := 300) rfl (by decide) (by decide) (fun a35 => ?_) (fun b35 => ?_))
          · refine v_if_eq 54 41 dX12_sand_38 (by decide) rfl (fun c38 => ?_) (fun c38 => ?_)
            · first | exact absurd c38 (by decide) | exact absurd rfl c38 | exact absurd (of_decide_eq_true rfl) c38
            · refine v_iload 43 dX12_sand_41 rfl rfl ?_
              refine v_i2l 44 dX12_sand_43 rfl ?_
              refine v_lconst (v := 1) 45 dX12_sand_44 (by decide) rfl ?_
              refine v_ldc2 48 dX12_sand_45 cn_X12_216 rfl rfl ?_
              refine v_invs (d' := 0) (k' := 0) (n' := 0) (k2 := 0) (n2 := 0) 51 [_, _, _] dX12_sand_48 mt_X12_44 ms_X12_in rfl rfl (of_decide_eq_true rfl) rfl (by decide) rfl rfl rfl rfl (C_in2 (lo := 1) (hi := 60) rfl (by decide) (by decide) (fun a48 => ?_) (fun b48 => ?_))
              · refine v_if_ne 58 54 dX12_sand_51 (by decide) rfl (fun c51 => ?_) (fun c51 => ?_)
                · refine v_iconstv (v := 0) 59 dX12_sand_58 (by decide) rfl ?_
                  refine v_iconstv (v := 2) 60 dX12_sand_59 (by decide) rfl ?_
                  refine v_invv (d' := 0) (k' := 0) (n' := 0) (k2 := 0) (n2 := 0) 63 [_, _] dX12_sand_60 mt_X12_67 mi_X12_fails me_X12_fails (by first | assumption | rfl) (by rfl) rfl rfl (of_decide_eq_true rfl) rfl (by decide) rfl rfl rfl rfl (C_f0 e0 ?_)
                  refine v_if_ne 98 66 dX12_sand_63 (by decide) rfl (fun c63 => ?_) (fun c63 => ?_)
                  · first | exact absurd c63 (by decide) | exact absurd rfl c63 | exact absurd (of_decide_eq_true rfl) c63
                  · refine v_aload_n 67 dX12_sand_66 rfl rfl ?_
                    refine v_aload_n 68 dX12_sand_67 rfl rfl ?_
                    refine v_getfr 71 dX12_sand_68 fl_X12_32 (by first | assumption | rfl) (by rfl) rfl ?_
                    rw [R.1.1.2.2.2.2.2.2]
                    refine v_iload_n 72 dX12_sand_71 rfl rfl ?_
                    refine v_invf (z := ("java/util/ArrayList", TJx4a65c, 3)) (d' := 2) (k' := 0) (n' := 0) (k2 := 0) (n2 := 0) 77 [_] dX12_sand_72 mf_X12_90 md_Jx4a65c_get_915e3 mi_Jx4a65c_get_915e3 se_Jx4a65c_get_915e3 (by simp [g_fw]; rfl) ⟨by decide, by decide +kernel⟩ (by first | assumption | rfl) (by rfl) rfl rfl (of_decide_eq_true rfl) rfl (by decide) rfl rfl rfl rfl (C_gt (tl := 55) (ta := 61) rfl rfl R.2.1.2.2.2.2.2 (by assumption) ?_)
                    refine v_cast 80 dX12_sand_77 ⟨_, _, rfl, rfl, cl_X12_304⟩ rfl ?_
                    refine v_getfr 83 dX12_sand_80 fl_X12_314 (by first | assumption | rfl) (by rfl) rfl ?_
                    rw [R.vr (t := 44) (by decide)]
                    refine v_ifnonnull 90 86 dX12_sand_83 (by decide) rfl (fun c83 => ?_) (fun c83 => ?_)
                    · refine v_iconstv (v := 0) 91 dX12_sand_90 (by decide) rfl ?_
                      refine v_iconstv (v := 3) 92 dX12_sand_91 (by decide) rfl ?_
                      refine v_invv (d' := 0) (k' := 0) (n' := 0) (k2 := 0) (n2 := 0) 95 [_, _] dX12_sand_92 mt_X12_67 mi_X12_fails me_X12_fails (by first | assumption | rfl) (by rfl) rfl rfl (of_decide_eq_true rfl) rfl (by decide) rfl rfl rfl rfl (C_f0 e0 ?_)
                      refine v_if_eq 100 98 dX12_sand_95 (by decide) rfl (fun c95 => ?_) (fun c95 => ?_)
                      · refine v_aload_n 101 dX12_sand_100 rfl rfl ?_
                        refine v_getfr 104 dX12_sand_101 fl_X12_32 (by first | assumption | rfl) (by rfl) rfl ?_
                        rw [R.1.1.2.2.2.2.2.2]
                        refine v_iload_n 105 dX12_sand_104 rfl rfl ?_
                        refine v_invf (z := ("java/util/ArrayList", TJx4a65c, 3)) (d' := 2) (k' := 0) (n' := 0) (k2 := 0) (n2 := 0) 110 [_] dX12_sand_105 mf_X12_90 md_Jx4a65c_get_915e3 mi_Jx4a65c_get_915e3 se_Jx4a65c_get_915e3 (by simp [g_fw]; rfl) ⟨by decide, by decide +kernel⟩ (by first | assumption | rfl) (by rfl) rfl rfl (of_decide_eq_true rfl) rfl (by decide) rfl rfl rfl rfl (C_gt (tl := 55) (ta := 61) rfl rfl R.2.1.2.2.2.2.2 (by assumption) ?_)
                        refine v_cast 113 dX12_sand_110 ⟨_, _, rfl, rfl, cl_X12_304⟩ rfl ?_
                        refine v_getfr 116 dX12_sand_113 fl_X12_351 (by first | assumption | rfl) (by rfl) rfl ?_
                        rw [R.vr (t := 44) (by decide), i5]
                        refine v_astore 118 dX12_sand_116 (by decide) rfl rfl ?_
                        dsimp only [List.set]
                        refine v_aload 120 dX12_sand_118 rfl rfl ?_
                        refine v_iload_n 121 dX12_sand_120 rfl rfl ?_
                        refine v_bipushv (v := 97) 123 dX12_sand_121 (by decide) rfl ?_
                        refine v_isub 124 dX12_sand_123 rfl ?_
                        refine v_bipushv (v := 99) 126 dX12_sand_124 (by decide) rfl ?_
                        refine v_aload 128 dX12_sand_126 rfl rfl ?_
                        refine v_iload_n 129 dX12_sand_128 rfl rfl ?_
                        refine v_bipushv (v := 97) 131 dX12_sand_129 (by decide) rfl ?_
                        refine v_isub 132 dX12_sand_131 rfl ?_
                        refine v_iald 133 dX12_sand_132 (by first | assumption | rfl) (by rw [R.ln (t := 64) (by decide), i7]; exact i8.1) rfl ?_
                        rw [R.vi (t := 64) (by decide)]
                        refine v_iload_n 134 dX12_sand_133 rfl rfl ?_
                        refine v_bipushv (v := 100) 136 dX12_sand_134 (by decide) rfl ?_
                        refine v_isub 137 dX12_sand_136 rfl ?_
                        refine v_iload 139 dX12_sand_137 rfl rfl ?_
                        refine v_imul 140 dX12_sand_139 rfl ?_
                        refine v_bipushv (v := 50) 142 dX12_sand_140 (by decide) rfl ?_
                        refine v_idiv 143 dX12_sand_142 (by decide) rfl ?_
                        refine v_iadd 144 dX12_sand_143 rfl ?_
                        refine v_min 147 dX12_sand_144 ma_X12_262 ma_s_min ma_i rfl (by decide) rfl ?_
                        refine v_iast 148 dX12_sand_147 (by first | assumption | rfl) (by first | assumption | decide) (by rw [R.ln (t := 64) (by decide), i7]; exact i8.1) rfl ?_
                        have R : Rp2 (hp_seti S.1 64 (cl_ x) (cl_ (fd - 97)) (mn 99 (hp_vi S.1 64 (cl_ x) (cl_ (fd - 97)) + (dg - 100) * sc / 50)), S.2) _ := R.i (by decide)
                        refine v_aload 150 dX12_sand_148 rfl rfl ?_
                        refine v_iload_n 151 dX12_sand_150 rfl rfl ?_
                        refine v_bipushv (v := 97) 153 dX12_sand_151 (by decide) rfl ?_
                        refine v_isub 154 dX12_sand_153 rfl ?_
                        refine v_iald 155 dX12_sand_154 (by first | assumption | rfl) (by rw [R.ln (t := 64) (by decide)]; show vp_in _ (hp_ln S.1 64 (cl_ x)); rw [i7]; exact i8.1) rfl ?_
                        rw [R.vi (t := 64) (by decide), hp_seti_at]
                        refine v_ireturn dX12_sand_155 rfl ?_
                        have ev : op_sand S x fd dg sc = (0, mn 99 (hp_vi S.1 64 (cl_ x) (cl_ (fd - 97)) + (dg - 100) * sc / 50), (hp_seti S.1 64 (cl_ x) (cl_ (fd - 97)) (mn 99 (hp_vi S.1 64 (cl_ x) (cl_ (fd - 97)) + (dg - 100) * sc / 50)), S.2)) := by unfold op_sand; simp only [eq_true a6, eq_true a21, eq_true a99, eq_true a35, eq_true a48, c83, ↓reduceIte, and_self, and_true, true_and, and_false, false_and, not_true_eq_false, not_false_eq_true]
                        rw [ev] at hq
                        exact hq _ _ (fun _ => rfl) R (by first | exact e0 | exact (hp_seti_ne (by simp)).trans e0 | (simp only [vi_i, vi_r, vi_n]; simp; exact e0)) (by repeat' first | exact ke_.rf | exact ke0 | refine ke_.tr ?_ (ke_.i (by decide) (by decide)) | refine ke_.tr ?_ (ke_.r (by decide) (by decide)) | refine ke_.tr ?_ (ke_.n (by decide) (by decide)))
                      · first | exact absurd c95 (by decide) | exact absurd rfl c95 | exact absurd (of_decide_eq_true rfl) c95
                    · refine v_iconstv (v := 1) 87 dX12_sand_86 (by decide) rfl ?_
                      refine v_goto 91 dX12_sand_87 (by decide) ?_
                      refine v_iconstv (v := 3) 92 dX12_sand_91 (by decide) rfl ?_
                      refine v_invv (d' := 0) (k' := 0) (n' := 0) (k2 := 0) (n2 := 0) 95 [_, _] dX12_sand_92 mt_X12_67 mi_X12_fails me_X12_fails (by first | assumption | rfl) (by rfl) rfl rfl (of_decide_eq_true rfl) rfl (by decide) rfl rfl rfl rfl (C_f1 e0 (by decide) ?_)
                      refine v_if_eq 100 98 dX12_sand_95 (by decide) rfl (fun c95 => ?_) (fun c95 => ?_)
                      · first | exact absurd c95 (by decide) | exact absurd rfl c95 | exact absurd (of_decide_eq_true rfl) c95
                      · refine v_iconstv (v := -1) 99 dX12_sand_98 (by decide) rfl ?_
                        refine v_ireturn dX12_sand_99 rfl ?_
                        have ev : op_sand S x fd dg sc = (3, 0, S) := by unfold op_sand; simp only [eq_true a6, eq_true a21, eq_true a99, eq_true a35, eq_true a48, c83, ↓reduceIte, and_self, and_true, true_and, and_false, false_and, not_true_eq_false, not_false_eq_true]
                        rw [ev] at hq
                        exact hq _ _ (fun e => absurd e (Nat.succ_ne_zero _)) R.th hp_seti_at (ke0.tr (ke_.i (by decide) (by decide)))
                · first | exact absurd c51 (by decide) | exact absurd rfl c51 | exact absurd (of_decide_eq_true rfl) c51
              · refine v_if_ne 58 54 dX12_sand_51 (by decide) rfl (fun c51 => ?_) (fun c51 => ?_)
                · first | exact absurd c51 (by decide) | exact absurd rfl c51 | exact absurd (of_decide_eq_true rfl) c51
                · refine v_iconstv (v := 1) 55 dX12_sand_54 (by decide) rfl ?_
                  refine v_goto 59 dX12_sand_55 (by decide) ?_
                  refine v_iconstv (v := 2) 60 dX12_sand_59 (by decide) rfl ?_
                  refine v_invv (d' := 0) (k' := 0) (n' := 0) (k2 := 0) (n2 := 0) 63 [_, _] dX12_sand_60 mt_X12_67 mi_X12_fails me_X12_fails (by first | assumption | rfl) (by rfl) rfl rfl (of_decide_eq_true rfl) rfl (by decide) rfl rfl rfl rfl (C_f1 e0 (by decide) ?_)
                  refine v_if_ne 98 66 dX12_sand_63 (by decide) rfl (fun c63 => ?_) (fun c63 => ?_)
                  · refine v_iconstv (v := -1) 99 dX12_sand_98 (by decide) rfl ?_
                    refine v_ireturn dX12_sand_99 rfl ?_
                    have ev : op_sand S x fd dg sc = (2, 0, S) := by unfold op_sand; simp only [eq_true a6, eq_true a21, eq_true a99, eq_true a35, b48, ↓reduceIte, and_self, and_true, true_and, and_false, false_and, not_true_eq_false, not_false_eq_true]
                    rw [ev] at hq
                    exact hq _ _ (fun e => absurd e (Nat.succ_ne_zero _)) R.th hp_seti_at (ke0.tr (ke_.i (by decide) (by decide)))
                  · first | exact absurd c63 (by decide) | exact absurd rfl c63 | exact absurd (of_decide_eq_true rfl) c63
          · refine v_if_eq 54 41 dX12_sand_38 (by decide) rfl (fun c38 => ?_) (fun c38 => ?_)
            · refine v_iconstv (v := 1) 55 dX12_sand_54 (by decide) rfl ?_
              refine v_goto 59 dX12_sand_55 (by decide) ?_
              refine v_iconstv (v := 2) 60 dX12_sand_59 (by decide) rfl ?_
              refine v_invv (d' := 0) (k' := 0) (n' := 0) (k2 := 0) (n2 := 0) 63 [_, _] dX12_sand_60 mt_X12_67 mi_X12_fails me_X12_fails (by first | assumption | rfl) (by rfl) rfl rfl (of_decide_eq_true rfl) rfl (by decide) rfl rfl rfl rfl (C_f1 e0 (by decide) ?_)
              refine v_if_ne 98 66 dX12_sand_63 (by decide) rfl (fun c63 => ?_) (fun c63 => ?_)
              · refine v_iconstv (v := -1) 99 dX12_sand_98 (by decide) rfl ?_
                refine v_ireturn dX12_sand_99 rfl ?_
                have ev : op_sand S x fd dg sc = (2, 0, S) := by unfold op_sand; simp only [eq_true a6, eq_true a21, eq_true a99, b35, ↓reduceIte, and_self, and_true, true_and, and_false, false_and, not_true_eq_false, not_false_eq_true]
                rw [ev] at hq
                exact hq _ _ (fun e => absurd e (Nat.succ_ne_zero _)) R.th hp_seti_at (ke0.tr (ke_.i (by decide) (by decide)))
              · first | exact absurd c63 (by decide) | exact absurd rfl c63 | exact absurd (of_decide_eq_true rfl) c63
            · first | exact absurd c38 (by decide) | exact absurd rfl c38 | exact absurd (of_decide_eq_true rfl) c38
      · have b99 : ¬ (0 ≤ fd - 97 ∧ fd - 97 ≤ 7) := fun q => b21 ((fd_ hfd).mpr q)
        refine v_if_eq 54 27 dX12_sand_24 (by decide) rfl (fun c24 => ?_) (fun c24 => ?_)
        · refine v_iconstv (v := 1) 55 dX12_sand_54 (by decide) rfl ?_
          refine v_goto 59 dX12_sand_55 (by decide) ?_
          refine v_iconstv (v := 2) 60 dX12_sand_59 (by decide) rfl ?_
          refine v_invv (d' := 0) (k' := 0) (n' := 0) (k2 := 0) (n2 := 0) 63 [_, _] dX12_sand_60 mt_X12_67 mi_X12_fails me_X12_fails (by first | assumption | rfl) (by rfl) rfl rfl (of_decide_eq_true rfl) rfl (by decide) rfl rfl rfl rfl (C_f1 e0 (by decide) ?_)
          refine v_if_ne 98 66 dX12_sand_63 (by decide) rfl (fun c63 => ?_) (fun c63 => ?_)
          · refine v_iconstv (v := -1) 99 dX12_sand_98 (by decide) rfl ?_
            refine v_ireturn dX12_sand_99 rfl ?_
            have ev : op_sand S x fd dg sc = (2, 0, S) := by unfold op_sand; simp only [eq_true a6, b21, b99, ↓reduceIte, and_self, and_true, true_and, and_false, false_and, not_true_eq_false, not_false_eq_true]
            rw [ev] at hq
            exact hq _ _ (fun e => absurd e (Nat.succ_ne_zero _)) R.th hp_seti_at (ke0.tr (ke_.i (by decide) (by decide)))
          · first | exact absurd c63 (by decide) | exact absurd rfl c63 | exact absurd (of_decide_eq_true rfl) c63
        · first | exact absurd c24 (by decide) | exact absurd rfl c24 | exact absurd (of_decide_eq_true rfl) c24
  · refine v_if_ne 98 12 dX12_sand_9 (by decide) rfl (fun c9 => ?_) (fun c9 => ?_)
    · refine v_iconstv (v := -1) 99 dX12_sand_98 (by decide) rfl ?_
      refine v_ireturn dX12_sand_99 rfl ?_
      have ev : op_sand S x fd dg sc = (1, 0, S) := by unfold op_sand; simp only [b6, ↓reduceIte, and_self, and_true, true_and, and_false, false_and, not_true_eq_false, not_false_eq_true]
      rw [ev] at hq
      exact hq _ _ (fun e => absurd e (Nat.succ_ne_zero _)) R.th hp_seti_at (ke0.tr (ke_.i (by decide) (by decide)))
    · first | exact absurd c9 (by decide) | exact absurd rfl c9 | exact absurd (of_decide_eq_true rfl) c9
/-- flat in a month -/
abbrev fm_m (S : SP) (p k : Nat) : Prop := -3 ≤ s_cu S p (mx 4 (mn 20 (hp_vi S.1 40 0 11 + g_M.getD k 0))) ∧ s_cu S p (mx 4 (mn 20 (hp_vi S.1 40 0 11 + g_M.getD k 0))) ≤ 3
/-- the first month from k on that is not flat, or -1 -/
def cq_ (S : SP) (p : Nat) : Nat → Nat → Int32
  | 0, _ => -1
  | n + 1, k => if fm_m S p k then cq_ S p n (k + 1) else nI k
theorem cq_cm (S : SP) (p : Nat) : ∀ n k, k + n ≤ 12 → (cq_ S p n k = -1 ∧ cm_ S p n k = (3, 0)) ∨ (¬ cq_ S p n k = -1 ∧ cm_ S p n k = (0, cq_ S p n k))
  | 0, k, _ => Or.inl ⟨rfl, rfl⟩
  | n + 1, k, h => by
    unfold cq_ cm_
    by_cases q : fm_m S p k
    · rw [if_pos q, if_pos q]
      exact cq_cm S p n (k + 1) (by omega)
    · rw [if_neg q, if_neg q]
      refine Or.inr ⟨fun e => ?_, rfl⟩
      have e1 := congrArg Int32.toInt e
      rw [nI_toInt (by omega)] at e1
      have e2 : (-1 : Int32).toInt = -1 := rfl
      omega
theorem m1_ (x : Int32) : x + Int32.ofInt (-1) = x - 1 := by rw [show Int32.ofInt (-1) = -1 from by decide, Int32.sub_eq_add_neg]
theorem g_m4 : (g_arr.getD 4 []).length = 12 ∧ ∀ k, k < 12 → (g_arr.getD 4 []).getD k 0 = g_M.getD k 0 := by decide +kernel
set_option maxRecDepth 20000 in
theorem L_X12_cupMonth {G : GW} {h : PH} {Q : RS → PH → Prop} {S : SP} {N : Nat} (R : Rp2 S h) (I : Iv S N) {x : Int32} (hx : ok_i x (nn_ S 2)) (e0 : hp_vi h 40 0 0 = 0) (ho9 : hp_old G h) (hq1 : cq_ S (cl_ x) 12 0 = -1 → Q (.inl (some (pv_I (-1)))) (hp_seti h 40 0 0 3)) (hq0 : ¬ cq_ S (cl_ x) 12 0 = -1 → Q (.inl (some (pv_I (cq_ S (cl_ x) 12 0)))) h) : ∀ (k : Nat) (z4 : Option PV), k ≤ 12 → VV G 9 0 0 yX12_cupMonth cX12_cupMonth 5 (some .int) [] 51 [some (pv_O (40, 0)), some (pv_I x), some (pv_I (cq_ S (cl_ x) (12 - k) k)), some (pv_I (nI k - 1)), z4] [] h Q := by
  have hc := hx.cl (by have := I.cs; omega)
  intro k
  induction k with
  | zero =>
    intro z4 hk
    refine v_iload_n 52 dX12_cupMonth_51 rfl rfl ?_
    refine v_if_lt 109 55 dX12_cupMonth_52 (by decide) rfl (fun c52 => ?_) (fun c52 => ?_)
    · refine v_aload_n 110 dX12_cupMonth_109 rfl rfl ?_
      refine v_iload_n 111 dX12_cupMonth_110 rfl rfl ?_
      refine v_iconstv (v := -1) 112 dX12_cupMonth_111 (by decide) rfl ?_
      refine v_icmp_ne 119 115 dX12_cupMonth_112 (by decide) rfl (fun c112 => ?_) (fun c112 => ?_)
      · refine v_iconstv (v := 0) 120 dX12_cupMonth_119 (by decide) rfl ?_
        refine v_iconstv (v := 3) 121 dX12_cupMonth_120 (by decide) rfl ?_
        refine v_invv (d' := 0) (k' := 0) (n' := 0) (k2 := 0) (n2 := 0) 124 [_, _] dX12_cupMonth_121 mt_X12_67 mi_X12_fails me_X12_fails (by first | assumption | rfl) (by rfl) rfl rfl (of_decide_eq_true rfl) rfl (by decide) rfl rfl rfl rfl (C_f0 e0 ?_)
        refine v_if_eq 131 127 dX12_cupMonth_124 (by decide) rfl (fun c124 => ?_) (fun c124 => ?_)
        · refine v_iload_n 132 dX12_cupMonth_131 rfl rfl ?_
          refine v_ireturn dX12_cupMonth_132 rfl ?_
          exact hq0 c112
        · first | exact absurd c124 (by decide) | exact absurd rfl c124 | exact absurd (of_decide_eq_true rfl) c124
      · refine v_iconstv (v := 1) 116 dX12_cupMonth_115 (by decide) rfl ?_
        refine v_goto 120 dX12_cupMonth_116 (by decide) ?_
        refine v_iconstv (v := 3) 121 dX12_cupMonth_120 (by decide) rfl ?_
        refine v_invv (d' := 0) (k' := 0) (n' := 0) (k2 := 0) (n2 := 0) 124 [_, _] dX12_cupMonth_121 mt_X12_67 mi_X12_fails me_X12_fails (by first | assumption | rfl) (by rfl) rfl rfl (of_decide_eq_true rfl) rfl (by decide) rfl rfl rfl rfl (C_f1 e0 (by decide) ?_)
        refine v_if_eq 131 127 dX12_cupMonth_124 (by decide) rfl (fun c124 => ?_) (fun c124 => ?_)
        · first | exact absurd c124 (by decide) | exact absurd rfl c124 | exact absurd (of_decide_eq_true rfl) c124
        · refine v_iconstv (v := -1) 128 dX12_cupMonth_127 (by decide) rfl ?_
          refine v_goto 132 dX12_cupMonth_128 (by decide) ?_
          refine v_ireturn dX12_cupMonth_132 rfl ?_
          exact hq1 c112
    · exact absurd (by decide) c52
  | succ k ih =>
    intro zz4 hk
    refine v_iload_n 52 dX12_cupMonth_51 rfl rfl ?_
    refine v_if_lt 109 55 dX12_cupMonth_52 (by decide) rfl (fun c52 => ?_) (fun c52 => ?_)
    · rw [nI_pred] at c52
      exact absurd c52 (nI_pos (by omega))
    · refine v_iconstv (v := 4) 56 dX12_cupMonth_55 (by decide) rfl ?_
      refine v_bipushv (v := 20) 58 dX12_cupMonth_56 (by decide) rfl ?_
      refine v_aload_n 59 dX12_cupMonth_58 rfl rfl ?_
      refine v_getfi 62 dX12_cupMonth_59 fl_X12_28 (by first | assumption | rfl) (by rfl) rfl ?_
      rw [R.1.2 11 (by decide) (by decide)]
      refine v_gets (z := (RX12, "YEAR", "[I", pv_O (3, 4))) 65 dX12_cupMonth_62 gs_X12_259 (by simp [g_st]) (by intro r hr; cases hr; decide) rfl ?_
      dsimp only
      refine v_iload_n 66 dX12_cupMonth_65 rfl rfl ?_
      rw [nI_pred]
      refine v_iald 67 dX12_cupMonth_66 (by first | assumption | rfl) (by rw [(ho9.2.2.2.1 4).1, g_m4.1]; exact in_nI (by omega) (by omega)) rfl ?_
      rw [nI_clamp (by omega), (ho9.2.2.2.1 4).2, g_m4.2 k (by omega)]
      refine v_iadd 68 dX12_cupMonth_67 rfl ?_
      refine v_min 71 dX12_cupMonth_68 ma_X12_262 ma_s_min ma_i rfl (by decide) rfl ?_
      refine v_max 74 dX12_cupMonth_71 ma_X12_268 ma_s_max ma_i rfl (by decide) rfl ?_
      refine v_istore 76 dX12_cupMonth_74 (by decide) rfl rfl ?_
      dsimp only [List.set]
      refine v_aload_n 77 dX12_cupMonth_76 rfl rfl ?_
      refine v_getfr 80 dX12_cupMonth_77 fl_X12_19 (by first | assumption | rfl) (by rfl) rfl ?_
      rw [R.1.1.2.2.2.1]
      refine v_iload_n 81 dX12_cupMonth_80 rfl rfl ?_
      refine v_invf (z := ("java/util/ArrayList", TJx4a65c, 3)) (d' := 2) (k' := 0) (n' := 0) (k2 := 0) (n2 := 0) 86 [_] dX12_cupMonth_81 mf_X12_90 md_Jx4a65c_get_915e3 mi_Jx4a65c_get_915e3 se_Jx4a65c_get_915e3 (by simp [g_fw]; rfl) ⟨by decide, by decide +kernel⟩ (by first | assumption | rfl) (by rfl) rfl rfl (of_decide_eq_true rfl) rfl (by decide) rfl rfl rfl rfl (C_gt (tl := 52) (ta := 58) rfl rfl R.2.1.2.2.1 (by assumption) ?_)
      refine v_cast 89 dX12_cupMonth_86 ⟨_, _, rfl, rfl, cl_X12_129⟩ rfl ?_
      refine v_iload 91 dX12_cupMonth_89 rfl rfl ?_
      refine v_invs (d' := 2) (k' := 0) (n' := 0) (k2 := 0) (n2 := 0) 94 [_, _] dX12_cupMonth_91 mt_X12_255 ms_X12_isFlat rfl rfl (of_decide_eq_true rfl) rfl (by decide) rfl rfl rfl rfl (C_X12_isFlat R I hc.1 (fun g => ?_) (fun g => ?_))
      · refine v_if_eq 101 97 dX12_cupMonth_94 (by decide) rfl (fun c94 => ?_) (fun c94 => ?_)
        · first | exact absurd c94 (by decide) | exact absurd rfl c94 | exact absurd (of_decide_eq_true rfl) c94
        · refine v_iload_n 98 dX12_cupMonth_97 rfl rfl ?_
          refine v_goto 102 dX12_cupMonth_98 (by decide) ?_
          refine v_istore_n 103 dX12_cupMonth_102 (by decide) rfl rfl ?_
          dsimp only [List.set]
          refine v_iinc 106 dX12_cupMonth_103 rfl (by decide) rfl rfl ?_
          dsimp only [List.set]
          refine v_goto 51 dX12_cupMonth_106 (by decide) ?_
          rw [m1_]
          have X := fun z => ih z (by omega)
          rw [show cq_ S (cl_ x) (12 - k) k = cq_ S (cl_ x) (12 - (k + 1)) (k + 1) from by rw [show 12 - k = (12 - (k + 1)) + 1 from by omega]; exact if_pos g] at X
          exact X _
      · refine v_if_eq 101 97 dX12_cupMonth_94 (by decide) rfl (fun c94 => ?_) (fun c94 => ?_)
        · refine v_iload_n 102 dX12_cupMonth_101 rfl rfl ?_
          refine v_istore_n 103 dX12_cupMonth_102 (by decide) rfl rfl ?_
          dsimp only [List.set]
          refine v_iinc 106 dX12_cupMonth_103 rfl (by decide) rfl rfl ?_
          dsimp only [List.set]
          refine v_goto 51 dX12_cupMonth_106 (by decide) ?_
          rw [m1_]
          have X := fun z => ih z (by omega)
          rw [show cq_ S (cl_ x) (12 - k) k = nI k from by rw [show 12 - k = (12 - (k + 1)) + 1 from by omega]; exact if_neg g] at X
          exact X _
        · first | exact absurd c94 (by decide) | exact absurd rfl c94 | exact absurd (of_decide_eq_true rfl) c94
set_option maxRecDepth 20000 in
theorem C_X12_cupMonth {G : GW} {h : PH} {Q : RS → PH → Prop} {S : SP} {N : Nat} (R : Rp2 S h) (I : Iv S N) {x : Int32} (hq : ∀ v h', ((op_cupMonth S x).1 = 0 → v = (op_cupMonth S x).2) → Rp2 S h' → hp_vi h' 40 0 0 = nI (op_cupMonth S x).1 → ke_ h h' → Q (.inl (some (pv_I v))) h') : VV G 10 0 0 yX12_cupMonth cX12_cupMonth 5 (some .int) [] 0 (vv_en 5 [pv_O (40, 0), pv_I x]) [] h Q := by
  show VV G 10 0 0 yX12_cupMonth cX12_cupMonth 5 (some .int) [] 0 [some (pv_O (40, 0)), some (pv_I x), none, none, none] [] h Q
  obtain ⟨z0, z1, z2, z3, z4, z5⟩ := I.cs
  refine v_aload_n 1 dX12_cupMonth_0 rfl rfl ?_
  refine v_invv (d' := 0) (k' := 0) (n' := 0) (k2 := 0) (n2 := 0) 4 [] dX12_cupMonth_1 mt_X12_48 mi_X12_begins me_X12_begins (by first | assumption | rfl) (by rfl) rfl rfl (of_decide_eq_true rfl) rfl (by decide) rfl rfl rfl rfl (C2_begins R (fun h0 R e0 ke0 => ?_))
  refine v_aload_n 5 dX12_cupMonth_4 rfl rfl ?_
  refine v_iload_n 6 dX12_cupMonth_5 rfl rfl ?_
  refine v_invv (d' := 4) (k' := 0) (n' := 0) (k2 := 0) (n2 := 0) 9 [_] dX12_cupMonth_6 mt_X12_171 mi_X12_noPanel me_X12_noPanel (by first | assumption | rfl) (by rfl) rfl rfl (of_decide_eq_true rfl) rfl (by decide) rfl rfl rfl rfl (C_X12_noPanel R e0 (fun a6 => ?_) (fun b6 => ?_))
  · refine v_if_ne 44 12 dX12_cupMonth_9 (by decide) rfl (fun c9 => ?_) (fun c9 => ?_)
    · first | exact absurd c9 (by decide) | exact absurd rfl c9 | exact absurd (of_decide_eq_true rfl) c9
    · refine v_aload_n 13 dX12_cupMonth_12 rfl rfl ?_
      refine v_aload_n 14 dX12_cupMonth_13 rfl rfl ?_
      refine v_getfr 17 dX12_cupMonth_14 fl_X12_19 (by first | assumption | rfl) (by rfl) rfl ?_
      rw [R.1.1.2.2.2.1]
      refine v_iload_n 18 dX12_cupMonth_17 rfl rfl ?_
      refine v_invf (z := ("java/util/ArrayList", TJx4a65c, 3)) (d' := 2) (k' := 0) (n' := 0) (k2 := 0) (n2 := 0) 23 [_] dX12_cupMonth_18 mf_X12_90 md_Jx4a65c_get_915e3 mi_Jx4a65c_get_915e3 se_Jx4a65c_get_915e3 (by simp [g_fw]; rfl) ⟨by decide, by decide +kernel⟩ (by first | assumption | rfl) (by rfl) rfl rfl (of_decide_eq_true rfl) rfl (by decide) rfl rfl rfl rfl (C_gt (tl := 52) (ta := 58) rfl rfl R.2.1.2.2.1 (by assumption) ?_)
      refine v_cast 26 dX12_cupMonth_23 ⟨_, _, rfl, rfl, cl_X12_129⟩ rfl ?_
      refine v_getfi 29 dX12_cupMonth_26 fl_X12_210 (by first | assumption | rfl) (by rfl) rfl ?_
      rw [R.vi (t := 43) (by decide)]
      refine v_if_ne 36 32 dX12_cupMonth_29 (by decide) rfl (fun c29 => ?_) (fun c29 => ?_)
      · refine v_iconstv (v := 0) 37 dX12_cupMonth_36 (by decide) rfl ?_
        refine v_iconstv (v := 2) 38 dX12_cupMonth_37 (by decide) rfl ?_
        refine v_invv (d' := 0) (k' := 0) (n' := 0) (k2 := 0) (n2 := 0) 41 [_, _] dX12_cupMonth_38 mt_X12_67 mi_X12_fails me_X12_fails (by first | assumption | rfl) (by rfl) rfl rfl (of_decide_eq_true rfl) rfl (by decide) rfl rfl rfl rfl (C_f0 e0 ?_)
        refine v_if_eq 46 44 dX12_cupMonth_41 (by decide) rfl (fun c41 => ?_) (fun c41 => ?_)
        · refine v_iconstv (v := -1) 47 dX12_cupMonth_46 (by decide) rfl ?_
          refine v_istore_n 48 dX12_cupMonth_47 (by decide) rfl rfl ?_
          dsimp only [List.set]
          refine v_bipushv (v := 11) 50 dX12_cupMonth_48 (by decide) rfl ?_
          refine v_istore_n 51 dX12_cupMonth_50 (by decide) rfl rfl ?_
          dsimp only [List.set]
          refine VV.know (fun ho9 _ _ => ?_)
          have ev : op_cupMonth S x = cm_ S (cl_ x) 12 0 := by unfold op_cupMonth; simp only [eq_true a6, c29, ↓reduceIte, and_self, and_true, true_and, and_false, false_and, not_true_eq_false, not_false_eq_true]
          rw [ev] at hq
          have q9 := cq_cm S (cl_ x) 12 0 (by decide)
          refine VV.less (by decide) (by decide) (by decide) (L_X12_cupMonth R I a6 e0 ho9 (fun w => ?_) (fun w => ?_) 12 _ (Nat.le_refl _))
          · rcases q9 with ⟨q1, q2⟩ | ⟨q1, q2⟩
            · rw [q2] at hq
              exact hq _ _ (fun e => absurd e (Nat.succ_ne_zero _)) R.th hp_seti_at (ke0.tr (ke_.i (by decide) (by decide)))
            · exact absurd w q1
          · rcases q9 with ⟨q1, q2⟩ | ⟨q1, q2⟩
            · exact absurd q1 w
            · rw [q2] at hq
              exact hq _ _ (fun _ => rfl) R e0 ke0
        · first | exact absurd c41 (by decide) | exact absurd rfl c41 | exact absurd (of_decide_eq_true rfl) c41
      · refine v_iconstv (v := 1) 33 dX12_cupMonth_32 (by decide) rfl ?_
        refine v_goto 37 dX12_cupMonth_33 (by decide) ?_
        refine v_iconstv (v := 2) 38 dX12_cupMonth_37 (by decide) rfl ?_
        refine v_invv (d' := 0) (k' := 0) (n' := 0) (k2 := 0) (n2 := 0) 41 [_, _] dX12_cupMonth_38 mt_X12_67 mi_X12_fails me_X12_fails (by first | assumption | rfl) (by rfl) rfl rfl (of_decide_eq_true rfl) rfl (by decide) rfl rfl rfl rfl (C_f1 e0 (by decide) ?_)
        refine v_if_eq 46 44 dX12_cupMonth_41 (by decide) rfl (fun c41 => ?_) (fun c41 => ?_)
        · first | exact absurd c41 (by decide) | exact absurd rfl c41 | exact absurd (of_decide_eq_true rfl) c41
        · refine v_iconstv (v := -1) 45 dX12_cupMonth_44 (by decide) rfl ?_
          refine v_ireturn dX12_cupMonth_45 rfl ?_
          have ev : op_cupMonth S x = (2, 0) := by unfold op_cupMonth; simp only [eq_true a6, c29, ↓reduceIte, and_self, and_true, true_and, and_false, false_and, not_true_eq_false, not_false_eq_true]
          rw [ev] at hq
          exact hq _ _ (fun e => absurd e (Nat.succ_ne_zero _)) R.th hp_seti_at (ke0.tr (ke_.i (by decide) (by decide)))
  · refine v_if_ne 44 12 dX12_cupMonth_9 (by decide) rfl (fun c9 => ?_) (fun c9 => ?_)
    · refine v_iconstv (v := -1) 45 dX12_cupMonth_44 (by decide) rfl ?_
      refine v_ireturn dX12_cupMonth_45 rfl ?_
      have ev : op_cupMonth S x = (1, 0) := by unfold op_cupMonth; simp only [b6, ↓reduceIte, and_self, and_true, true_and, and_false, false_and, not_true_eq_false, not_false_eq_true]
      rw [ev] at hq
      exact hq _ _ (fun e => absurd e (Nat.succ_ne_zero _)) R.th hp_seti_at (ke0.tr (ke_.i (by decide) (by decide)))
    · first | exact absurd c9 (by decide) | exact absurd rfl c9 | exact absurd (of_decide_eq_true rfl) c9
