set_option maxRecDepth 20000 in
theorem C_X10_left {G : GW} {h : PH} {Q : RS → PH → Prop} {S : SP} (R : Rp2 S h) {p : Nat} (fa : ¬ (s_fa S p).1 = 0 → s_fa S p = (46, p) ∧ hp_vr S.1 46 p 0 = (42, (hp_vr S.1 46 p 0).2)) (hq : Q (.inl (some (pv_I (s_lf S p)))) h) : VV G 1 0 0 yX10_left cX10_left 1 (some .int) [] 0 (vv_en 1 [pv_O (43, p)]) [] h Q := by
  show VV G 1 0 0 yX10_left cX10_left 1 (some .int) [] 0 [some (pv_O (43, p))] [] h Q
  unfold s_lf at hq
  refine v_aload_n 1 dX10_left_0 rfl rfl ?_
  refine v_getfr 4 dX10_left_1 fl_X10_19 (by first | assumption | rfl) (by rfl) rfl ?_
  rw [R.vr (t := 43) (by decide)]
  refine v_ifnonnull 11 7 dX10_left_4 (by decide) rfl (fun c4 => ?_) (fun c4 => ?_)
  · first | rw [if_pos c4] at hq | rw [if_neg c4] at hq | skip
    refine v_iconstv (v := 0) 12 dX10_left_11 (by decide) rfl ?_
    refine v_bipushv (v := 10) 14 dX10_left_12 (by decide) rfl ?_
    refine v_aload_n 15 dX10_left_14 rfl rfl ?_
    refine v_getfr 18 dX10_left_15 fl_X10_19 (by first | assumption | rfl) (by rfl) rfl ?_
    rw [R.vr (t := 43) (by decide), show hp_vr S.1 43 p 3 = (46, p) from (fa c4).1]
    refine v_getfr 21 dX10_left_18 fl_X10_23 (by first | assumption | rfl) (by rfl) rfl ?_
    rw [R.vr (t := 46) (by decide), (fa c4).2]
    refine v_getfi 24 dX10_left_21 fl_X10_29 (by first | assumption | rfl) (by rfl) rfl ?_
    rw [R.vi (t := 42) (by decide)]
    refine v_imul 25 dX10_left_24 rfl ?_
    refine v_aload_n 26 dX10_left_25 rfl rfl ?_
    refine v_getfi 29 dX10_left_26 fl_X10_34 (by first | assumption | rfl) (by rfl) rfl ?_
    rw [R.vi (t := 43) (by decide)]
    refine v_isub 30 dX10_left_29 rfl ?_
    refine v_max 33 dX10_left_30 ma_X10_37 ma_s_max ma_i rfl (by decide) rfl ?_
    refine v_ireturn dX10_left_33 rfl ?_
    exact hq
  · first | rw [if_pos c4] at hq | rw [if_neg c4] at hq | skip
    refine v_iconstv (v := 0) 8 dX10_left_7 (by decide) rfl ?_
    refine v_goto 33 dX10_left_8 (by decide) ?_
    refine v_ireturn dX10_left_33 rfl ?_
    exact hq
theorem Iv.fa2 {S : SP} {N : Nat} (I : Iv S N) {p : Nat} (hp : p < nn_ S 2) (w : ¬ (s_fa S p).1 = 0) : s_fa S p = (46, p) ∧ hp_vr S.1 46 p 0 = (42, (hp_vr S.1 46 p 0).2) := ⟨(I.fa hp w).1, (I.fa hp w).2.2.1⟩
def s_lv (S : SP) (p : Nat) : Int32 := (if (s_fa S p).1 = 0 then 0 else hp_vi S.1 46 p 2) + (if (s_ba S p).1 = 0 then 0 else hp_vi S.1 47 p 2)
set_option maxRecDepth 20000 in
theorem C_X10_leaves {G : GW} {h : PH} {Q : RS → PH → Prop} {S : SP} {N : Nat} (R : Rp2 S h) (I : Iv S N) {p : Nat} (hp : p < nn_ S 2) (hq : Q (.inl (some (pv_I (s_lv S p)))) h) : VV G 0 0 0 yX10_leaves cX10_leaves 1 (some .int) [] 0 (vv_en 1 [pv_O (43, p)]) [] h Q := by
  show VV G 0 0 0 yX10_leaves cX10_leaves 1 (some .int) [] 0 [some (pv_O (43, p))] [] h Q
  unfold s_lv at hq
  refine v_aload_n 1 dX10_leaves_0 rfl rfl ?_
  refine v_getfr 4 dX10_leaves_1 fl_X10_19 (by first | assumption | rfl) (by rfl) rfl ?_
  rw [R.vr (t := 43) (by decide)]
  refine v_ifnonnull 11 7 dX10_leaves_4 (by decide) rfl (fun c4 => ?_) (fun c4 => ?_)
  · first | rw [if_pos c4] at hq | rw [if_neg c4] at hq | skip
    refine v_aload_n 12 dX10_leaves_11 rfl rfl ?_
    refine v_getfr 15 dX10_leaves_12 fl_X10_19 (by first | assumption | rfl) (by rfl) rfl ?_
    rw [R.vr (t := 43) (by decide), show hp_vr S.1 43 p 3 = (46, p) from (I.fa hp c4).1]
    refine v_getfi 18 dX10_leaves_15 fl_X10_43 (by first | assumption | rfl) (by rfl) rfl ?_
    rw [R.vi (t := 46) (by decide)]
    refine v_aload_n 19 dX10_leaves_18 rfl rfl ?_
    refine v_getfr 22 dX10_leaves_19 fl_X10_46 (by first | assumption | rfl) (by rfl) rfl ?_
    rw [R.vr (t := 43) (by decide)]
    refine v_ifnonnull 29 25 dX10_leaves_22 (by decide) rfl (fun c22 => ?_) (fun c22 => ?_)
    · first | rw [if_pos c22] at hq | rw [if_neg c22] at hq | skip
      refine v_aload_n 30 dX10_leaves_29 rfl rfl ?_
      refine v_getfr 33 dX10_leaves_30 fl_X10_46 (by first | assumption | rfl) (by rfl) rfl ?_
      rw [R.vr (t := 43) (by decide), show hp_vr S.1 43 p 4 = (47, p) from (I.ba hp c22).1]
      refine v_getfi 36 dX10_leaves_33 fl_X10_43 (by first | assumption | rfl) (by rfl) rfl ?_
      rw [R.vi (t := 47) (by decide)]
      refine v_iadd 37 dX10_leaves_36 rfl ?_
      refine v_ireturn dX10_leaves_37 rfl ?_
      exact hq
    · first | rw [if_pos c22] at hq | rw [if_neg c22] at hq | skip
      refine v_iconstv (v := 0) 26 dX10_leaves_25 (by decide) rfl ?_
      refine v_goto 36 dX10_leaves_26 (by decide) ?_
      refine v_iadd 37 dX10_leaves_36 rfl ?_
      refine v_ireturn dX10_leaves_37 rfl ?_
      exact hq
  · first | rw [if_pos c4] at hq | rw [if_neg c4] at hq | skip
    refine v_iconstv (v := 0) 8 dX10_leaves_7 (by decide) rfl ?_
    refine v_goto 18 dX10_leaves_8 (by decide) ?_
    refine v_aload_n 19 dX10_leaves_18 rfl rfl ?_
    refine v_getfr 22 dX10_leaves_19 fl_X10_46 (by first | assumption | rfl) (by rfl) rfl ?_
    rw [R.vr (t := 43) (by decide)]
    refine v_ifnonnull 29 25 dX10_leaves_22 (by decide) rfl (fun c22 => ?_) (fun c22 => ?_)
    · first | rw [if_pos c22] at hq | rw [if_neg c22] at hq | skip
      refine v_aload_n 30 dX10_leaves_29 rfl rfl ?_
      refine v_getfr 33 dX10_leaves_30 fl_X10_46 (by first | assumption | rfl) (by rfl) rfl ?_
      rw [R.vr (t := 43) (by decide), show hp_vr S.1 43 p 4 = (47, p) from (I.ba hp c22).1]
      refine v_getfi 36 dX10_leaves_33 fl_X10_43 (by first | assumption | rfl) (by rfl) rfl ?_
      rw [R.vi (t := 47) (by decide)]
      refine v_iadd 37 dX10_leaves_36 rfl ?_
      refine v_ireturn dX10_leaves_37 rfl ?_
      exact hq
    · first | rw [if_pos c22] at hq | rw [if_neg c22] at hq | skip
      refine v_iconstv (v := 0) 26 dX10_leaves_25 (by decide) rfl ?_
      refine v_goto 36 dX10_leaves_26 (by decide) ?_
      refine v_iadd 37 dX10_leaves_36 rfl ?_
      refine v_ireturn dX10_leaves_37 rfl ?_
      exact hq
set_option maxRecDepth 20000 in
theorem C_X12_strip {G : GW} {h : PH} {Q : RS → PH → Prop} {S : SP} {p : Nat} {m : Int32} (T3 : hp_te S.1 h 43) (hm : 0 < m) (hq : Q (.inl (some (pv_I (s_st S p m)))) h) : VV G 0 0 0 yX12_strip cX12_strip 2 (some .int) [] 0 (vv_en 2 [pv_O (43, p), pv_I m]) [] h Q := by
  show VV G 0 0 0 yX12_strip cX12_strip 2 (some .int) [] 0 [some (pv_O (43, p)), some (pv_I m)] [] h Q
  refine v_aload_n 1 dX12_strip_0 rfl rfl ?_
  refine v_getfi 4 dX12_strip_1 fl_X12_140 (by first | assumption | rfl) (by rfl) rfl ?_
  rw [T3.2.2.1]
  refine v_iload_n 5 dX12_strip_4 rfl rfl ?_
  refine v_iadd 6 dX12_strip_5 rfl ?_
  refine v_iconstv (v := 1) 7 dX12_strip_6 (by decide) rfl ?_
  refine v_isub 8 dX12_strip_7 rfl ?_
  refine v_iload_n 9 dX12_strip_8 rfl rfl ?_
  refine v_idiv 10 dX12_strip_9 (fun e => by rw [e] at hm; exact absurd hm (by decide)) rfl ?_
  refine v_ireturn dX12_strip_10 rfl ?_
  exact hq
/-- a face can lie, as far as k leaves tell -/
def cw_ (S : SP) (p f a m k : Nat) : Prop := hp_vi S.1 43 p 1 ≤ hp_vi S.1 41 (s_lg S f) 2 ∧ fr_ok S f a k (s_st S p (nI m))
set_option maxRecDepth 20000 in
theorem L_X12_canLie {G : GW} {h : PH} {Q : RS → PH → Prop} {S : SP} {N : Nat} (T1 : hp_te S.1 h 41) (T2 : hp_te S.1 h 42) (T3 : hp_te S.1 h 43) (T4 : hp_te S.1 h 62) (I : Iv S N) {f : Nat} (hf : f < nn_ S 1) {p a m : Nat} (ham : a + m ≤ s_n S f) (hm : 1 ≤ m) (hq1 : cv_ S p f a m → Q (.inl (some (pv_I 1))) h) (hq0 : ¬ cv_ S p f a m → Q (.inl (some (pv_I 0))) h) : ∀ fuel : Nat, ∀ (j : Nat) (c : Int32), j ≤ m → m - j < fuel → ((c = 1 ∧ cw_ S p f a m j) ∨ (c = 0 ∧ ¬ cw_ S p f a m j)) → VV G 2 0 0 yX12_canLie cX12_canLie 6 (some .boolean) [] 24 [some (pv_O (43, p)), some (pv_O (42, f)), some (pv_I (nI a)), some (pv_I (nI m)), some (pv_I c), some (pv_I (nI (a + j)))] [] h Q := by
  intro fuel
  induction fuel with
  | zero =>
    intro j c h1 h2
    omega
  | succ fuel ih =>
    intro j c h1 h2 hc
    have h24 := I.n24 hf
    refine v_iload 26 dX12_canLie_24 rfl rfl ?_
    refine v_iload_n 27 dX12_canLie_26 rfl rfl ?_
    refine v_iload_n 28 dX12_canLie_27 rfl rfl ?_
    refine v_iadd 29 dX12_canLie_28 rfl ?_
    rw [nI_add]
    refine v_icmp_ge 74 32 dX12_canLie_29 (by decide) rfl (fun c29 => ?_) (fun c29 => ?_)
    · have hkm : j = m := by
        rcases Nat.lt_or_ge (a + j) (a + m) with q | q
        · exact absurd c29 (nI_ge q (by omega))
        · omega
      subst hkm
      refine v_iload 76 dX12_canLie_74 rfl rfl ?_
      rcases hc with ⟨rfl, w⟩ | ⟨rfl, w⟩
      · exact v_zreturn (ty := .boolean) rfl dX12_canLie_76 rfl (hq1 w)
      refine v_zreturn (ty := .boolean) rfl dX12_canLie_76 rfl ?_
      exact hq0 w
    · have hkm : j < m := by
        rcases Nat.lt_or_ge (a + j) (a + m) with q | q
        · omega
        · exact absurd (nI_le q (by omega)) c29
      refine v_iload 34 dX12_canLie_32 rfl rfl ?_
      refine v_if_eq 65 37 dX12_canLie_34 (by decide) rfl (fun c34 => ?_) (fun c34 => ?_)
      · have w : ¬ cw_ S p f a m j := by
          rcases hc with ⟨rfl, w⟩ | ⟨rfl, w⟩
          · exact absurd c34 (by decide)
          · exact w
        refine v_iconstv (v := 0) 66 dX12_canLie_65 (by decide) rfl ?_
        refine v_istore 68 dX12_canLie_66 (by decide) rfl rfl ?_
        dsimp only [List.set]
        refine v_iinc 71 dX12_canLie_68 rfl (by decide) rfl rfl ?_
        dsimp only [List.set]
        refine v_goto 24 dX12_canLie_71 (by decide) ?_
        rw [show nI (a + j) + Int32.ofInt 1 = nI (a + (j + 1)) from nI_1 (a + j)]
        exact ih (j + 1) _ (by omega) (by omega) (Or.inr ⟨rfl, fun q => w ⟨q.1, fun k hk => q.2 k (by omega)⟩⟩)
      · have w : cw_ S p f a m j := by
          rcases hc with ⟨rfl, w⟩ | ⟨rfl, w⟩
          · exact w
          · exact absurd rfl c34
        refine v_aload_n 38 dX12_canLie_37 rfl rfl ?_
        refine v_getfr 41 dX12_canLie_38 fl_X12_103 (by first | assumption | rfl) (by rfl) rfl ?_
        rw [T2.2.2.2.1, I.us hf]
        refine v_iload 43 dX12_canLie_41 rfl rfl ?_
        refine v_zald 44 dX12_canLie_43 (by first | assumption | rfl) (by rw [T4.2.1]; exact in_nI (c := s_n S f) (by omega) (by omega)) rfl ?_
        rw [nI_clamp (by omega), T4.2.2.1]
        refine v_if_ne 65 47 dX12_canLie_44 (by decide) rfl (fun c44 => ?_) (fun c44 => ?_)
        · refine v_iconstv (v := 0) 66 dX12_canLie_65 (by decide) rfl ?_
          refine v_istore 68 dX12_canLie_66 (by decide) rfl rfl ?_
          dsimp only [List.set]
          refine v_iinc 71 dX12_canLie_68 rfl (by decide) rfl rfl ?_
          dsimp only [List.set]
          refine v_goto 24 dX12_canLie_71 (by decide) ?_
          rw [show nI (a + j) + Int32.ofInt 1 = nI (a + (j + 1)) from nI_1 (a + j)]
          exact ih (j + 1) _ (by omega) (by omega) (Or.inr ⟨rfl, fun q => c44 (q.2 j (by omega)).1⟩)
        · refine v_aload_n 48 dX12_canLie_47 rfl rfl ?_
          refine v_iload 50 dX12_canLie_48 rfl rfl ?_
          refine v_invv (d' := 1) (k' := 0) (n' := 0) (k2 := 0) (n2 := 0) 53 [_] dX12_canLie_50 mt_X12_114 mi_X7_width me_X7_width (by first | assumption | rfl) (by rfl) rfl rfl (of_decide_eq_true rfl) rfl (by decide) rfl rfl rfl rfl (C_X7_width T1 T2 I hf (by omega) ?_)
          refine v_aload_n 54 dX12_canLie_53 rfl rfl ?_
          refine v_iload_n 55 dX12_canLie_54 rfl rfl ?_
          refine v_invs (d' := 0) (k' := 0) (n' := 0) (k2 := 0) (n2 := 0) 58 [_, _] dX12_canLie_55 mt_X12_152 ms_X12_strip rfl rfl (of_decide_eq_true rfl) rfl (by decide) rfl rfl rfl rfl (C_X12_strip T3 (nI_lt (a := 0) (by omega) (by omega)) ?_)
          refine v_icmp_lt 65 61 dX12_canLie_58 (by decide) rfl (fun c58 => ?_) (fun c58 => ?_)
          · refine v_iconstv (v := 0) 66 dX12_canLie_65 (by decide) rfl ?_
            refine v_istore 68 dX12_canLie_66 (by decide) rfl rfl ?_
            dsimp only [List.set]
            refine v_iinc 71 dX12_canLie_68 rfl (by decide) rfl rfl ?_
            dsimp only [List.set]
            refine v_goto 24 dX12_canLie_71 (by decide) ?_
            rw [show nI (a + j) + Int32.ofInt 1 = nI (a + (j + 1)) from nI_1 (a + j)]
            exact ih (j + 1) _ (by omega) (by omega) (Or.inr ⟨rfl, fun q => absurd (q.2 j (by omega)).2 (Int32.not_le.mpr c58)⟩)
          · refine v_iconstv (v := 1) 62 dX12_canLie_61 (by decide) rfl ?_
            refine v_goto 66 dX12_canLie_62 (by decide) ?_
            refine v_istore 68 dX12_canLie_66 (by decide) rfl rfl ?_
            dsimp only [List.set]
            refine v_iinc 71 dX12_canLie_68 rfl (by decide) rfl rfl ?_
            dsimp only [List.set]
            refine v_goto 24 dX12_canLie_71 (by decide) ?_
            rw [show nI (a + j) + Int32.ofInt 1 = nI (a + (j + 1)) from nI_1 (a + j)]
            refine ih (j + 1) _ (by omega) (by omega) (Or.inl ⟨rfl, w.1, fun k hk => ?_⟩)
            by_cases e : k = j
            · subst e
              exact ⟨c44, Int32.not_lt.mp c58⟩
            · exact w.2 k (by omega)
set_option maxRecDepth 20000 in
theorem C_X12_canLie {G : GW} {h : PH} {Q : RS → PH → Prop} {S : SP} {N : Nat} (T1 : hp_te S.1 h 41) (T2 : hp_te S.1 h 42) (T3 : hp_te S.1 h 43) (T4 : hp_te S.1 h 62) (I : Iv S N) {f : Nat} (hf : f < nn_ S 1) {p a m : Nat} (ham : a + m ≤ s_n S f) (hm : 1 ≤ m) (hq1 : cv_ S p f a m → Q (.inl (some (pv_I 1))) h) (hq0 : ¬ cv_ S p f a m → Q (.inl (some (pv_I 0))) h) : VV G 2 0 0 yX12_canLie cX12_canLie 6 (some .boolean) [] 0 (vv_en 6 [pv_O (43, p), pv_O (42, f), pv_I (nI a), pv_I (nI m)]) [] h Q := by
  show VV G 2 0 0 yX12_canLie cX12_canLie 6 (some .boolean) [] 0 [some (pv_O (43, p)), some (pv_O (42, f)), some (pv_I (nI a)), some (pv_I (nI m)), none, none] [] h Q
  refine v_aload_n 1 dX12_canLie_0 rfl rfl ?_
  refine v_getfr 4 dX12_canLie_1 fl_X12_142 (by first | assumption | rfl) (by rfl) rfl ?_
  rw [T2.2.2.2.1, I.lg hf]
  refine v_getfi 7 dX12_canLie_4 fl_X12_146 (by first | assumption | rfl) (by rfl) rfl ?_
  rw [T1.2.2.1]
  refine v_aload_n 8 dX12_canLie_7 rfl rfl ?_
  refine v_getfi 11 dX12_canLie_8 fl_X12_149 (by first | assumption | rfl) (by rfl) rfl ?_
  rw [T3.2.2.1]
  refine v_icmp_lt 18 14 dX12_canLie_11 (by decide) rfl (fun c11 => ?_) (fun c11 => ?_)
  · refine v_iconstv (v := 0) 19 dX12_canLie_18 (by decide) rfl ?_
    refine v_istore 21 dX12_canLie_19 (by decide) rfl rfl ?_
    dsimp only [List.set]
    refine v_iload_n 22 dX12_canLie_21 rfl rfl ?_
    refine v_istore 24 dX12_canLie_22 (by decide) rfl rfl ?_
    dsimp only [List.set]
    refine L_X12_canLie T1 T2 T3 T4 I hf ham hm hq1 hq0 (m + 1) 0 _ (Nat.zero_le _) (by omega) ?_
    exact Or.inr ⟨rfl, fun q => absurd q.1 (Int32.not_le.mpr c11)⟩
  · refine v_iconstv (v := 1) 15 dX12_canLie_14 (by decide) rfl ?_
    refine v_goto 19 dX12_canLie_15 (by decide) ?_
    refine v_istore 21 dX12_canLie_19 (by decide) rfl rfl ?_
    dsimp only [List.set]
    refine v_iload_n 22 dX12_canLie_21 rfl rfl ?_
    refine v_istore 24 dX12_canLie_22 (by decide) rfl rfl ?_
    dsimp only [List.set]
    refine L_X12_canLie T1 T2 T3 T4 I hf ham hm hq1 hq0 (m + 1) 0 _ (Nat.zero_le _) (by omega) ?_
    exact Or.inl ⟨rfl, Int32.not_lt.mp c11, fun k hk => absurd hk (Nat.not_lt_zero k)⟩
theorem sw_ : ∀ w, w < 4 → (g_arr.getD 2 []).getD w 0 = wd_s (nI w) := by decide +kernel
set_option maxRecDepth 20000 in
theorem C_X12_pull {G : GW} {h : PH} {Q : RS → PH → Prop} {S : SP} {N : Nat} (R : Rp2 S h) (I : Iv S N) {rr : RN} {u p lo : Nat} {x : Int32} (hu : tg_k u = some (.inl 12)) (hu2 : 41 ≤ u ∧ u < 49) (e : ¬ rr.1 = 0 → rr = (u, p) ∧ i_pk S u p lo) (hq : Q (.inl (some (pv_I (s_pu S rr u p x)))) h) : VV G 0 0 0 yX12_pull cX12_pull 2 (some .int) [] 0 (vv_en 2 [pv_O rr, pv_I x]) [] h Q := by
  show VV G 0 0 0 yX12_pull cX12_pull 2 (some .int) [] 0 [some (pv_O rr), some (pv_I x)] [] h Q
  unfold s_pu at hq
  refine VV.know (fun ho9 _ _ => ?_)
  refine v_aload_n 1 dX12_pull_0 rfl rfl ?_
  refine v_ifnonnull 8 4 dX12_pull_1 (by decide) rfl (fun c1 => ?_) (fun c1 => ?_)
  · obtain ⟨rfl, J⟩ := e c1
    rw [if_neg c1] at hq
    obtain ⟨w, ew, hw⟩ := (I.2.1 _ (I.2.2.1 _ J.2.2.1).1.2.2.2.1).2.1
    rw [ew, ← sw_ w hw] at hq
    refine v_gets (z := (RX12, "SWELLS", "[I", pv_O (3, 2))) 11 dX12_pull_8 gs_X12_231 (by simp [g_st]) (by intro r hr; cases hr; decide) rfl ?_
    dsimp only
    refine v_aload_n 12 dX12_pull_11 rfl rfl ?_
    refine v_getfr 15 dX12_pull_12 fl_X12_164 (by first | assumption | rfl) (by rfl) rfl ?_
    rw [R.vr (t := u) (Or.inl hu2), J.2.1]
    refine v_getfr 18 dX12_pull_15 fl_X12_142 (by first | assumption | rfl) (by rfl) rfl ?_
    rw [R.vr (t := 42) (by decide), I.lg J.2.2.1]
    refine v_getfi 21 dX12_pull_18 fl_X12_235 (by first | assumption | rfl) (by rfl) rfl ?_
    rw [R.vi (t := 41) (by decide), ew]
    refine v_iald 22 dX12_pull_21 (by first | assumption | rfl) (by rw [(ho9.2.2.2.1 2).1]; exact in_nI (c := 4) (by omega) (by omega)) rfl ?_
    rw [nI_clamp (by omega), (ho9.2.2.2.1 2).2]
    refine v_aload_n 23 dX12_pull_22 rfl rfl ?_
    refine v_getfr 26 dX12_pull_23 fl_X12_164 (by first | assumption | rfl) (by rfl) rfl ?_
    rw [R.vr (t := u) (Or.inl hu2), J.2.1]
    refine v_getfi 29 dX12_pull_26 fl_X12_238 (by first | assumption | rfl) (by rfl) rfl ?_
    rw [R.vi (t := 42) (by decide)]
    refine v_imul 30 dX12_pull_29 rfl ?_
    refine v_iload_n 31 dX12_pull_30 rfl rfl ?_
    refine v_imul 32 dX12_pull_31 rfl ?_
    refine v_ireturn dX12_pull_32 rfl ?_
    exact hq
  · rw [if_pos c1] at hq
    refine v_iconstv (v := 0) 5 dX12_pull_4 (by decide) rfl ?_
    refine v_goto 32 dX12_pull_5 (by decide) ?_
    refine v_ireturn dX12_pull_32 rfl ?_
    exact hq
set_option maxRecDepth 20000 in
theorem C_X12_cupOf {G : GW} {h : PH} {Q : RS → PH → Prop} {S : SP} {N : Nat} (R : Rp2 S h) (I : Iv S N) {p : Nat} (hp : p < nn_ S 2) {x : Int32} (hq : Q (.inl (some (pv_I (s_cu S p x)))) h) : VV G 1 0 0 yX12_cupOf cX12_cupOf 3 (some .int) [] 0 (vv_en 3 [pv_O (43, p), pv_I x]) [] h Q := by
  show VV G 1 0 0 yX12_cupOf cX12_cupOf 3 (some .int) [] 0 [some (pv_O (43, p)), some (pv_I x), none] [] h Q
  have hpo := I.co hp
  unfold s_cu at hq
  refine v_iload_n 1 dX12_cupOf_0 rfl rfl ?_
  refine v_aload_n 2 dX12_cupOf_1 rfl rfl ?_
  refine v_getfi 5 dX12_cupOf_2 fl_X12_223 (by first | assumption | rfl) (by rfl) rfl ?_
  rw [R.vi (t := 43) (by decide)]
  refine v_isub 6 dX12_cupOf_5 rfl ?_
  refine v_istore_n 7 dX12_cupOf_6 (by decide) rfl rfl ?_
  dsimp only [List.set]
  refine v_bipushv (v := 10) 9 dX12_cupOf_7 (by decide) rfl ?_
  refine v_aload_n 10 dX12_cupOf_9 rfl rfl ?_
  refine v_getfr 13 dX12_cupOf_10 fl_X12_186 (by first | assumption | rfl) (by rfl) rfl ?_
  rw [R.vr (t := 43) (by decide)]
  refine v_iload_n 14 dX12_cupOf_13 rfl rfl ?_
  refine v_invs (d' := 0) (k' := 0) (n' := 0) (k2 := 0) (n2 := 0) 17 [_, _] dX12_cupOf_14 mt_X12_241 ms_X12_pull rfl rfl (of_decide_eq_true rfl) rfl (by decide) rfl rfl rfl rfl (C_X12_pull (u := 46) (p := p) R I rfl (by decide) (fun w => I.fa hp w) ?_)
  refine v_aload_n 18 dX12_cupOf_17 rfl rfl ?_
  refine v_getfr 21 dX12_cupOf_18 fl_X12_207 (by first | assumption | rfl) (by rfl) rfl ?_
  rw [R.vr (t := 43) (by decide)]
  refine v_iload_n 22 dX12_cupOf_21 rfl rfl ?_
  refine v_invs (d' := 0) (k' := 0) (n' := 0) (k2 := 0) (n2 := 0) 25 [_, _] dX12_cupOf_22 mt_X12_241 ms_X12_pull rfl rfl (of_decide_eq_true rfl) rfl (by decide) rfl rfl rfl rfl (C_X12_pull (u := 47) (p := p) R I rfl (by decide) (fun w => I.ba hp w) ?_)
  refine v_isub 26 dX12_cupOf_25 rfl ?_
  refine v_imul 27 dX12_cupOf_26 rfl ?_
  refine v_aload_n 28 dX12_cupOf_27 rfl rfl ?_
  refine v_getfi 31 dX12_cupOf_28 fl_X12_245 (by first | assumption | rfl) (by rfl) rfl ?_
  rw [R.vi (t := 43) (by decide)]
  refine v_idiv 32 dX12_cupOf_31 (fun e => by rw [e] at hpo; exact absurd hpo (by decide)) rfl ?_
  refine v_ireturn dX12_cupOf_32 rfl ?_
  exact hq
set_option maxRecDepth 20000 in
theorem C_X12_isFlat {G : GW} {h : PH} {Q : RS → PH → Prop} {S : SP} {N : Nat} (R : Rp2 S h) (I : Iv S N) {p : Nat} (hp : p < nn_ S 2) {x : Int32} (hq1 : -3 ≤ s_cu S p x ∧ s_cu S p x ≤ 3 → Q (.inl (some (pv_I 1))) h) (hq0 : ¬ (-3 ≤ s_cu S p x ∧ s_cu S p x ≤ 3) → Q (.inl (some (pv_I 0))) h) : VV G 2 0 0 yX12_isFlat cX12_isFlat 2 (some .boolean) [] 0 (vv_en 2 [pv_O (43, p), pv_I x]) [] h Q := by
  show VV G 2 0 0 yX12_isFlat cX12_isFlat 2 (some .boolean) [] 0 [some (pv_O (43, p)), some (pv_I x)] [] h Q
  refine v_aload_n 1 dX12_isFlat_0 rfl rfl ?_
  refine v_iload_n 2 dX12_isFlat_1 rfl rfl ?_
  refine v_invs (d' := 1) (k' := 0) (n' := 0) (k2 := 0) (n2 := 0) 5 [_, _] dX12_isFlat_2 mt_X12_248 ms_X12_cupOf rfl rfl (of_decide_eq_true rfl) rfl (by decide) rfl rfl rfl rfl (C_X12_cupOf R I hp ?_)
  refine v_i2l 6 dX12_isFlat_5 rfl ?_
  refine v_ldc2 9 dX12_isFlat_6 cn_X12_251 rfl rfl ?_
  refine v_ldc2 12 dX12_isFlat_9 cn_X12_253 rfl rfl ?_
  refine v_invs (d' := 0) (k' := 0) (n' := 0) (k2 := 0) (n2 := 0) 15 [_, _, _] dX12_isFlat_12 mt_X12_44 ms_X12_in rfl rfl (of_decide_eq_true rfl) rfl (by decide) rfl rfl rfl rfl (C_in2 (lo := -3) (hi := 3) rfl (by decide) (by decide) (fun a12 => ?_) (fun b12 => ?_))
  · refine v_zreturn (ty := .boolean) (by first | rfl | decide | exact nz_if | exact nz_fi) dX12_isFlat_15 rfl ?_
    exact hq1 a12
  · refine v_zreturn (ty := .boolean) (by first | rfl | decide | exact nz_if | exact nz_fi) dX12_isFlat_15 rfl ?_
    exact hq0 b12
theorem wo_eq (S : SP) (p : Nat) : s_wo S p = 2 * s_lv S p + (if (s_fa S p).1 = 0 then 0 else hp_vi S.1 43 p 0 * hp_vi S.1 43 p 1 / 10) + (if hp_vi S.1 43 p 6 = 0 then 0 else 5) + hp_vi S.1 43 p 10 - 3 * (hp_vi S.1 43 p 8 + hp_vi S.1 43 p 11) := by
  unfold s_wo s_lv
  dsimp only
  generalize hp_vi S.1 43 p 0 * hp_vi S.1 43 p 1 / 10 = z
  generalize 3 * (hp_vi S.1 43 p 8 + hp_vi S.1 43 p 11) = w
  congr 2
  by_cases q1 : (s_fa S p).1 = 0 <;> by_cases q2 : (s_ba S p).1 = 0 <;> by_cases q3 : hp_vi S.1 43 p 6 = 0 <;> simp only [q1, q2, q3, ↓reduceIte] <;> (try simp only [Int32.mul_add, Int32.mul_zero, Int32.add_zero, Int32.zero_add]) <;> (try ac_rfl)
set_option maxRecDepth 20000 in
theorem C_X12_priceOf {G : GW} {h : PH} {Q : RS → PH → Prop} {S : SP} {N : Nat} (R : Rp2 S h) (I : Iv S N) {p : Nat} (hp : p < nn_ S 2) (hq : Q (.inl (some (pv_I (s_wo S p)))) h) : VV G 1 0 0 yX12_priceOf cX12_priceOf 2 (some .int) [] 0 (vv_en 2 [pv_O (43, p)]) [] h Q := by
  show VV G 1 0 0 yX12_priceOf cX12_priceOf 2 (some .int) [] 0 [some (pv_O (43, p)), none] [] h Q
  rw [wo_eq] at hq
  refine v_aload_n 1 dX12_priceOf_0 rfl rfl ?_
  refine v_getfr 4 dX12_priceOf_1 fl_X12_186 (by first | assumption | rfl) (by rfl) rfl ?_
  rw [R.vr (t := 43) (by decide)]
  refine v_ifnonnull 11 7 dX12_priceOf_4 (by decide) rfl (fun c4 => ?_) (fun c4 => ?_)
  · first | rw [if_pos c4] at hq | rw [if_neg c4] at hq | skip
    refine v_aload_n 12 dX12_priceOf_11 rfl rfl ?_
    refine v_getfi 15 dX12_priceOf_12 fl_X12_140 (by first | assumption | rfl) (by rfl) rfl ?_
    rw [R.vi (t := 43) (by decide)]
    refine v_aload_n 16 dX12_priceOf_15 rfl rfl ?_
    refine v_getfi 19 dX12_priceOf_16 fl_X12_149 (by first | assumption | rfl) (by rfl) rfl ?_
    rw [R.vi (t := 43) (by decide)]
    refine v_imul 20 dX12_priceOf_19 rfl ?_
    refine v_bipushv (v := 10) 22 dX12_priceOf_20 (by decide) rfl ?_
    refine v_idiv 23 dX12_priceOf_22 (by decide) rfl ?_
    refine v_istore_n 24 dX12_priceOf_23 (by decide) rfl rfl ?_
    dsimp only [List.set]
    refine v_iconstv (v := 2) 25 dX12_priceOf_24 (by decide) rfl ?_
    refine v_aload_n 26 dX12_priceOf_25 rfl rfl ?_
    refine v_invv (d' := 0) (k' := 0) (n' := 0) (k2 := 0) (n2 := 0) 29 [] dX12_priceOf_26 mt_X12_375 mi_X10_leaves me_X10_leaves (by first | assumption | rfl) (by rfl) rfl rfl (of_decide_eq_true rfl) rfl (by decide) rfl rfl rfl rfl (C_X10_leaves R I hp ?_)
    refine v_imul 30 dX12_priceOf_29 rfl ?_
    refine v_iload_n 31 dX12_priceOf_30 rfl rfl ?_
    refine v_iadd 32 dX12_priceOf_31 rfl ?_
    refine v_aload_n 33 dX12_priceOf_32 rfl rfl ?_
    refine v_getfi 36 dX12_priceOf_33 fl_X12_210 (by first | assumption | rfl) (by rfl) rfl ?_
    rw [R.vi (t := 43) (by decide)]
    refine v_if_eq 43 39 dX12_priceOf_36 (by decide) rfl (fun c36 => ?_) (fun c36 => ?_)
    · first | rw [if_pos c36] at hq | rw [if_neg c36] at hq | skip
      refine v_iconstv (v := 0) 44 dX12_priceOf_43 (by decide) rfl ?_
      refine v_iadd 45 dX12_priceOf_44 rfl ?_
      refine v_aload_n 46 dX12_priceOf_45 rfl rfl ?_
      refine v_getfi 49 dX12_priceOf_46 fl_X12_282 (by first | assumption | rfl) (by rfl) rfl ?_
      rw [R.vi (t := 43) (by decide)]
      refine v_iadd 50 dX12_priceOf_49 rfl ?_
      refine v_iconstv (v := 3) 51 dX12_priceOf_50 (by decide) rfl ?_
      refine v_aload_n 52 dX12_priceOf_51 rfl rfl ?_
      refine v_getfi 55 dX12_priceOf_52 fl_X12_226 (by first | assumption | rfl) (by rfl) rfl ?_
      rw [R.vi (t := 43) (by decide)]
      refine v_aload_n 56 dX12_priceOf_55 rfl rfl ?_
      refine v_getfi 59 dX12_priceOf_56 fl_X12_285 (by first | assumption | rfl) (by rfl) rfl ?_
      rw [R.vi (t := 43) (by decide)]
      refine v_iadd 60 dX12_priceOf_59 rfl ?_
      refine v_imul 61 dX12_priceOf_60 rfl ?_
      refine v_isub 62 dX12_priceOf_61 rfl ?_
      refine v_ireturn dX12_priceOf_62 rfl ?_
      exact hq
    · first | rw [if_pos c36] at hq | rw [if_neg c36] at hq | skip
      refine v_iconstv (v := 5) 40 dX12_priceOf_39 (by decide) rfl ?_
      refine v_goto 44 dX12_priceOf_40 (by decide) ?_
      refine v_iadd 45 dX12_priceOf_44 rfl ?_
      refine v_aload_n 46 dX12_priceOf_45 rfl rfl ?_
      refine v_getfi 49 dX12_priceOf_46 fl_X12_282 (by first | assumption | rfl) (by rfl) rfl ?_
      rw [R.vi (t := 43) (by decide)]
      refine v_iadd 50 dX12_priceOf_49 rfl ?_
      refine v_iconstv (v := 3) 51 dX12_priceOf_50 (by decide) rfl ?_
      refine v_aload_n 52 dX12_priceOf_51 rfl rfl ?_
      refine v_getfi 55 dX12_priceOf_52 fl_X12_226 (by first | assumption | rfl) (by rfl) rfl ?_
      rw [R.vi (t := 43) (by decide)]
      refine v_aload_n 56 dX12_priceOf_55 rfl rfl ?_
      refine v_getfi 59 dX12_priceOf_56 fl_X12_285 (by first | assumption | rfl) (by rfl) rfl ?_
      rw [R.vi (t := 43) (by decide)]
      refine v_iadd 60 dX12_priceOf_59 rfl ?_
      refine v_imul 61 dX12_priceOf_60 rfl ?_
      refine v_isub 62 dX12_priceOf_61 rfl ?_
      refine v_ireturn dX12_priceOf_62 rfl ?_
      exact hq
  · first | rw [if_pos c4] at hq | rw [if_neg c4] at hq | skip
    refine v_iconstv (v := 0) 8 dX12_priceOf_7 (by decide) rfl ?_
    refine v_goto 23 dX12_priceOf_8 (by decide) ?_
    refine v_istore_n 24 dX12_priceOf_23 (by decide) rfl rfl ?_
    dsimp only [List.set]
    refine v_iconstv (v := 2) 25 dX12_priceOf_24 (by decide) rfl ?_
    refine v_aload_n 26 dX12_priceOf_25 rfl rfl ?_
    refine v_invv (d' := 0) (k' := 0) (n' := 0) (k2 := 0) (n2 := 0) 29 [] dX12_priceOf_26 mt_X12_375 mi_X10_leaves me_X10_leaves (by first | assumption | rfl) (by rfl) rfl rfl (of_decide_eq_true rfl) rfl (by decide) rfl rfl rfl rfl (C_X10_leaves R I hp ?_)
    refine v_imul 30 dX12_priceOf_29 rfl ?_
    refine v_iload_n 31 dX12_priceOf_30 rfl rfl ?_
    refine v_iadd 32 dX12_priceOf_31 rfl ?_
    refine v_aload_n 33 dX12_priceOf_32 rfl rfl ?_
    refine v_getfi 36 dX12_priceOf_33 fl_X12_210 (by first | assumption | rfl) (by rfl) rfl ?_
    rw [R.vi (t := 43) (by decide)]
    refine v_if_eq 43 39 dX12_priceOf_36 (by decide) rfl (fun c36 => ?_) (fun c36 => ?_)
    · first | rw [if_pos c36] at hq | rw [if_neg c36] at hq | skip
      refine v_iconstv (v := 0) 44 dX12_priceOf_43 (by decide) rfl ?_
      refine v_iadd 45 dX12_priceOf_44 rfl ?_
      refine v_aload_n 46 dX12_priceOf_45 rfl rfl ?_
      refine v_getfi 49 dX12_priceOf_46 fl_X12_282 (by first | assumption | rfl) (by rfl) rfl ?_
      rw [R.vi (t := 43) (by decide)]
      refine v_iadd 50 dX12_priceOf_49 rfl ?_
      refine v_iconstv (v := 3) 51 dX12_priceOf_50 (by decide) rfl ?_
      refine v_aload_n 52 dX12_priceOf_51 rfl rfl ?_
      refine v_getfi 55 dX12_priceOf_52 fl_X12_226 (by first | assumption | rfl) (by rfl) rfl ?_
      rw [R.vi (t := 43) (by decide)]
      refine v_aload_n 56 dX12_priceOf_55 rfl rfl ?_
      refine v_getfi 59 dX12_priceOf_56 fl_X12_285 (by first | assumption | rfl) (by rfl) rfl ?_
      rw [R.vi (t := 43) (by decide)]
      refine v_iadd 60 dX12_priceOf_59 rfl ?_
      refine v_imul 61 dX12_priceOf_60 rfl ?_
      refine v_isub 62 dX12_priceOf_61 rfl ?_
      refine v_ireturn dX12_priceOf_62 rfl ?_
      exact hq
    · first | rw [if_pos c36] at hq | rw [if_neg c36] at hq | skip
      refine v_iconstv (v := 5) 40 dX12_priceOf_39 (by decide) rfl ?_
      refine v_goto 44 dX12_priceOf_40 (by decide) ?_
      refine v_iadd 45 dX12_priceOf_44 rfl ?_
      refine v_aload_n 46 dX12_priceOf_45 rfl rfl ?_
      refine v_getfi 49 dX12_priceOf_46 fl_X12_282 (by first | assumption | rfl) (by rfl) rfl ?_
      rw [R.vi (t := 43) (by decide)]
      refine v_iadd 50 dX12_priceOf_49 rfl ?_
      refine v_iconstv (v := 3) 51 dX12_priceOf_50 (by decide) rfl ?_
      refine v_aload_n 52 dX12_priceOf_51 rfl rfl ?_
      refine v_getfi 55 dX12_priceOf_52 fl_X12_226 (by first | assumption | rfl) (by rfl) rfl ?_
      rw [R.vi (t := 43) (by decide)]
      refine v_aload_n 56 dX12_priceOf_55 rfl rfl ?_
      refine v_getfi 59 dX12_priceOf_56 fl_X12_285 (by first | assumption | rfl) (by rfl) rfl ?_
      rw [R.vi (t := 43) (by decide)]
      refine v_iadd 60 dX12_priceOf_59 rfl ?_
      refine v_imul 61 dX12_priceOf_60 rfl ?_
      refine v_isub 62 dX12_priceOf_61 rfl ?_
      refine v_ireturn dX12_priceOf_62 rfl ?_
      exact hq
set_option maxRecDepth 20000 in
theorem C_X12_leafOf {G : GW} {h : PH} {Q : RS → PH → Prop} {S : SP} {N : Nat} (R : Rp2 S h) (I : Iv S N) {p : Nat} (hp : p < nn_ S 3) {c : Int32} {k : Nat} (hk : k < 64) (w : ¬ (s_pa S p).1 = 0) (hq : Q (.inl (some (pv_I (s_lo S p c k)))) h) : VV G 0 0 0 yX12_leafOf cX12_leafOf 3 (some .int) [] 0 (vv_en 3 [pv_O (44, p), pv_I c, pv_I (nI k)]) [] h Q := by
  show VV G 0 0 0 yX12_leafOf cX12_leafOf 3 (some .int) [] 0 [some (pv_O (44, p)), some (pv_I c), some (pv_I (nI k))] [] h Q
  obtain ⟨-, -, -, a9, m9, e1, e2, e3, e4, -⟩ := (I.pa hp w).2
  obtain ⟨⟨i1, i2, i3, i4, i5, i6, i7⟩, -⟩ := I.2.2.2.2.1 p hp
  refine v_aload_n 1 dX12_leafOf_0 rfl rfl ?_
  refine v_getfr 4 dX12_leafOf_1 fl_X12_314 (by first | assumption | rfl) (by rfl) rfl ?_
  rw [R.vr (t := 44) (by decide), show hp_vr S.1 44 p 1 = (48, p) from (I.pa hp w).1]
  refine v_getfi 7 dX12_leafOf_4 fl_X12_156 (by first | assumption | rfl) (by rfl) rfl ?_
  rw [R.vi (t := 48) (by decide)]
  refine v_aload_n 8 dX12_leafOf_7 rfl rfl ?_
  refine v_getfr 11 dX12_leafOf_8 fl_X12_317 (by first | assumption | rfl) (by rfl) rfl ?_
  rw [R.vr (t := 44) (by decide), i4]
  refine v_iload_n 12 dX12_leafOf_11 rfl rfl ?_
  refine v_iald 13 dX12_leafOf_12 (by first | assumption | rfl) (by rw [R.ln (t := 63) (by decide), i6]; exact in_nI hk (by omega)) rfl ?_
  rw [nI_clamp (by omega), R.vi (t := 63) (by decide)]
  refine v_iload_n 14 dX12_leafOf_13 rfl rfl ?_
  refine v_iadd 15 dX12_leafOf_14 rfl ?_
  refine v_aload_n 16 dX12_leafOf_15 rfl rfl ?_
  refine v_getfr 19 dX12_leafOf_16 fl_X12_314 (by first | assumption | rfl) (by rfl) rfl ?_
  rw [R.vr (t := 44) (by decide), show hp_vr S.1 44 p 1 = (48, p) from (I.pa hp w).1]
  refine v_getfi 22 dX12_leafOf_19 fl_X12_161 (by first | assumption | rfl) (by rfl) rfl ?_
  rw [R.vi (t := 48) (by decide)]
  refine v_irem 23 dX12_leafOf_22 (by rw [e2]; exact nI_ne0 (by omega) (by omega)) rfl ?_
  refine v_iadd 24 dX12_leafOf_23 rfl ?_
  refine v_ireturn dX12_leafOf_24 rfl ?_
  exact hq
set_option maxRecDepth 20000 in
theorem C_X12_noPlace {G : GW} {h : PH} {Q : RS → PH → Prop} {S : SP} {x a b : Int32} (R : Rp2 S h) (e0 : hp_vi h 40 0 0 = 0) (hq0 : ok_p_ S x a b → Q (.inl (some (pv_I 0))) h) (hq1 : ¬ ok_p_ S x a b → Q (.inl (some (pv_I 1))) (hp_seti h 40 0 0 1)) : VV G 4 0 0 yX12_noPlace cX12_noPlace 4 (some .boolean) [] 0 (vv_en 4 [pv_O (40, 0), pv_I x, pv_I a, pv_I b]) [] h Q := by
  show VV G 4 0 0 yX12_noPlace cX12_noPlace 4 (some .boolean) [] 0 [some (pv_O (40, 0)), some (pv_I x), some (pv_I a), some (pv_I b)] [] h Q
  refine v_aload_n 1 dX12_noPlace_0 rfl rfl ?_
  refine v_aload_n 2 dX12_noPlace_1 rfl rfl ?_
  refine v_getfr 5 dX12_noPlace_2 fl_X12_32 (by first | assumption | rfl) (by rfl) rfl ?_
  rw [R.1.1.2.2.2.2.2.2]
  refine v_iload_n 6 dX12_noPlace_5 rfl rfl ?_
  refine v_invs (d' := 2) (k' := 0) (n' := 0) (k2 := 0) (n2 := 0) 9 [_, _] dX12_noPlace_6 mt_X12_80 ms_X12_isOf rfl rfl (of_decide_eq_true rfl) rfl (by decide) rfl rfl rfl rfl (C_isOf (tl := 55) (ta := 61) rfl rfl R.2.1.2.2.2.2.2 (fun a6 => ?_) (fun b6 => ?_))
  · refine v_if_eq 36 12 dX12_noPlace_9 (by decide) rfl (fun c9 => ?_) (fun c9 => ?_)
    · first | exact absurd c9 (by decide) | exact absurd rfl c9 | exact absurd (of_decide_eq_true rfl) c9
    · refine v_iload_n 13 dX12_noPlace_12 rfl rfl ?_
      refine v_i2l 14 dX12_noPlace_13 rfl ?_
      refine v_lconst (v := 0) 15 dX12_noPlace_14 (by decide) rfl ?_
      refine v_ldc2 18 dX12_noPlace_15 cn_X12_302 rfl rfl ?_
      refine v_invs (d' := 0) (k' := 0) (n' := 0) (k2 := 0) (n2 := 0) 21 [_, _, _] dX12_noPlace_18 mt_X12_44 ms_X12_in rfl rfl (of_decide_eq_true rfl) rfl (by decide) rfl rfl rfl rfl (C_in2 (lo := 0) (hi := 7) rfl (by decide) (by decide) (fun a18 => ?_) (fun b18 => ?_))
      · refine v_if_eq 36 24 dX12_noPlace_21 (by decide) rfl (fun c21 => ?_) (fun c21 => ?_)
        · first | exact absurd c21 (by decide) | exact absurd rfl c21 | exact absurd (of_decide_eq_true rfl) c21
        · refine v_iload_n 25 dX12_noPlace_24 rfl rfl ?_
          refine v_i2l 26 dX12_noPlace_25 rfl ?_
          refine v_lconst (v := 0) 27 dX12_noPlace_26 (by decide) rfl ?_
          refine v_ldc2 30 dX12_noPlace_27 cn_X12_302 rfl rfl ?_
          refine v_invs (d' := 0) (k' := 0) (n' := 0) (k2 := 0) (n2 := 0) 33 [_, _, _] dX12_noPlace_30 mt_X12_44 ms_X12_in rfl rfl (of_decide_eq_true rfl) rfl (by decide) rfl rfl rfl rfl (C_in2 (lo := 0) (hi := 7) rfl (by decide) (by decide) (fun a30 => ?_) (fun b30 => ?_))
          · refine v_if_ne 40 36 dX12_noPlace_33 (by decide) rfl (fun c33 => ?_) (fun c33 => ?_)
            · refine v_iconstv (v := 0) 41 dX12_noPlace_40 (by decide) rfl ?_
              refine v_iconstv (v := 1) 42 dX12_noPlace_41 (by decide) rfl ?_
              refine v_invv (d' := 0) (k' := 0) (n' := 0) (k2 := 0) (n2 := 0) 45 [_, _] dX12_noPlace_42 mt_X12_67 mi_X12_fails me_X12_fails (by first | assumption | rfl) (by rfl) rfl rfl (of_decide_eq_true rfl) rfl (by decide) rfl rfl rfl rfl (C_f0 e0 ?_)
              refine v_zreturn (ty := .boolean) (by first | rfl | decide | exact nz_if | exact nz_fi) dX12_noPlace_45 rfl ?_
              exact hq0 ⟨a6, a18, a30⟩
            · first | exact absurd c33 (by decide) | exact absurd rfl c33 | exact absurd (of_decide_eq_true rfl) c33
          · refine v_if_ne 40 36 dX12_noPlace_33 (by decide) rfl (fun c33 => ?_) (fun c33 => ?_)
            · first | exact absurd c33 (by decide) | exact absurd rfl c33 | exact absurd (of_decide_eq_true rfl) c33
            · refine v_iconstv (v := 1) 37 dX12_noPlace_36 (by decide) rfl ?_
              refine v_goto 41 dX12_noPlace_37 (by decide) ?_
              refine v_iconstv (v := 1) 42 dX12_noPlace_41 (by decide) rfl ?_
              refine v_invv (d' := 0) (k' := 0) (n' := 0) (k2 := 0) (n2 := 0) 45 [_, _] dX12_noPlace_42 mt_X12_67 mi_X12_fails me_X12_fails (by first | assumption | rfl) (by rfl) rfl rfl (of_decide_eq_true rfl) rfl (by decide) rfl rfl rfl rfl (C_f1 e0 (by decide) ?_)
              refine v_zreturn (ty := .boolean) (by first | rfl | decide | exact nz_if | exact nz_fi) dX12_noPlace_45 rfl ?_
              exact hq1 (fun q => by first | exact b6 q.1 | exact b18 q.2.1 | exact b30 q.2.2)
      · refine v_if_eq 36 24 dX12_noPlace_21 (by decide) rfl (fun c21 => ?_) (fun c21 => ?_)
        · refine v_iconstv (v := 1) 37 dX12_noPlace_36 (by decide) rfl ?_
          refine v_goto 41 dX12_noPlace_37 (by decide) ?_
          refine v_iconstv (v := 1) 42 dX12_noPlace_41 (by decide) rfl ?_
          refine v_invv (d' := 0) (k' := 0) (n' := 0) (k2 := 0) (n2 := 0) 45 [_, _] dX12_noPlace_42 mt_X12_67 mi_X12_fails me_X12_fails (by first | assumption | rfl) (by rfl) rfl rfl (of_decide_eq_true rfl) rfl (by decide) rfl rfl rfl rfl (C_f1 e0 (by decide) ?_)
          refine v_zreturn (ty := .boolean) (by first | rfl | decide | exact nz_if | exact nz_fi) dX12_noPlace_45 rfl ?_
          exact hq1 (fun q => by first | exact b6 q.1 | exact b18 q.2.1 | exact b30 q.2.2)
        · first | exact absurd c21 (by decide) | exact absurd rfl c21 | exact absurd (of_decide_eq_true rfl) c21
  · refine v_if_eq 36 12 dX12_noPlace_9 (by decide) rfl (fun c9 => ?_) (fun c9 => ?_)
    · refine v_iconstv (v := 1) 37 dX12_noPlace_36 (by decide) rfl ?_
      refine v_goto 41 dX12_noPlace_37 (by decide) ?_
      refine v_iconstv (v := 1) 42 dX12_noPlace_41 (by decide) rfl ?_
      refine v_invv (d' := 0) (k' := 0) (n' := 0) (k2 := 0) (n2 := 0) 45 [_, _] dX12_noPlace_42 mt_X12_67 mi_X12_fails me_X12_fails (by first | assumption | rfl) (by rfl) rfl rfl (of_decide_eq_true rfl) rfl (by decide) rfl rfl rfl rfl (C_f1 e0 (by decide) ?_)
      refine v_zreturn (ty := .boolean) (by first | rfl | decide | exact nz_if | exact nz_fi) dX12_noPlace_45 rfl ?_
      exact hq1 (fun q => by first | exact b6 q.1 | exact b18 q.2.1 | exact b30 q.2.2)
    · first | exact absurd c9 (by decide) | exact absurd rfl c9 | exact absurd (of_decide_eq_true rfl) c9
set_option maxRecDepth 20000 in
theorem C_X12_noCopy {G : GW} {h : PH} {Q : RS → PH → Prop} {S : SP} {N : Nat} {x c : Int32} (R : Rp2 S h) (I : Iv S N) (e0 : hp_vi h 40 0 0 = 0) (hx : ok_i x (nn_ S 3)) (hq0 : ok_c_ S (cl_ x) c → Q (.inl (some (pv_I 0))) h) (hq1 : ¬ ok_c_ S (cl_ x) c → Q (.inl (some (pv_I 1))) (hp_seti h 40 0 0 2)) : VV G 4 0 0 yX12_noCopy cX12_noCopy 4 (some .boolean) [] 0 (vv_en 4 [pv_O (40, 0), pv_I x, pv_I c]) [] h Q := by
  show VV G 4 0 0 yX12_noCopy cX12_noCopy 4 (some .boolean) [] 0 [some (pv_O (40, 0)), some (pv_I x), some (pv_I c), none] [] h Q
  obtain ⟨z0, z1, z2, z3, z4, z5⟩ := I.cs
  have hc := hx.cl (by omega)
  refine v_aload_n 1 dX12_noCopy_0 rfl rfl ?_
  refine v_getfr 4 dX12_noCopy_1 fl_X12_32 (by first | assumption | rfl) (by rfl) rfl ?_
  rw [R.1.1.2.2.2.2.2.2]
  refine v_iload_n 5 dX12_noCopy_4 rfl rfl ?_
  refine v_invf (z := ("java/util/ArrayList", TJx4a65c, 3)) (d' := 2) (k' := 0) (n' := 0) (k2 := 0) (n2 := 0) 10 [_] dX12_noCopy_5 mf_X12_90 md_Jx4a65c_get_915e3 mi_Jx4a65c_get_915e3 se_Jx4a65c_get_915e3 (by simp [g_fw]; rfl) ⟨by decide, by decide +kernel⟩ (by first | assumption | rfl) (by rfl) rfl rfl (of_decide_eq_true rfl) rfl (by decide) rfl rfl rfl rfl (C_gt (tl := 55) (ta := 61) rfl rfl R.2.1.2.2.2.2.2 (by assumption) ?_)
  refine v_cast 13 dX12_noCopy_10 ⟨_, _, rfl, rfl, cl_X12_304⟩ rfl ?_
  refine v_getfr 16 dX12_noCopy_13 fl_X12_314 (by first | assumption | rfl) (by rfl) rfl ?_
  rw [R.vr (t := 44) (by decide)]
  refine v_astore_n 17 dX12_noCopy_16 (by decide) rfl rfl ?_
  dsimp only [List.set]
  refine v_aload_n 18 dX12_noCopy_17 rfl rfl ?_
  refine v_aload_n 19 dX12_noCopy_18 rfl rfl ?_
  refine v_ifnull 38 22 dX12_noCopy_19 (by decide) rfl (fun c19 => ?_) (fun c19 => ?_)
  · refine v_iconstv (v := 1) 39 dX12_noCopy_38 (by decide) rfl ?_
    refine v_goto 43 dX12_noCopy_39 (by decide) ?_
    refine v_iconstv (v := 2) 44 dX12_noCopy_43 (by decide) rfl ?_
    refine v_invv (d' := 0) (k' := 0) (n' := 0) (k2 := 0) (n2 := 0) 47 [_, _] dX12_noCopy_44 mt_X12_67 mi_X12_fails me_X12_fails (by first | assumption | rfl) (by rfl) rfl rfl (of_decide_eq_true rfl) rfl (by decide) rfl rfl rfl rfl (C_f1 e0 (by decide) ?_)
    refine v_zreturn (ty := .boolean) (by first | rfl | decide | exact nz_if | exact nz_fi) dX12_noCopy_47 rfl ?_
    first | exact hq1 (fun q => b ((oki_iff (by omega)).mpr ⟨q.2.1, e2 ▸ q.2.2⟩)) | exact hq1 (fun q => q.1 c19)
  · have w : ¬ (s_pa S (cl_ x)).1 = 0 := c19
    obtain ⟨-, -, -, a9, m9, e1, e2, e3, e4, -⟩ := (I.pa hc.1 w).2
    refine v_iload_n 23 dX12_noCopy_22 rfl rfl ?_
    refine v_i2l 24 dX12_noCopy_23 rfl ?_
    refine v_lconst (v := 0) 25 dX12_noCopy_24 (by decide) rfl ?_
    refine v_aload_n 26 dX12_noCopy_25 rfl rfl ?_
    rw [show hp_vr S.1 44 (cl_ x) 1 = (48, cl_ x) from (I.pa hc.1 w).1]
    refine v_getfi 29 dX12_noCopy_26 fl_X12_161 (by first | assumption | rfl) (by rfl) rfl ?_
    rw [R.vi (t := 48) (by decide), e2]
    refine v_iconstv (v := 1) 30 dX12_noCopy_29 (by decide) rfl ?_
    refine v_isub 31 dX12_noCopy_30 rfl ?_
    refine v_i2l 32 dX12_noCopy_31 rfl ?_
    refine v_invs (d' := 0) (k' := 0) (n' := 0) (k2 := 0) (n2 := 0) 35 [_, _, _] dX12_noCopy_32 mt_X12_44 ms_X12_in rfl rfl (of_decide_eq_true rfl) rfl (by decide) rfl rfl rfl rfl (C_in2 (lo := 0) (hi := nI m9 - 1) rfl (by decide) rfl (fun a => ?_) (fun b => ?_))
    · refine v_if_ne 42 38 dX12_noCopy_35 (by decide) rfl (fun c35 => ?_) (fun c35 => ?_)
      · refine v_iconstv (v := 0) 43 dX12_noCopy_42 (by decide) rfl ?_
        refine v_iconstv (v := 2) 44 dX12_noCopy_43 (by decide) rfl ?_
        refine v_invv (d' := 0) (k' := 0) (n' := 0) (k2 := 0) (n2 := 0) 47 [_, _] dX12_noCopy_44 mt_X12_67 mi_X12_fails me_X12_fails (by first | assumption | rfl) (by rfl) rfl rfl (of_decide_eq_true rfl) rfl (by decide) rfl rfl rfl rfl (C_f0 e0 ?_)
        refine v_zreturn (ty := .boolean) (by first | rfl | decide | exact nz_if | exact nz_fi) dX12_noCopy_47 rfl ?_
        exact hq0 ⟨w, by rw [e2]; exact (oki_iff (by omega)).mp a⟩
      · first | exact absurd c35 (by decide) | exact absurd rfl c35 | exact absurd (of_decide_eq_true rfl) c35
    · refine v_if_ne 42 38 dX12_noCopy_35 (by decide) rfl (fun c35 => ?_) (fun c35 => ?_)
      · first | exact absurd c35 (by decide) | exact absurd rfl c35 | exact absurd (of_decide_eq_true rfl) c35
      · refine v_iconstv (v := 1) 39 dX12_noCopy_38 (by decide) rfl ?_
        refine v_goto 43 dX12_noCopy_39 (by decide) ?_
        refine v_iconstv (v := 2) 44 dX12_noCopy_43 (by decide) rfl ?_
        refine v_invv (d' := 0) (k' := 0) (n' := 0) (k2 := 0) (n2 := 0) 47 [_, _] dX12_noCopy_44 mt_X12_67 mi_X12_fails me_X12_fails (by first | assumption | rfl) (by rfl) rfl rfl (of_decide_eq_true rfl) rfl (by decide) rfl rfl rfl rfl (C_f1 e0 (by decide) ?_)
        refine v_zreturn (ty := .boolean) (by first | rfl | decide | exact nz_if | exact nz_fi) dX12_noCopy_47 rfl ?_
        first | exact hq1 (fun q => b ((oki_iff (by omega)).mpr ⟨q.2.1, e2 ▸ q.2.2⟩)) | exact hq1 (fun q => q.1 c19)
/-- the place beside one, in the reference's order: above, below, left, right -/
def nr_ (k d : Nat) : Int32 := nb_ k (if d = 0 then 3 else if d = 1 then 1 else if d = 2 then 2 else 0)
theorem nr_in {k d : Nat} (hk : k < 64) : nr_ k d = -1 ∨ ∃ j, j < 64 ∧ nr_ k d = nI j ∧ ad_ k j := nb_in hk (by split <;> (try split) <;> (try split) <;> decide)
theorem be_0 : ∀ k : Fin 64, (0 ≤ (nI k.val / 8 + -1) ∧ (nI k.val / 8 + -1) ≤ 7) → (0 ≤ (rm_ (nI k.val) 8 + 0) ∧ (rm_ (nI k.val) 8 + 0) ≤ 7) → 8 * (nI k.val / 8 + -1) + (rm_ (nI k.val) 8 + 0) = nr_ k.val 0 := by decide +kernel
theorem bf_0 : ∀ k : Fin 64, ¬ ((0 ≤ (nI k.val / 8 + -1) ∧ (nI k.val / 8 + -1) ≤ 7) ∧ (0 ≤ (rm_ (nI k.val) 8 + 0) ∧ (rm_ (nI k.val) 8 + 0) ≤ 7)) → -1 = nr_ k.val 0 := by decide +kernel
set_option maxRecDepth 20000 in
theorem C0_X12_beside {G : GW} {h : PH} {Q : RS → PH → Prop} {k : Nat} (hk : k < 64) (hq : Q (.inl (some (pv_I (nr_ k 0)))) h) : VV G 1 0 0 yX12_beside cX12_beside 4 (some .int) [] 0 (vv_en 4 [pv_I (nI k), pv_I 0]) [] h Q := by
  show VV G 1 0 0 yX12_beside cX12_beside 4 (some .int) [] 0 [some (pv_I (nI k)), some (pv_I 0), none, none] [] h Q
  refine v_iload_n 1 dX12_beside_0 rfl rfl ?_
  refine v_bipushv (v := 8) 3 dX12_beside_1 (by decide) rfl ?_
  refine v_idiv 4 dX12_beside_3 (by decide) rfl ?_
  refine v_iload_n 5 dX12_beside_4 rfl rfl ?_
  refine v_if_ne 12 8 dX12_beside_5 (by decide) rfl (fun c5 => ?_) (fun c5 => ?_)
  · first | exact absurd c5 (by decide) | exact absurd rfl c5 | exact absurd (of_decide_eq_true rfl) c5
  · refine v_iconstv (v := -1) 9 dX12_beside_8 (by decide) rfl ?_
    refine v_goto 22 dX12_beside_9 (by decide) ?_
    refine v_iadd 23 dX12_beside_22 rfl ?_
    refine v_istore_n 24 dX12_beside_23 (by decide) rfl rfl ?_
    dsimp only [List.set]
    refine v_iload_n 25 dX12_beside_24 rfl rfl ?_
    refine v_bipushv (v := 8) 27 dX12_beside_25 (by decide) rfl ?_
    refine v_irem 28 dX12_beside_27 (by decide) rfl ?_
    refine v_iload_n 29 dX12_beside_28 rfl rfl ?_
    refine v_iconstv (v := 2) 30 dX12_beside_29 (by decide) rfl ?_
    refine v_icmp_ne 37 33 dX12_beside_30 (by decide) rfl (fun c30 => ?_) (fun c30 => ?_)
    · refine v_iload_n 38 dX12_beside_37 rfl rfl ?_
      refine v_iconstv (v := 3) 39 dX12_beside_38 (by decide) rfl ?_
      refine v_icmp_ne 46 42 dX12_beside_39 (by decide) rfl (fun c39 => ?_) (fun c39 => ?_)
      · refine v_iconstv (v := 0) 47 dX12_beside_46 (by decide) rfl ?_
        refine v_iadd 48 dX12_beside_47 rfl ?_
        refine v_istore_n 49 dX12_beside_48 (by decide) rfl rfl ?_
        dsimp only [List.set]
        refine v_iload_n 50 dX12_beside_49 rfl rfl ?_
        refine v_i2l 51 dX12_beside_50 rfl ?_
        refine v_lconst (v := 0) 52 dX12_beside_51 (by decide) rfl ?_
        refine v_ldc2 55 dX12_beside_52 cn_X12_302 rfl rfl ?_
        refine v_invs (d' := 0) (k' := 0) (n' := 0) (k2 := 0) (n2 := 0) 58 [_, _, _] dX12_beside_55 mt_X12_44 ms_X12_in rfl rfl (of_decide_eq_true rfl) rfl (by decide) rfl rfl rfl rfl (C_in2 (lo := 0) (hi := 7) rfl (by decide) (by decide) (fun a55 => ?_) (fun b55 => ?_))
        · refine v_if_eq 82 61 dX12_beside_58 (by decide) rfl (fun c58 => ?_) (fun c58 => ?_)
          · first | exact absurd c58 (by decide) | exact absurd rfl c58 | exact absurd (of_decide_eq_true rfl) c58
          · refine v_iload_n 62 dX12_beside_61 rfl rfl ?_
            refine v_i2l 63 dX12_beside_62 rfl ?_
            refine v_lconst (v := 0) 64 dX12_beside_63 (by decide) rfl ?_
            refine v_ldc2 67 dX12_beside_64 cn_X12_302 rfl rfl ?_
            refine v_invs (d' := 0) (k' := 0) (n' := 0) (k2 := 0) (n2 := 0) 70 [_, _, _] dX12_beside_67 mt_X12_44 ms_X12_in rfl rfl (of_decide_eq_true rfl) rfl (by decide) rfl rfl rfl rfl (C_in2 (lo := 0) (hi := 7) rfl (by decide) (by decide) (fun a67 => ?_) (fun b67 => ?_))
            · refine v_if_eq 82 73 dX12_beside_70 (by decide) rfl (fun c70 => ?_) (fun c70 => ?_)
              · first | exact absurd c70 (by decide) | exact absurd rfl c70 | exact absurd (of_decide_eq_true rfl) c70
              · refine v_bipushv (v := 8) 75 dX12_beside_73 (by decide) rfl ?_
                refine v_iload_n 76 dX12_beside_75 rfl rfl ?_
                refine v_imul 77 dX12_beside_76 rfl ?_
                refine v_iload_n 78 dX12_beside_77 rfl rfl ?_
                refine v_iadd 79 dX12_beside_78 rfl ?_
                refine v_goto 83 dX12_beside_79 (by decide) ?_
                refine v_ireturn dX12_beside_83 rfl ?_
                exact vq_i hq (be_0 ⟨k, hk⟩ a55 a67).symm
            · refine v_if_eq 82 73 dX12_beside_70 (by decide) rfl (fun c70 => ?_) (fun c70 => ?_)
              · refine v_iconstv (v := -1) 83 dX12_beside_82 (by decide) rfl ?_
                refine v_ireturn dX12_beside_83 rfl ?_
                exact vq_i hq (bf_0 ⟨k, hk⟩ (fun q => b67 q.2)).symm
              · first | exact absurd c70 (by decide) | exact absurd rfl c70 | exact absurd (of_decide_eq_true rfl) c70
        · refine v_if_eq 82 61 dX12_beside_58 (by decide) rfl (fun c58 => ?_) (fun c58 => ?_)
          · refine v_iconstv (v := -1) 83 dX12_beside_82 (by decide) rfl ?_
            refine v_ireturn dX12_beside_83 rfl ?_
            exact vq_i hq (bf_0 ⟨k, hk⟩ (fun q => b55 q.1)).symm
          · first | exact absurd c58 (by decide) | exact absurd rfl c58 | exact absurd (of_decide_eq_true rfl) c58
      · first | exact absurd c39 (by decide) | exact absurd rfl c39 | exact absurd (of_decide_eq_true rfl) c39
    · first | exact absurd c30 (by decide) | exact absurd rfl c30 | exact absurd (of_decide_eq_true rfl) c30
theorem be_1 : ∀ k : Fin 64, (0 ≤ (nI k.val / 8 + 1) ∧ (nI k.val / 8 + 1) ≤ 7) → (0 ≤ (rm_ (nI k.val) 8 + 0) ∧ (rm_ (nI k.val) 8 + 0) ≤ 7) → 8 * (nI k.val / 8 + 1) + (rm_ (nI k.val) 8 + 0) = nr_ k.val 1 := by decide +kernel
theorem bf_1 : ∀ k : Fin 64, ¬ ((0 ≤ (nI k.val / 8 + 1) ∧ (nI k.val / 8 + 1) ≤ 7) ∧ (0 ≤ (rm_ (nI k.val) 8 + 0) ∧ (rm_ (nI k.val) 8 + 0) ≤ 7)) → -1 = nr_ k.val 1 := by decide +kernel
set_option maxRecDepth 20000 in
theorem C1_X12_beside {G : GW} {h : PH} {Q : RS → PH → Prop} {k : Nat} (hk : k < 64) (hq : Q (.inl (some (pv_I (nr_ k 1)))) h) : VV G 1 0 0 yX12_beside cX12_beside 4 (some .int) [] 0 (vv_en 4 [pv_I (nI k), pv_I 1]) [] h Q := by
  show VV G 1 0 0 yX12_beside cX12_beside 4 (some .int) [] 0 [some (pv_I (nI k)), some (pv_I 1), none, none] [] h Q
  refine v_iload_n 1 dX12_beside_0 rfl rfl ?_
  refine v_bipushv (v := 8) 3 dX12_beside_1 (by decide) rfl ?_
  refine v_idiv 4 dX12_beside_3 (by decide) rfl ?_
  refine v_iload_n 5 dX12_beside_4 rfl rfl ?_
  refine v_if_ne 12 8 dX12_beside_5 (by decide) rfl (fun c5 => ?_) (fun c5 => ?_)
  · refine v_iload_n 13 dX12_beside_12 rfl rfl ?_
    refine v_iconstv (v := 1) 14 dX12_beside_13 (by decide) rfl ?_
    refine v_icmp_ne 21 17 dX12_beside_14 (by decide) rfl (fun c14 => ?_) (fun c14 => ?_)
    · first | exact absurd c14 (by decide) | exact absurd rfl c14 | exact absurd (of_decide_eq_true rfl) c14
    · refine v_iconstv (v := 1) 18 dX12_beside_17 (by decide) rfl ?_
      refine v_goto 22 dX12_beside_18 (by decide) ?_
      refine v_iadd 23 dX12_beside_22 rfl ?_
      refine v_istore_n 24 dX12_beside_23 (by decide) rfl rfl ?_
      dsimp only [List.set]
      refine v_iload_n 25 dX12_beside_24 rfl rfl ?_
      refine v_bipushv (v := 8) 27 dX12_beside_25 (by decide) rfl ?_
      refine v_irem 28 dX12_beside_27 (by decide) rfl ?_
      refine v_iload_n 29 dX12_beside_28 rfl rfl ?_
      refine v_iconstv (v := 2) 30 dX12_beside_29 (by decide) rfl ?_
      refine v_icmp_ne 37 33 dX12_beside_30 (by decide) rfl (fun c30 => ?_) (fun c30 => ?_)
      · refine v_iload_n 38 dX12_beside_37 rfl rfl ?_
        refine v_iconstv (v := 3) 39 dX12_beside_38 (by decide) rfl ?_
        refine v_icmp_ne 46 42 dX12_beside_39 (by decide) rfl (fun c39 => ?_) (fun c39 => ?_)
        · refine v_iconstv (v := 0) 47 dX12_beside_46 (by decide) rfl ?_
          refine v_iadd 48 dX12_beside_47 rfl ?_
          refine v_istore_n 49 dX12_beside_48 (by decide) rfl rfl ?_
          dsimp only [List.set]
          refine v_iload_n 50 dX12_beside_49 rfl rfl ?_
          refine v_i2l 51 dX12_beside_50 rfl ?_
          refine v_lconst (v := 0) 52 dX12_beside_51 (by decide) rfl ?_
          refine v_ldc2 55 dX12_beside_52 cn_X12_302 rfl rfl ?_
          refine v_invs (d' := 0) (k' := 0) (n' := 0) (k2 := 0) (n2 := 0) 58 [_, _, _] dX12_beside_55 mt_X12_44 ms_X12_in rfl rfl (of_decide_eq_true rfl) rfl (by decide) rfl rfl rfl rfl (C_in2 (lo := 0) (hi := 7) rfl (by decide) (by decide) (fun a55 => ?_) (fun b55 => ?_))
          · refine v_if_eq 82 61 dX12_beside_58 (by decide) rfl (fun c58 => ?_) (fun c58 => ?_)
            · first | exact absurd c58 (by decide) | exact absurd rfl c58 | exact absurd (of_decide_eq_true rfl) c58
            · refine v_iload_n 62 dX12_beside_61 rfl rfl ?_
              refine v_i2l 63 dX12_beside_62 rfl ?_
              refine v_lconst (v := 0) 64 dX12_beside_63 (by decide) rfl ?_
              refine v_ldc2 67 dX12_beside_64 cn_X12_302 rfl rfl ?_
              refine v_invs (d' := 0) (k' := 0) (n' := 0) (k2 := 0) (n2 := 0) 70 [_, _, _] dX12_beside_67 mt_X12_44 ms_X12_in rfl rfl (of_decide_eq_true rfl) rfl (by decide) rfl rfl rfl rfl (C_in2 (lo := 0) (hi := 7) rfl (by decide) (by decide) (fun a67 => ?_) (fun b67 => ?_))
              · refine v_if_eq 82 73 dX12_beside_70 (by decide) rfl (fun c70 => ?_) (fun c70 => ?_)
                · first | exact absurd c70 (by decide) | exact absurd rfl c70 | exact absurd (of_decide_eq_true rfl) c70
                · refine v_bipushv (v := 8) 75 dX12_beside_73 (by decide) rfl ?_
                  refine v_iload_n 76 dX12_beside_75 rfl rfl ?_
                  refine v_imul 77 dX12_beside_76 rfl ?_
                  refine v_iload_n 78 dX12_beside_77 rfl rfl ?_
                  refine v_iadd 79 dX12_beside_78 rfl ?_
                  refine v_goto 83 dX12_beside_79 (by decide) ?_
                  refine v_ireturn dX12_beside_83 rfl ?_
                  exact vq_i hq (be_1 ⟨k, hk⟩ a55 a67).symm
              · refine v_if_eq 82 73 dX12_beside_70 (by decide) rfl (fun c70 => ?_) (fun c70 => ?_)
                · refine v_iconstv (v := -1) 83 dX12_beside_82 (by decide) rfl ?_
                  refine v_ireturn dX12_beside_83 rfl ?_
                  exact vq_i hq (bf_1 ⟨k, hk⟩ (fun q => b67 q.2)).symm
                · first | exact absurd c70 (by decide) | exact absurd rfl c70 | exact absurd (of_decide_eq_true rfl) c70
          · refine v_if_eq 82 61 dX12_beside_58 (by decide) rfl (fun c58 => ?_) (fun c58 => ?_)
            · refine v_iconstv (v := -1) 83 dX12_beside_82 (by decide) rfl ?_
              refine v_ireturn dX12_beside_83 rfl ?_
              exact vq_i hq (bf_1 ⟨k, hk⟩ (fun q => b55 q.1)).symm
            · first | exact absurd c58 (by decide) | exact absurd rfl c58 | exact absurd (of_decide_eq_true rfl) c58
        · first | exact absurd c39 (by decide) | exact absurd rfl c39 | exact absurd (of_decide_eq_true rfl) c39
      · first | exact absurd c30 (by decide) | exact absurd rfl c30 | exact absurd (of_decide_eq_true rfl) c30
  · first | exact absurd c5 (by decide) | exact absurd rfl c5 | exact absurd (of_decide_eq_true rfl) c5
theorem be_2 : ∀ k : Fin 64, (0 ≤ (nI k.val / 8 + 0) ∧ (nI k.val / 8 + 0) ≤ 7) → (0 ≤ (rm_ (nI k.val) 8 + -1) ∧ (rm_ (nI k.val) 8 + -1) ≤ 7) → 8 * (nI k.val / 8 + 0) + (rm_ (nI k.val) 8 + -1) = nr_ k.val 2 := by decide +kernel
theorem bf_2 : ∀ k : Fin 64, ¬ ((0 ≤ (nI k.val / 8 + 0) ∧ (nI k.val / 8 + 0) ≤ 7) ∧ (0 ≤ (rm_ (nI k.val) 8 + -1) ∧ (rm_ (nI k.val) 8 + -1) ≤ 7)) → -1 = nr_ k.val 2 := by decide +kernel
set_option maxRecDepth 20000 in
theorem C2_X12_beside {G : GW} {h : PH} {Q : RS → PH → Prop} {k : Nat} (hk : k < 64) (hq : Q (.inl (some (pv_I (nr_ k 2)))) h) : VV G 1 0 0 yX12_beside cX12_beside 4 (some .int) [] 0 (vv_en 4 [pv_I (nI k), pv_I 2]) [] h Q := by
  show VV G 1 0 0 yX12_beside cX12_beside 4 (some .int) [] 0 [some (pv_I (nI k)), some (pv_I 2), none, none] [] h Q
  refine v_iload_n 1 dX12_beside_0 rfl rfl ?_
  refine v_bipushv (v := 8) 3 dX12_beside_1 (by decide) rfl ?_
  refine v_idiv 4 dX12_beside_3 (by decide) rfl ?_
  refine v_iload_n 5 dX12_beside_4 rfl rfl ?_
  refine v_if_ne 12 8 dX12_beside_5 (by decide) rfl (fun c5 => ?_) (fun c5 => ?_)
  · refine v_iload_n 13 dX12_beside_12 rfl rfl ?_
    refine v_iconstv (v := 1) 14 dX12_beside_13 (by decide) rfl ?_
    refine v_icmp_ne 21 17 dX12_beside_14 (by decide) rfl (fun c14 => ?_) (fun c14 => ?_)
    · refine v_iconstv (v := 0) 22 dX12_beside_21 (by decide) rfl ?_
      refine v_iadd 23 dX12_beside_22 rfl ?_
      refine v_istore_n 24 dX12_beside_23 (by decide) rfl rfl ?_
      dsimp only [List.set]
      refine v_iload_n 25 dX12_beside_24 rfl rfl ?_
      refine v_bipushv (v := 8) 27 dX12_beside_25 (by decide) rfl ?_
      refine v_irem 28 dX12_beside_27 (by decide) rfl ?_
      refine v_iload_n 29 dX12_beside_28 rfl rfl ?_
      refine v_iconstv (v := 2) 30 dX12_beside_29 (by decide) rfl ?_
      refine v_icmp_ne 37 33 dX12_beside_30 (by decide) rfl (fun c30 => ?_) (fun c30 => ?_)
      · first | exact absurd c30 (by decide) | exact absurd rfl c30 | exact absurd (of_decide_eq_true rfl) c30
      · refine v_iconstv (v := -1) 34 dX12_beside_33 (by decide) rfl ?_
        refine v_goto 47 dX12_beside_34 (by decide) ?_
        refine v_iadd 48 dX12_beside_47 rfl ?_
        refine v_istore_n 49 dX12_beside_48 (by decide) rfl rfl ?_
        dsimp only [List.set]
        refine v_iload_n 50 dX12_beside_49 rfl rfl ?_
        refine v_i2l 51 dX12_beside_50 rfl ?_
        refine v_lconst (v := 0) 52 dX12_beside_51 (by decide) rfl ?_
        refine v_ldc2 55 dX12_beside_52 cn_X12_302 rfl rfl ?_
        refine v_invs (d' := 0) (k' := 0) (n' := 0) (k2 := 0) (n2 := 0) 58 [_, _, _] dX12_beside_55 mt_X12_44 ms_X12_in rfl rfl (of_decide_eq_true rfl) rfl (by decide) rfl rfl rfl rfl (C_in2 (lo := 0) (hi := 7) rfl (by decide) (by decide) (fun a55 => ?_) (fun b55 => ?_))
        · refine v_if_eq 82 61 dX12_beside_58 (by decide) rfl (fun c58 => ?_) (fun c58 => ?_)
          · first | exact absurd c58 (by decide) | exact absurd rfl c58 | exact absurd (of_decide_eq_true rfl) c58
          · refine v_iload_n 62 dX12_beside_61 rfl rfl ?_
            refine v_i2l 63 dX12_beside_62 rfl ?_
            refine v_lconst (v := 0) 64 dX12_beside_63 (by decide) rfl ?_
            refine v_ldc2 67 dX12_beside_64 cn_X12_302 rfl rfl ?_
            refine v_invs (d' := 0) (k' := 0) (n' := 0) (k2 := 0) (n2 := 0) 70 [_, _, _] dX12_beside_67 mt_X12_44 ms_X12_in rfl rfl (of_decide_eq_true rfl) rfl (by decide) rfl rfl rfl rfl (C_in2 (lo := 0) (hi := 7) rfl (by decide) (by decide) (fun a67 => ?_) (fun b67 => ?_))
            · refine v_if_eq 82 73 dX12_beside_70 (by decide) rfl (fun c70 => ?_) (fun c70 => ?_)
              · first | exact absurd c70 (by decide) | exact absurd rfl c70 | exact absurd (of_decide_eq_true rfl) c70
              · refine v_bipushv (v := 8) 75 dX12_beside_73 (by decide) rfl ?_
                refine v_iload_n 76 dX12_beside_75 rfl rfl ?_
                refine v_imul 77 dX12_beside_76 rfl ?_
                refine v_iload_n 78 dX12_beside_77 rfl rfl ?_
                refine v_iadd 79 dX12_beside_78 rfl ?_
                refine v_goto 83 dX12_beside_79 (by decide) ?_
                refine v_ireturn dX12_beside_83 rfl ?_
                exact vq_i hq (be_2 ⟨k, hk⟩ a55 a67).symm
            · refine v_if_eq 82 73 dX12_beside_70 (by decide) rfl (fun c70 => ?_) (fun c70 => ?_)
              · refine v_iconstv (v := -1) 83 dX12_beside_82 (by decide) rfl ?_
                refine v_ireturn dX12_beside_83 rfl ?_
                exact vq_i hq (bf_2 ⟨k, hk⟩ (fun q => b67 q.2)).symm
              · first | exact absurd c70 (by decide) | exact absurd rfl c70 | exact absurd (of_decide_eq_true rfl) c70
        · refine v_if_eq 82 61 dX12_beside_58 (by decide) rfl (fun c58 => ?_) (fun c58 => ?_)
          · refine v_iconstv (v := -1) 83 dX12_beside_82 (by decide) rfl ?_
            refine v_ireturn dX12_beside_83 rfl ?_
            exact vq_i hq (bf_2 ⟨k, hk⟩ (fun q => b55 q.1)).symm
          · first | exact absurd c58 (by decide) | exact absurd rfl c58 | exact absurd (of_decide_eq_true rfl) c58
    · first | exact absurd c14 (by decide) | exact absurd rfl c14 | exact absurd (of_decide_eq_true rfl) c14
  · first | exact absurd c5 (by decide) | exact absurd rfl c5 | exact absurd (of_decide_eq_true rfl) c5
theorem be_3 : ∀ k : Fin 64, (0 ≤ (nI k.val / 8 + 0) ∧ (nI k.val / 8 + 0) ≤ 7) → (0 ≤ (rm_ (nI k.val) 8 + 1) ∧ (rm_ (nI k.val) 8 + 1) ≤ 7) → 8 * (nI k.val / 8 + 0) + (rm_ (nI k.val) 8 + 1) = nr_ k.val 3 := by decide +kernel
theorem bf_3 : ∀ k : Fin 64, ¬ ((0 ≤ (nI k.val / 8 + 0) ∧ (nI k.val / 8 + 0) ≤ 7) ∧ (0 ≤ (rm_ (nI k.val) 8 + 1) ∧ (rm_ (nI k.val) 8 + 1) ≤ 7)) → -1 = nr_ k.val 3 := by decide +kernel
set_option maxRecDepth 20000 in
theorem C3_X12_beside {G : GW} {h : PH} {Q : RS → PH → Prop} {k : Nat} (hk : k < 64) (hq : Q (.inl (some (pv_I (nr_ k 3)))) h) : VV G 1 0 0 yX12_beside cX12_beside 4 (some .int) [] 0 (vv_en 4 [pv_I (nI k), pv_I 3]) [] h Q := by
  show VV G 1 0 0 yX12_beside cX12_beside 4 (some .int) [] 0 [some (pv_I (nI k)), some (pv_I 3), none, none] [] h Q
  refine v_iload_n 1 dX12_beside_0 rfl rfl ?_
  refine v_bipushv (v := 8) 3 dX12_beside_1 (by decide) rfl ?_
  refine v_idiv 4 dX12_beside_3 (by decide) rfl ?_
  refine v_iload_n 5 dX12_beside_4 rfl rfl ?_
  refine v_if_ne 12 8 dX12_beside_5 (by decide) rfl (fun c5 => ?_) (fun c5 => ?_)
  · refine v_iload_n 13 dX12_beside_12 rfl rfl ?_
    refine v_iconstv (v := 1) 14 dX12_beside_13 (by decide) rfl ?_
    refine v_icmp_ne 21 17 dX12_beside_14 (by decide) rfl (fun c14 => ?_) (fun c14 => ?_)
    · refine v_iconstv (v := 0) 22 dX12_beside_21 (by decide) rfl ?_
      refine v_iadd 23 dX12_beside_22 rfl ?_
      refine v_istore_n 24 dX12_beside_23 (by decide) rfl rfl ?_
      dsimp only [List.set]
      refine v_iload_n 25 dX12_beside_24 rfl rfl ?_
      refine v_bipushv (v := 8) 27 dX12_beside_25 (by decide) rfl ?_
      refine v_irem 28 dX12_beside_27 (by decide) rfl ?_
      refine v_iload_n 29 dX12_beside_28 rfl rfl ?_
      refine v_iconstv (v := 2) 30 dX12_beside_29 (by decide) rfl ?_
      refine v_icmp_ne 37 33 dX12_beside_30 (by decide) rfl (fun c30 => ?_) (fun c30 => ?_)
      · refine v_iload_n 38 dX12_beside_37 rfl rfl ?_
        refine v_iconstv (v := 3) 39 dX12_beside_38 (by decide) rfl ?_
        refine v_icmp_ne 46 42 dX12_beside_39 (by decide) rfl (fun c39 => ?_) (fun c39 => ?_)
        · first | exact absurd c39 (by decide) | exact absurd rfl c39 | exact absurd (of_decide_eq_true rfl) c39
        · refine v_iconstv (v := 1) 43 dX12_beside_42 (by decide) rfl ?_
          refine v_goto 47 dX12_beside_43 (by decide) ?_
          refine v_iadd 48 dX12_beside_47 rfl ?_
          refine v_istore_n 49 dX12_beside_48 (by decide) rfl rfl ?_
          dsimp only [List.set]
          refine v_iload_n 50 dX12_beside_49 rfl rfl ?_
          refine v_i2l 51 dX12_beside_50 rfl ?_
          refine v_lconst (v := 0) 52 dX12_beside_51 (by decide) rfl ?_
          refine v_ldc2 55 dX12_beside_52 cn_X12_302 rfl rfl ?_
          refine v_invs (d' := 0) (k' := 0) (n' := 0) (k2 := 0) (n2 := 0) 58 [_, _, _] dX12_beside_55 mt_X12_44 ms_X12_in rfl rfl (of_decide_eq_true rfl) rfl (by decide) rfl rfl rfl rfl (C_in2 (lo := 0) (hi := 7) rfl (by decide) (by decide) (fun a55 => ?_) (fun b55 => ?_))
          · refine v_if_eq 82 61 dX12_beside_58 (by decide) rfl (fun c58 => ?_) (fun c58 => ?_)
            · first | exact absurd c58 (by decide) | exact absurd rfl c58 | exact absurd (of_decide_eq_true rfl) c58
            · refine v_iload_n 62 dX12_beside_61 rfl rfl ?_
              refine v_i2l 63 dX12_beside_62 rfl ?_
              refine v_lconst (v := 0) 64 dX12_beside_63 (by decide) rfl ?_
              refine v_ldc2 67 dX12_beside_64 cn_X12_302 rfl rfl ?_
              refine v_invs (d' := 0) (k' := 0) (n' := 0) (k2 := 0) (n2 := 0) 70 [_, _, _] dX12_beside_67 mt_X12_44 ms_X12_in rfl rfl (of_decide_eq_true rfl) rfl (by decide) rfl rfl rfl rfl (C_in2 (lo := 0) (hi := 7) rfl (by decide) (by decide) (fun a67 => ?_) (fun b67 => ?_))
              · refine v_if_eq 82 73 dX12_beside_70 (by decide) rfl (fun c70 => ?_) (fun c70 => ?_)
                · first | exact absurd c70 (by decide) | exact absurd rfl c70 | exact absurd (of_decide_eq_true rfl) c70
                · refine v_bipushv (v := 8) 75 dX12_beside_73 (by decide) rfl ?_
                  refine v_iload_n 76 dX12_beside_75 rfl rfl ?_
                  refine v_imul 77 dX12_beside_76 rfl ?_
                  refine v_iload_n 78 dX12_beside_77 rfl rfl ?_
                  refine v_iadd 79 dX12_beside_78 rfl ?_
                  refine v_goto 83 dX12_beside_79 (by decide) ?_
                  refine v_ireturn dX12_beside_83 rfl ?_
                  exact vq_i hq (be_3 ⟨k, hk⟩ a55 a67).symm
              · refine v_if_eq 82 73 dX12_beside_70 (by decide) rfl (fun c70 => ?_) (fun c70 => ?_)
                · refine v_iconstv (v := -1) 83 dX12_beside_82 (by decide) rfl ?_
                  refine v_ireturn dX12_beside_83 rfl ?_
                  exact vq_i hq (bf_3 ⟨k, hk⟩ (fun q => b67 q.2)).symm
                · first | exact absurd c70 (by decide) | exact absurd rfl c70 | exact absurd (of_decide_eq_true rfl) c70
          · refine v_if_eq 82 61 dX12_beside_58 (by decide) rfl (fun c58 => ?_) (fun c58 => ?_)
            · refine v_iconstv (v := -1) 83 dX12_beside_82 (by decide) rfl ?_
              refine v_ireturn dX12_beside_83 rfl ?_
              exact vq_i hq (bf_3 ⟨k, hk⟩ (fun q => b55 q.1)).symm
            · first | exact absurd c58 (by decide) | exact absurd rfl c58 | exact absurd (of_decide_eq_true rfl) c58
      · first | exact absurd c30 (by decide) | exact absurd rfl c30 | exact absurd (of_decide_eq_true rfl) c30
    · first | exact absurd c14 (by decide) | exact absurd rfl c14 | exact absurd (of_decide_eq_true rfl) c14
  · first | exact absurd c5 (by decide) | exact absurd rfl c5 | exact absurd (of_decide_eq_true rfl) c5
theorem C_X12_beside {G : GW} {h : PH} {Q : RS → PH → Prop} {k d : Nat} (hk : k < 64) (hd : d < 4) (hq : Q (.inl (some (pv_I (nr_ k d)))) h) : VV G 1 0 0 yX12_beside cX12_beside 4 (some .int) [] 0 (vv_en 4 [pv_I (nI k), pv_I (nI d)]) [] h Q := by
  have e : d = 0 ∨ d = 1 ∨ d = 2 ∨ d = 3 := by omega
  rcases e with rfl | rfl | rfl | rfl
  · exact C0_X12_beside hk hq
  · exact C1_X12_beside hk hq
  · exact C2_X12_beside hk hq
  · exact C3_X12_beside hk hq
/-- the most of a row of numbers, and 1 -/
def mo_ (F : Nat → Int32) : Nat → Int32
  | 0 => 0
  | k + 1 => mx (mo_ F k) (F k + 1)
set_option maxRecDepth 20000 in
theorem L_X12_most {G : GW} {h : PH} {Q : RS → PH → Prop} {u i : Nat} (hu : tg_k u = some (.inr .int)) (hl : hp_ln h u i = 64) (hq : Q (.inl (some (pv_I (mo_ (hp_vi h u i) 64)))) h) : ∀ fuel : Nat, ∀ (k : Nat) (z5 : Option PV), k ≤ 64 → 64 - k < fuel → VV G 1 0 0 yX12_most cX12_most 6 (some .int) [] 10 [some (pv_O (u, i)), some (pv_I (mo_ (hp_vi h u i) k)), some (pv_O (u, i)), some (pv_I (nI 64)), some (pv_I (nI k)), z5] [] h Q := by
  intro fuel
  induction fuel with
  | zero =>
    intro k z5 h1 h2
    omega
  | succ fuel ih =>
    intro k zz5 h1 h2
    refine v_iload 12 dX12_most_10 rfl rfl ?_
    refine v_iload_n 13 dX12_most_12 rfl rfl ?_
    refine v_icmp_ge 37 16 dX12_most_13 (by decide) rfl (fun c13 => ?_) (fun c13 => ?_)
    · have hkm : k = 64 := by
        rcases Nat.lt_or_ge k 64 with q | q
        · exact absurd c13 (nI_ge q (by omega))
        · omega
      subst hkm
      refine v_iload_n 38 dX12_most_37 rfl rfl ?_
      refine v_ireturn dX12_most_38 rfl ?_
      exact hq
    · have hkm : k < 64 := by
        rcases Nat.lt_or_ge k 64 with q | q
        · exact q
        · exact absurd (nI_le q (by omega)) c13
      refine v_aload_n 17 dX12_most_16 rfl rfl ?_
      refine v_iload 19 dX12_most_17 rfl rfl ?_
      refine v_iald 20 dX12_most_19 (by first | assumption | rfl) (by rw [hl]; exact in_nI hkm (by omega)) rfl ?_
      rw [nI_clamp (by omega)]
      refine v_istore 22 dX12_most_20 (by decide) rfl rfl ?_
      dsimp only [List.set]
      refine v_iload_n 23 dX12_most_22 rfl rfl ?_
      refine v_iload 25 dX12_most_23 rfl rfl ?_
      refine v_iconstv (v := 1) 26 dX12_most_25 (by decide) rfl ?_
      refine v_iadd 27 dX12_most_26 rfl ?_
      refine v_max 30 dX12_most_27 ma_X12_268 ma_s_max ma_i rfl (by decide) rfl ?_
      refine v_istore_n 31 dX12_most_30 (by decide) rfl rfl ?_
      dsimp only [List.set]
      refine v_iinc 34 dX12_most_31 rfl (by decide) rfl rfl ?_
      dsimp only [List.set]
      refine v_goto 10 dX12_most_34 (by decide) ?_
      rw [show nI k + Int32.ofInt 1 = nI (k + 1) from nI_1 k]
      exact ih (k + 1) _ (by omega) (by omega)
set_option maxRecDepth 20000 in
theorem C_X12_most {G : GW} {h : PH} {Q : RS → PH → Prop} {u i : Nat} (hu : tg_k u = some (.inr .int)) (hl : hp_ln h u i = 64) (hq : Q (.inl (some (pv_I (mo_ (hp_vi h u i) 64)))) h) : VV G 1 0 0 yX12_most cX12_most 6 (some .int) [] 0 (vv_en 6 [pv_O (u, i)]) [] h Q := by
  show VV G 1 0 0 yX12_most cX12_most 6 (some .int) [] 0 [some (pv_O (u, i)), none, none, none, none, none] [] h Q
  refine v_iconstv (v := 0) 1 dX12_most_0 (by decide) rfl ?_
  refine v_istore_n 2 dX12_most_1 (by decide) rfl rfl ?_
  dsimp only [List.set]
  refine v_aload_n 3 dX12_most_2 rfl rfl ?_
  refine v_astore_n 4 dX12_most_3 (by decide) rfl rfl ?_
  dsimp only [List.set]
  refine v_aload_n 5 dX12_most_4 rfl rfl ?_
  refine v_alen 6 dX12_most_5 (by first | assumption | rfl) (by simp [g_tys]) rfl ?_
  rw [hl]
  refine v_istore_n 7 dX12_most_6 (by decide) rfl rfl ?_
  dsimp only [List.set]
  refine v_iconstv (v := 0) 8 dX12_most_7 (by decide) rfl ?_
  refine v_istore 10 dX12_most_8 (by decide) rfl rfl ?_
  dsimp only [List.set]
  exact L_X12_most hu hl hq 65 0 _ (Nat.zero_le _) (by omega)
