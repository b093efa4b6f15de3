section VVRF
theorem C_ie {G : GW} {h : PH} {Q : RS → PH → Prop} {tl ta n : Nat} {f : Nat → RN} (htl : tg_k tl = some (.inl 3)) (hta : tg_k ta = some (.inr g_O)) (q : q_l h tl ta n f) (h1 : n = 0 → Q (.inl (some (pv_I 1))) h) (h0 : ¬ n = 0 → Q (.inl (some (pv_I 0))) h) : VV G 0 0 0 yJx4a65c_isEmpty_aae02 cJx4a65c_isEmpty_aae02 1 (some .boolean) [] 0 (vv_en 1 [pv_O (tl, 0)]) [] h Q := by
  obtain ⟨cap, L⟩ := q
  refine C_Jx4a65c_isEmpty_aae02 htl hta L ?_
  by_cases e : n = 0
  · rw [if_pos e]; exact h1 e
  · rw [if_neg e]; exact h0 e
/-- leaves of a flitch counted, used ones or all; then of all before one -/
def li_ (S : SP) (b : Int32) (f : Nat) : Nat → Nat
  | 0 => 0
  | l + 1 => li_ S b f l + (if hp_vi S.1 62 f l = 0 ∧ ¬ b = 0 then 0 else 1)
def lj_ (S : SP) (b : Int32) : Nat → Nat
  | 0 => 0
  | k + 1 => lj_ S b k + li_ S b k (s_n S k)
theorem li_1 (S : SP) (f : Nat) : ∀ l, li_ S 1 f l = s_uc S f l
  | 0 => rfl
  | l + 1 => by
    show li_ S 1 f l + _ = s_uc S f l + _
    rw [li_1 S f l]
    by_cases q : hp_vi S.1 62 f l = 0
    · rw [if_pos q, if_pos ⟨q, by decide⟩]
    · rw [if_neg q, if_neg (fun w => q w.1)]
theorem li_0 (S : SP) (f : Nat) : ∀ l, li_ S 0 f l = l
  | 0 => rfl
  | l + 1 => by
    show li_ S 0 f l + _ = _
    rw [li_0 S f l, if_neg (fun w => w.2 rfl)]
theorem lj_1 (S : SP) : ∀ k, lj_ S 1 k = us_ S k
  | 0 => rfl
  | k + 1 => by show lj_ S 1 k + _ = us_ S k + _; rw [lj_1 S k, li_1]
theorem lj_0 (S : SP) : ∀ k, lj_ S 0 k = as_ S k
  | 0 => rfl
  | k + 1 => by show lj_ S 0 k + _ = as_ S k + _; rw [lj_0 S k, li_0]
theorem as_0 {S : SP} {N : Nat} (I : Iv S N) (h : ¬ nn_ S 1 = 0) : ¬ as_ S (nn_ S 1) = 0 := by
  obtain ⟨k, hk⟩ : ∃ k, nn_ S 1 = k + 1 := ⟨nn_ S 1 - 1, by omega⟩
  rw [hk]
  show ¬ as_ S k + s_n S k = 0
  have h1 := (I.2.2.1 k (by omega)).2.2.2.1.1
  have h2 : 1 ≤ s_n S k := h1
  omega
theorem as_z {S : SP} (h : nn_ S 1 = 0) : as_ S (nn_ S 1) = 0 := by rw [h]; rfl
set_option maxRecDepth 20000 in
theorem Li_X12_leavesIn {G : GW} {h : PH} {Q : RS → PH → Prop} {S : SP} {N : Nat} (R : Rp2 S h) (I : Iv S N) {b : Int32} {k it : Nat} (hk : k < nn_ S 1) (K : ∀ z8, VV G 3 0 0 yX12_leavesIn cX12_leavesIn 9 (some .int) [] 84 [some (pv_O (40, 0)), some (pv_I b), some (pv_I (nI (lj_ S b (k + 1)))), some (pv_O (71, it)), some (pv_O (42, k)), some (pv_O (62, k)), some (pv_I (nI (s_n S k))), some (pv_I (nI (s_n S k))), z8] [] h Q) : ∀ fuel : Nat, ∀ (l : Nat) (z8 : Option PV), l ≤ s_n S k → s_n S k - l < fuel → VV G 3 0 0 yX12_leavesIn cX12_leavesIn 9 (some .int) [] 47 [some (pv_O (40, 0)), some (pv_I b), some (pv_I (nI (lj_ S b k + li_ S b k l))), some (pv_O (71, it)), some (pv_O (42, k)), some (pv_O (62, k)), some (pv_I (nI (s_n S k))), some (pv_I (nI l)), z8] [] h Q := by
  intro fuel
  induction fuel with
  | zero =>
    intro l z8 h1 h2
    omega
  | succ fuel ih =>
    intro l zz8 hl h2
    have h24 := I.n24 hk
    refine v_iload 49 dX12_leavesIn_47 rfl rfl ?_
    refine v_iload 51 dX12_leavesIn_49 rfl rfl ?_
    refine v_icmp_ge 84 54 dX12_leavesIn_51 (by decide) rfl (fun c51 => ?_) (fun c51 => ?_)
    · have hkm : l = s_n S k := by
        rcases Nat.lt_or_ge l (s_n S k) with q | q
        · exact absurd c51 (nI_ge q (by omega))
        · omega
      subst hkm
      exact K _
    · have hkm : l < s_n S k := by
        rcases Nat.lt_or_ge l (s_n S k) with q | q
        · exact q
        · exact absurd (nI_le q (by omega)) c51
      refine v_aload 56 dX12_leavesIn_54 rfl rfl ?_
      refine v_iload 58 dX12_leavesIn_56 rfl rfl ?_
      refine v_zald 59 dX12_leavesIn_58 (by first | assumption | rfl) (by rw [R.ln (t := 62) (by decide)]; exact in_nI hkm (by omega)) rfl ?_
      rw [nI_clamp (by omega), R.vi (t := 62) (by decide)]
      refine v_istore 61 dX12_leavesIn_59 (by decide) rfl rfl ?_
      dsimp only [List.set]
      refine v_iload_n 62 dX12_leavesIn_61 rfl rfl ?_
      refine v_iload 64 dX12_leavesIn_62 rfl rfl ?_
      refine v_if_ne 71 67 dX12_leavesIn_64 (by decide) rfl (fun c64 => ?_) (fun c64 => ?_)
      · refine v_iconstv (v := 1) 72 dX12_leavesIn_71 (by decide) rfl ?_
        refine v_goto 76 dX12_leavesIn_72 (by decide) ?_
        refine v_iadd 77 dX12_leavesIn_76 rfl ?_
        refine v_istore_n 78 dX12_leavesIn_77 (by decide) rfl rfl ?_
        dsimp only [List.set]
        refine v_iinc 81 dX12_leavesIn_78 rfl (by decide) rfl rfl ?_
        dsimp only [List.set]
        refine v_goto 47 dX12_leavesIn_81 (by decide) ?_
        rw [show nI l + Int32.ofInt 1 = nI (l + 1) from nI_1 l]
        have X := fun z => ih (l + 1) z (by omega) (by omega)
        rw [show lj_ S b k + li_ S b k (l + 1) = lj_ S b k + li_ S b k l + 1 from congrArg (fun y => lj_ S b k + (li_ S b k l + y)) (if_neg (fun w => c64 w.1))] at X
        rw [nI_1]
        exact X _
      · refine v_iload_n 68 dX12_leavesIn_67 rfl rfl ?_
        refine v_if_ne 75 71 dX12_leavesIn_68 (by decide) rfl (fun c68 => ?_) (fun c68 => ?_)
        · refine v_iconstv (v := 0) 76 dX12_leavesIn_75 (by decide) rfl ?_
          refine v_iadd 77 dX12_leavesIn_76 rfl ?_
          refine v_istore_n 78 dX12_leavesIn_77 (by decide) rfl rfl ?_
          dsimp only [List.set]
          refine v_iinc 81 dX12_leavesIn_78 rfl (by decide) rfl rfl ?_
          dsimp only [List.set]
          refine v_goto 47 dX12_leavesIn_81 (by decide) ?_
          rw [show nI l + Int32.ofInt 1 = nI (l + 1) from nI_1 l]
          have X := fun z => ih (l + 1) z (by omega) (by omega)
          rw [show lj_ S b k + li_ S b k (l + 1) = lj_ S b k + li_ S b k l from congrArg (fun y => lj_ S b k + (li_ S b k l + y)) (if_pos ⟨c64, c68⟩)] at X
          rw [Int32.add_zero]
          exact X _
        · refine v_iconstv (v := 1) 72 dX12_leavesIn_71 (by decide) rfl ?_
          refine v_goto 76 dX12_leavesIn_72 (by decide) ?_
          refine v_iadd 77 dX12_leavesIn_76 rfl ?_
          refine v_istore_n 78 dX12_leavesIn_77 (by decide) rfl rfl ?_
          dsimp only [List.set]
          refine v_iinc 81 dX12_leavesIn_78 rfl (by decide) rfl rfl ?_
          dsimp only [List.set]
          refine v_goto 47 dX12_leavesIn_81 (by decide) ?_
          rw [show nI l + Int32.ofInt 1 = nI (l + 1) from nI_1 l]
          have X := fun z => ih (l + 1) z (by omega) (by omega)
          rw [show lj_ S b k + li_ S b k (l + 1) = lj_ S b k + li_ S b k l + 1 from congrArg (fun y => lj_ S b k + (li_ S b k l + y)) (if_neg (fun w => w.2 c68))] at X
          rw [nI_1]
          exact X _
set_option maxRecDepth 20000 in
theorem L_X12_leavesIn {G : GW} {h0 : PH} {Q : RS → PH → Prop} {S : SP} {N : Nat} (I : Iv S N) {b : Int32} {it : Nat} (hq : ∀ h', Rp2 S h' → (∀ t, t ≠ 71 → hp_te h0 h' t) → ke_ h0 h' → Q (.inl (some (pv_I (nI (lj_ S b (nn_ S 1)))))) h') : ∀ fuel : Nat, ∀ (k : Nat) (z4 z5 z6 z7 z8 : Option PV) (h : PH), k ≤ nn_ S 1 → nn_ S 1 - k < fuel → Rp2 S h → is_I h it 51 0 k → ke_ h0 h → (∀ t, t ≠ 71 → hp_te h0 h t) → VV G 3 0 0 yX12_leavesIn cX12_leavesIn 9 (some .int) [] 12 [some (pv_O (40, 0)), some (pv_I b), some (pv_I (nI (lj_ S b k))), some (pv_O (71, it)), z4, z5, z6, z7, z8] [] h Q := by
  intro fuel
  induction fuel with
  | zero =>
    intro k z4 z5 z6 z7 z8 h h1 h2
    omega
  | succ fuel ih =>
    intro k zz4 zz5 zz6 zz7 zz8 h hk h2 R hI keh teh
    refine v_aload_n 13 dX12_leavesIn_12 rfl rfl ?_
    refine v_invf (z := ("java/util/ArrayList$Itr", TJx35411, 4)) (d' := 0) (k' := 0) (n' := 0) (k2 := 0) (n2 := 0) 18 [] dX12_leavesIn_13 mf_X12_292 md_Jx35411_hasNext_aae02 mi_Jx35411_hasNext_aae02 se_Jx35411_hasNext_aae02 (by simp [g_fw]; rfl) ⟨by decide, by decide +kernel⟩ (by first | assumption | rfl) (by rfl) rfl rfl (of_decide_eq_true rfl) rfl (by decide) rfl rfl rfl rfl (C_hn (tl := 51) (ta := 57) rfl rfl R.2.1.2.1 hI hk (fun g => ?_) (fun g => ?_))
    · refine v_if_eq 87 21 dX12_leavesIn_18 (by decide) rfl (fun c18 => ?_) (fun c18 => ?_)
      · first | exact absurd c18 (by decide) | exact absurd rfl c18 | exact absurd (of_decide_eq_true rfl) c18
      · refine v_aload_n 22 dX12_leavesIn_21 rfl rfl ?_
        refine v_invf (z := ("java/util/ArrayList$Itr", TJx35411, 4)) (d' := 1) (k' := 0) (n' := 0) (k2 := 0) (n2 := 0) 27 [] dX12_leavesIn_22 mf_X12_298 md_Jx35411_next_0502b mi_Jx35411_next_0502b se_Jx35411_next_0502b (by simp [g_fw]; rfl) ⟨by decide, by decide +kernel⟩ (by first | assumption | rfl) (by rfl) rfl rfl (of_decide_eq_true rfl) rfl (by decide) rfl rfl rfl rfl (C_nx (tl := 51) (ta := 57) rfl rfl R.2.1.2.1 (by decide) (by decide) hI g (fun h2 I2 te2 ke2 => ?_))
        have R2 : Rp2 S h2 := R.te (fun t ht => te2 t (by omega))
        refine v_cast 30 dX12_leavesIn_27 ⟨_, _, rfl, rfl, cl_X12_98⟩ rfl ?_
        refine v_astore 32 dX12_leavesIn_30 (by decide) rfl rfl ?_
        dsimp only [List.set]
        refine v_aload 34 dX12_leavesIn_32 rfl rfl ?_
        refine v_getfr 37 dX12_leavesIn_34 fl_X12_103 (by first | assumption | rfl) (by rfl) rfl ?_
        rw [R2.vr (t := 42) (by decide), I.us g]
        refine v_astore 39 dX12_leavesIn_37 (by decide) rfl rfl ?_
        dsimp only [List.set]
        refine v_aload 41 dX12_leavesIn_39 rfl rfl ?_
        refine v_alen 42 dX12_leavesIn_41 (by first | assumption | rfl) (by simp [g_tys]) rfl ?_
        rw [R2.ln (t := 62) (by decide), show hp_ln S.1 62 k = s_n S k from rfl]
        refine v_istore 44 dX12_leavesIn_42 (by decide) rfl rfl ?_
        dsimp only [List.set]
        refine v_iconstv (v := 0) 45 dX12_leavesIn_44 (by decide) rfl ?_
        refine v_istore 47 dX12_leavesIn_45 (by decide) rfl rfl ?_
        dsimp only [List.set]
        refine Li_X12_leavesIn R2 I g (fun z8 => ?_) _ 0 _ (Nat.zero_le _) (Nat.lt_succ_self _)
        refine v_goto 12 dX12_leavesIn_84 (by decide) ?_
        exact ih (k + 1) _ _ _ _ _ _ (by omega) (by omega) R2 I2 (keh.tr ke2) (fun t ht => (teh t ht).tr (te2 t ht))
    · refine v_if_eq 87 21 dX12_leavesIn_18 (by decide) rfl (fun c18 => ?_) (fun c18 => ?_)
      · refine v_iload_n 88 dX12_leavesIn_87 rfl rfl ?_
        refine v_ireturn dX12_leavesIn_88 rfl ?_
        subst g
        exact hq _ R teh keh
      · first | exact absurd c18 (by decide) | exact absurd rfl c18 | exact absurd (of_decide_eq_true rfl) c18
set_option maxRecDepth 20000 in
theorem C_X12_leavesIn {G : GW} {h : PH} {Q : RS → PH → Prop} {S : SP} {N : Nat} (R : Rp2 S h) (I : Iv S N) (Fr : fr_s h) {b : Int32} (hq : ∀ h', Rp2 S h' → (∀ t, t ≠ 71 → hp_te h h' t) → ke_ h h' → Q (.inl (some (pv_I (nI (lj_ S b (nn_ S 1)))))) h') : VV G 3 1 4 yX12_leavesIn cX12_leavesIn 9 (some .int) [] 0 (vv_en 9 [pv_O (40, 0), pv_I b]) [] h Q := by
  show VV G 3 1 4 yX12_leavesIn cX12_leavesIn 9 (some .int) [] 0 [some (pv_O (40, 0)), some (pv_I b), none, none, none, none, none, none, none] [] h Q
  refine v_iconstv (v := 0) 1 dX12_leavesIn_0 (by decide) rfl ?_
  refine v_istore_n 2 dX12_leavesIn_1 (by decide) rfl rfl ?_
  dsimp only [List.set]
  refine v_aload_n 3 dX12_leavesIn_2 rfl rfl ?_
  refine v_getfr 6 dX12_leavesIn_3 fl_X12_16 (by first | assumption | rfl) (by rfl) rfl ?_
  rw [R.1.1.2.2.1]
  refine v_invf (z := ("java/util/ArrayList", TJx4a65c, 3)) (d' := 2) (k' := 1) (n' := 4) (k2 := 0) (n2 := 0) 11 [] dX12_leavesIn_6 mf_X12_288 md_Jx4a65c_iterator_32c93 mi_Jx4a65c_iterator_32c93 se_Jx4a65c_iterator_32c93 (by simp [g_fw]; rfl) ⟨by decide, by decide +kernel⟩ (by first | assumption | rfl) (by rfl) rfl rfl (of_decide_eq_true rfl) rfl (by decide) rfl rfl rfl rfl (C_it (tl := 51) (ta := 57) rfl rfl R.2.1.2.1 Fr (by decide) (fun i1 h1 I1 te1 ke1 => ?_))
  have R1 : Rp2 S h1 := R.te (fun t ht => te1 t (by omega))
  refine v_astore_n 12 dX12_leavesIn_11 (by decide) rfl rfl ?_
  dsimp only [List.set]
  exact VV.less (by decide) (by decide) (by decide) (L_X12_leavesIn I hq _ 0 _ _ _ _ _ _ (Nat.zero_le _) (Nat.lt_succ_self _) R1 I1 ke1 te1)
set_option maxRecDepth 20000 in
theorem C_X12_usedShare {G : GW} {h : PH} {Q : RS → PH → Prop} {S : SP} {N : Nat} (R : Rp2 S h) (I : Iv S N) (Fr : fr_s h) (hq : ∀ v h', (¬ nn_ S 1 = 0 → v = op_us S) → Rp2 S h' → hp_vi h' 40 0 0 = (if nn_ S 1 = 0 then (1 : Int32) else 0) → ke_ h h' → Q (.inl (some (pv_F v))) h') : VV G 9 2 8 yX12_usedShare cX12_usedShare 1 (some .float) [] 0 (vv_en 1 [pv_O (40, 0)]) [] h Q := by
  show VV G 9 2 8 yX12_usedShare cX12_usedShare 1 (some .float) [] 0 [some (pv_O (40, 0))] [] h Q
  refine v_aload_n 1 dX12_usedShare_0 rfl rfl ?_
  refine v_invv (d' := 0) (k' := 0) (n' := 0) (k2 := 2) (n2 := 8) 4 [] dX12_usedShare_1 mt_X12_48 mi_X12_begins me_X12_begins (by first | assumption | rfl) (by rfl) rfl rfl (of_decide_eq_true rfl) rfl (by decide) rfl rfl rfl rfl (C2_begins R (fun h0 R e0 ke0 => ?_))
  refine v_aload_n 5 dX12_usedShare_4 rfl rfl ?_
  refine v_aload_n 6 dX12_usedShare_5 rfl rfl ?_
  refine v_getfr 9 dX12_usedShare_6 fl_X12_16 (by first | assumption | rfl) (by rfl) rfl ?_
  rw [R.1.1.2.2.1]
  refine v_invf (z := ("java/util/ArrayList", TJx4a65c, 3)) (d' := 0) (k' := 0) (n' := 0) (k2 := 2) (n2 := 8) 14 [] dX12_usedShare_9 mf_X12_382 md_Jx4a65c_isEmpty_aae02 mi_Jx4a65c_isEmpty_aae02 se_Jx4a65c_isEmpty_aae02 (by simp [g_fw]; rfl) ⟨by decide, by decide +kernel⟩ (by first | assumption | rfl) (by rfl) rfl rfl (of_decide_eq_true rfl) rfl (by decide) rfl rfl rfl rfl (C_ie (tl := 51) (ta := 57) rfl rfl R.2.1.2.1 (fun g => ?_) (fun g => ?_))
  · refine v_iconstv (v := 1) 15 dX12_usedShare_14 (by decide) rfl ?_
    refine v_invv (d' := 0) (k' := 0) (n' := 0) (k2 := 2) (n2 := 8) 18 [_, _] dX12_usedShare_15 mt_X12_67 mi_X12_fails me_X12_fails (by first | assumption | rfl) (by rfl) rfl rfl (of_decide_eq_true rfl) rfl (by decide) rfl rfl rfl rfl (C_f1 e0 (by decide) ?_)
    refine v_if_eq 25 21 dX12_usedShare_18 (by decide) rfl (fun c18 => ?_) (fun c18 => ?_)
    · first | exact absurd c18 (by decide) | exact absurd rfl c18 | exact absurd (of_decide_eq_true rfl) c18
    · refine v_fconst0 22 dX12_usedShare_21 rfl ?_
      refine v_goto 38 dX12_usedShare_22 (by decide) ?_
      refine v_freturn dX12_usedShare_38 rfl ?_
      exact hq _ _ (fun w => absurd g w) R.th (by rw [if_pos g]; exact hp_seti_at) (ke0.tr (ke_.i (by decide) (by decide)))
  · refine v_iconstv (v := 1) 15 dX12_usedShare_14 (by decide) rfl ?_
    refine v_invv (d' := 0) (k' := 0) (n' := 0) (k2 := 2) (n2 := 8) 18 [_, _] dX12_usedShare_15 mt_X12_67 mi_X12_fails me_X12_fails (by first | assumption | rfl) (by rfl) rfl rfl (of_decide_eq_true rfl) rfl (by decide) rfl rfl rfl rfl (C_f0 e0 ?_)
    refine v_if_eq 25 21 dX12_usedShare_18 (by decide) rfl (fun c18 => ?_) (fun c18 => ?_)
    · refine v_aload_n 26 dX12_usedShare_25 rfl rfl ?_
      refine v_iconstv (v := 1) 27 dX12_usedShare_26 (by decide) rfl ?_
      refine v_invv (d' := 3) (k' := 1) (n' := 4) (k2 := 1) (n2 := 4) 30 [_] dX12_usedShare_27 mt_X12_385 mi_X12_leavesIn me_X12_leavesIn (by first | assumption | rfl) (by rfl) rfl rfl (of_decide_eq_true rfl) rfl (by decide) rfl rfl rfl rfl (C_X12_leavesIn R I (ke0.2 Fr) (fun h1 R1 te1 ke1 => ?_))
      rw [lj_1]
      refine v_i2f 31 dX12_usedShare_30 rfl ?_
      refine v_aload_n 32 dX12_usedShare_31 rfl rfl ?_
      refine v_iconstv (v := 0) 33 dX12_usedShare_32 (by decide) rfl ?_
      refine v_invv (d' := 3) (k' := 1) (n' := 4) (k2 := 0) (n2 := 0) 36 [_] dX12_usedShare_33 mt_X12_385 mi_X12_leavesIn me_X12_leavesIn (by first | assumption | rfl) (by rfl) rfl rfl (of_decide_eq_true rfl) rfl (by decide) rfl rfl rfl rfl (C_X12_leavesIn R1 I (ke1.2 (ke0.2 Fr)) (fun h2 R2 te2 ke2 => ?_))
      rw [lj_0]
      refine v_i2f 37 dX12_usedShare_36 rfl ?_
      refine v_fdiv 38 dX12_usedShare_37 (vf32_of (us_nn I (as_0 I g))) rfl ?_
      refine v_freturn dX12_usedShare_38 rfl ?_
      exact hq _ _ (fun _ => rfl) R2 (by rw [if_neg g, (te2 40 (by decide)).2.2.1, (te1 40 (by decide)).2.2.1]; exact e0) ((ke0.tr ke1).tr ke2)
    · first | exact absurd c18 (by decide) | exact absurd rfl c18 | exact absurd (of_decide_eq_true rfl) c18
set_option maxRecDepth 20000 in
theorem Li_X12_meanFigure {G : GW} {h : PH} {Q : RS → PH → Prop} {S : SP} {N : Nat} (R : Rp2 S h) (I : Iv S N) {k it : Nat} (hk : k < nn_ S 1) (K : ∀ z4, VV G 9 1 4 yX12_meanFigure cX12_meanFigure 5 (some .double) [] 63 [some (pv_O (40, 0)), some (pv_I (mg_ S (k + 1))), some (pv_O (71, it)), some (pv_O (42, k)), z4] [] h Q) : ∀ fuel : Nat, ∀ (l : Nat), l ≤ s_n S k → s_n S k - l < fuel → VV G 9 1 4 yX12_meanFigure cX12_meanFigure 5 (some .double) [] 38 [some (pv_O (40, 0)), some (pv_I (mf_ S k (mg_ S k) l)), some (pv_O (71, it)), some (pv_O (42, k)), some (pv_I (nI l))] [] h Q := by
  intro fuel
  induction fuel with
  | zero =>
    intro l h1 h2
    omega
  | succ fuel ih =>
    intro l hl h2
    have h24 := I.n24 hk
    refine v_iload 40 dX12_meanFigure_38 rfl rfl ?_
    refine v_aload_n 41 dX12_meanFigure_40 rfl rfl ?_
    refine v_getfr 44 dX12_meanFigure_41 fl_X12_103 (by first | assumption | rfl) (by rfl) rfl ?_
    rw [R.vr (t := 42) (by decide), I.us hk]
    refine v_alen 45 dX12_meanFigure_44 (by first | assumption | rfl) (by simp [g_tys]) rfl ?_
    rw [R.ln (t := 62) (by decide), show hp_ln S.1 62 k = s_n S k from rfl]
    refine v_icmp_ge 63 48 dX12_meanFigure_45 (by decide) rfl (fun c45 => ?_) (fun c45 => ?_)
    · have hkm : l = s_n S k := by
        rcases Nat.lt_or_ge l (s_n S k) with q | q
        · exact absurd c45 (nI_ge q (by omega))
        · omega
      subst hkm
      exact K _
    · have hkm : l < s_n S k := by
        rcases Nat.lt_or_ge l (s_n S k) with q | q
        · exact q
        · exact absurd (nI_le q (by omega)) c45
      refine v_iload_n 49 dX12_meanFigure_48 rfl rfl ?_
      refine v_aload_n 50 dX12_meanFigure_49 rfl rfl ?_
      refine v_iload 52 dX12_meanFigure_50 rfl rfl ?_
      refine v_invv (d' := 1) (k' := 0) (n' := 0) (k2 := 1) (n2 := 4) 55 [_] dX12_meanFigure_52 mt_X12_120 mi_X7_figure me_X7_figure (by first | assumption | rfl) (by rfl) rfl rfl (of_decide_eq_true rfl) rfl (by decide) rfl rfl rfl rfl (C_X7_figure (R.tg (by decide)) (R.tg (by decide)) I hk ?_)
      refine v_iadd 56 dX12_meanFigure_55 rfl ?_
      refine v_istore_n 57 dX12_meanFigure_56 (by decide) rfl rfl ?_
      dsimp only [List.set]
      refine v_iinc 60 dX12_meanFigure_57 rfl (by decide) rfl rfl ?_
      dsimp only [List.set]
      refine v_goto 38 dX12_meanFigure_60 (by decide) ?_
      rw [show nI l + Int32.ofInt 1 = nI (l + 1) from nI_1 l]
      exact ih (l + 1) (by omega) (by omega)
set_option maxRecDepth 20000 in
theorem L_X12_meanFigure {G : GW} {h0 : PH} {Q : RS → PH → Prop} {S : SP} {N : Nat} (I : Iv S N) {it : Nat} (K : ∀ z3 z4 h, Rp2 S h → (∀ t, t ≠ 71 → hp_te h0 h t) → ke_ h0 h → VV G 9 1 4 yX12_meanFigure cX12_meanFigure 5 (some .double) [] 66 [some (pv_O (40, 0)), some (pv_I (mg_ S (nn_ S 1))), some (pv_O (71, it)), z3, z4] [] h Q) : ∀ fuel : Nat, ∀ (k : Nat) (z3 z4 : Option PV) (h : PH), k ≤ nn_ S 1 → nn_ S 1 - k < fuel → Rp2 S h → is_I h it 51 0 k → ke_ h0 h → (∀ t, t ≠ 71 → hp_te h0 h t) → VV G 9 1 4 yX12_meanFigure cX12_meanFigure 5 (some .double) [] 16 [some (pv_O (40, 0)), some (pv_I (mg_ S k)), some (pv_O (71, it)), z3, z4] [] h Q := by
  intro fuel
  induction fuel with
  | zero =>
    intro k z3 z4 h h1 h2
    omega
  | succ fuel ih =>
    intro k zz3 zz4 h hk h2 R hI keh teh
    refine v_aload_n 17 dX12_meanFigure_16 rfl rfl ?_
    refine v_invf (z := ("java/util/ArrayList$Itr", TJx35411, 4)) (d' := 0) (k' := 0) (n' := 0) (k2 := 1) (n2 := 4) 22 [] dX12_meanFigure_17 mf_X12_292 md_Jx35411_hasNext_aae02 mi_Jx35411_hasNext_aae02 se_Jx35411_hasNext_aae02 (by simp [g_fw]; rfl) ⟨by decide, by decide +kernel⟩ (by first | assumption | rfl) (by rfl) rfl rfl (of_decide_eq_true rfl) rfl (by decide) rfl rfl rfl rfl (C_hn (tl := 51) (ta := 57) rfl rfl R.2.1.2.1 hI hk (fun g => ?_) (fun g => ?_))
    · refine v_if_eq 66 25 dX12_meanFigure_22 (by decide) rfl (fun c22 => ?_) (fun c22 => ?_)
      · first | exact absurd c22 (by decide) | exact absurd rfl c22 | exact absurd (of_decide_eq_true rfl) c22
      · refine v_aload_n 26 dX12_meanFigure_25 rfl rfl ?_
        refine v_invf (z := ("java/util/ArrayList$Itr", TJx35411, 4)) (d' := 1) (k' := 0) (n' := 0) (k2 := 1) (n2 := 4) 31 [] dX12_meanFigure_26 mf_X12_298 md_Jx35411_next_0502b mi_Jx35411_next_0502b se_Jx35411_next_0502b (by simp [g_fw]; rfl) ⟨by decide, by decide +kernel⟩ (by first | assumption | rfl) (by rfl) rfl rfl (of_decide_eq_true rfl) rfl (by decide) rfl rfl rfl rfl (C_nx (tl := 51) (ta := 57) rfl rfl R.2.1.2.1 (by decide) (by decide) hI g (fun h2 I2 te2 ke2 => ?_))
        have R2 : Rp2 S h2 := R.te (fun t ht => te2 t (by omega))
        refine v_cast 34 dX12_meanFigure_31 ⟨_, _, rfl, rfl, cl_X12_98⟩ rfl ?_
        refine v_astore_n 35 dX12_meanFigure_34 (by decide) rfl rfl ?_
        dsimp only [List.set]
        refine v_iconstv (v := 0) 36 dX12_meanFigure_35 (by decide) rfl ?_
        refine v_istore 38 dX12_meanFigure_36 (by decide) rfl rfl ?_
        dsimp only [List.set]
        refine Li_X12_meanFigure R2 I g (fun z4 => ?_) _ 0 (Nat.zero_le _) (Nat.lt_succ_self _)
        refine v_goto 16 dX12_meanFigure_63 (by decide) ?_
        exact ih (k + 1) _ _ _ (by omega) (by omega) R2 I2 (keh.tr ke2) (fun t ht => (teh t ht).tr (te2 t ht))
    · refine v_if_eq 66 25 dX12_meanFigure_22 (by decide) rfl (fun c22 => ?_) (fun c22 => ?_)
      · subst g
        exact K _ _ _ R teh keh
      · first | exact absurd c22 (by decide) | exact absurd rfl c22 | exact absurd (of_decide_eq_true rfl) c22
set_option maxRecDepth 20000 in
theorem C_X12_meanFigure {G : GW} {h : PH} {Q : RS → PH → Prop} {S : SP} {N : Nat} (R : Rp2 S h) (I : Iv S N) (Fr : fr_s h) (hq : ∀ v h', (¬ nn_ S 1 = 0 → v = op_mf S) → Rp2 S h' → hp_vi h' 40 0 0 = (if nn_ S 1 = 0 then (1 : Int32) else 0) → ke_ h h' → Q (.inl (some (pv_D v))) h') : VV G 9 2 8 yX12_meanFigure cX12_meanFigure 5 (some .double) [] 0 (vv_en 5 [pv_O (40, 0)]) [] h Q := by
  show VV G 9 2 8 yX12_meanFigure cX12_meanFigure 5 (some .double) [] 0 [some (pv_O (40, 0)), none, none, none, none] [] h Q
  refine v_aload_n 1 dX12_meanFigure_0 rfl rfl ?_
  refine v_invv (d' := 0) (k' := 0) (n' := 0) (k2 := 2) (n2 := 8) 4 [] dX12_meanFigure_1 mt_X12_48 mi_X12_begins me_X12_begins (by first | assumption | rfl) (by rfl) rfl rfl (of_decide_eq_true rfl) rfl (by decide) rfl rfl rfl rfl (C2_begins R (fun h0 R e0 ke0 => ?_))
  have Fr := ke0.2 Fr
  refine v_iconstv (v := 0) 5 dX12_meanFigure_4 (by decide) rfl ?_
  refine v_istore_n 6 dX12_meanFigure_5 (by decide) rfl rfl ?_
  dsimp only [List.set]
  refine v_aload_n 7 dX12_meanFigure_6 rfl rfl ?_
  refine v_getfr 10 dX12_meanFigure_7 fl_X12_16 (by first | assumption | rfl) (by rfl) rfl ?_
  rw [R.1.1.2.2.1]
  refine v_invf (z := ("java/util/ArrayList", TJx4a65c, 3)) (d' := 2) (k' := 1) (n' := 4) (k2 := 1) (n2 := 4) 15 [] dX12_meanFigure_10 mf_X12_288 md_Jx4a65c_iterator_32c93 mi_Jx4a65c_iterator_32c93 se_Jx4a65c_iterator_32c93 (by simp [g_fw]; rfl) ⟨by decide, by decide +kernel⟩ (by first | assumption | rfl) (by rfl) rfl rfl (of_decide_eq_true rfl) rfl (by decide) rfl rfl rfl rfl (C_it (tl := 51) (ta := 57) rfl rfl R.2.1.2.1 Fr (by decide) (fun i1 h1 I1 te1 ke1 => ?_))
  have R1 : Rp2 S h1 := R.te (fun t ht => te1 t (by omega))
  refine v_astore_n 16 dX12_meanFigure_15 (by decide) rfl rfl ?_
  dsimp only [List.set]
  refine L_X12_meanFigure I (fun z3 z4 h R te2 ke2 => ?_) _ 0 _ _ _ (Nat.zero_le _) (Nat.lt_succ_self _) R1 I1 ke1 te1
  have e0 : hp_vi h 40 0 0 = 0 := by rw [(te2 40 (by decide)).2.2.1]; exact e0
  have ke0 := ke0.tr ke2
  refine v_aload_n 67 dX12_meanFigure_66 rfl rfl ?_
  refine v_aload_n 68 dX12_meanFigure_67 rfl rfl ?_
  refine v_getfr 71 dX12_meanFigure_68 fl_X12_16 (by first | assumption | rfl) (by rfl) rfl ?_
  rw [R.1.1.2.2.1]
  refine v_invf (z := ("java/util/ArrayList", TJx4a65c, 3)) (d' := 0) (k' := 0) (n' := 0) (k2 := 1) (n2 := 4) 76 [] dX12_meanFigure_71 mf_X12_382 md_Jx4a65c_isEmpty_aae02 mi_Jx4a65c_isEmpty_aae02 se_Jx4a65c_isEmpty_aae02 (by simp [g_fw]; rfl) ⟨by decide, by decide +kernel⟩ (by first | assumption | rfl) (by rfl) rfl rfl (of_decide_eq_true rfl) rfl (by decide) rfl rfl rfl rfl (C_ie (tl := 51) (ta := 57) rfl rfl R.2.1.2.1 (fun g => ?_) (fun g => ?_))
  · refine v_iconstv (v := 1) 77 dX12_meanFigure_76 (by decide) rfl ?_
    refine v_invv (d' := 0) (k' := 0) (n' := 0) (k2 := 1) (n2 := 4) 80 [_, _] dX12_meanFigure_77 mt_X12_67 mi_X12_fails me_X12_fails (by first | assumption | rfl) (by rfl) rfl rfl (of_decide_eq_true rfl) rfl (by decide) rfl rfl rfl rfl (C_f1 e0 (by decide) ?_)
    refine v_if_eq 87 83 dX12_meanFigure_80 (by decide) rfl (fun c80 => ?_) (fun c80 => ?_)
    · first | exact absurd c80 (by decide) | exact absurd rfl c80 | exact absurd (of_decide_eq_true rfl) c80
    · refine v_dconst0 84 dX12_meanFigure_83 rfl ?_
      refine v_goto 96 dX12_meanFigure_84 (by decide) ?_
      refine v_dreturn dX12_meanFigure_96 rfl ?_
      exact hq _ _ (fun w => absurd g w) R.th (by rw [if_pos g]; exact hp_seti_at) (ke0.tr (ke_.i (by decide) (by decide)))
  · refine v_iconstv (v := 1) 77 dX12_meanFigure_76 (by decide) rfl ?_
    refine v_invv (d' := 0) (k' := 0) (n' := 0) (k2 := 1) (n2 := 4) 80 [_, _] dX12_meanFigure_77 mt_X12_67 mi_X12_fails me_X12_fails (by first | assumption | rfl) (by rfl) rfl rfl (of_decide_eq_true rfl) rfl (by decide) rfl rfl rfl rfl (C_f0 e0 ?_)
    refine v_if_eq 87 83 dX12_meanFigure_80 (by decide) rfl (fun c80 => ?_) (fun c80 => ?_)
    · refine v_iload_n 88 dX12_meanFigure_87 rfl rfl ?_
      refine v_i2d 89 dX12_meanFigure_88 rfl ?_
      refine v_aload_n 90 dX12_meanFigure_89 rfl rfl ?_
      refine v_iconstv (v := 0) 91 dX12_meanFigure_90 (by decide) rfl ?_
      refine v_invv (d' := 3) (k' := 1) (n' := 4) (k2 := 0) (n2 := 0) 94 [_] dX12_meanFigure_91 mt_X12_385 mi_X12_leavesIn me_X12_leavesIn (by first | assumption | rfl) (by rfl) rfl rfl (of_decide_eq_true rfl) rfl (by decide) rfl rfl rfl rfl (C_X12_leavesIn R I (ke2.2 Fr) (fun h3 R3 te3 ke3 => ?_))
      rw [lj_0]
      refine v_i2d 95 dX12_meanFigure_94 rfl ?_
      refine v_ddiv 96 dX12_meanFigure_95 (vf64_of (mf_nn I (as_0 I g))) rfl ?_
      refine v_dreturn dX12_meanFigure_96 rfl ?_
      exact hq _ _ (fun _ => rfl) R3 (by rw [if_neg g, (te3 40 (by decide)).2.2.1]; exact e0) (ke0.tr ke3)
    · first | exact absurd c80 (by decide) | exact absurd rfl c80 | exact absurd (of_decide_eq_true rfl) c80
end VVRF
