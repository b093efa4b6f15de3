/-- whether a packet has a leaf -/
theorem s_hd_is {S : SP} {rr : RN} {u p f l lo : Nat} (w : ¬ rr.1 = 0) (I : i_pk S u p lo) (hl : l < 2 ^ 20) (hn : s_n S (hp_vr S.1 u p 0).2 ≤ 24) : (if (hp_vr S.1 u p 0).2 = f ∧ hp_vi S.1 u p 1 ≤ nI l ∧ nI l < hp_vi S.1 u p 1 + hp_vi S.1 u p 2 then (1 : Int32) else 0) = nI (s_hd S rr u p f l) := by
  obtain ⟨-, -, -, a, m, e1, e2, e3, e4, e5⟩ := I
  unfold s_hd cl_
  rw [e1, e2, nI_clamp (by omega), nI_clamp (by omega), nI_add]
  by_cases q : (hp_vr S.1 u p 0).2 = f ∧ a ≤ l ∧ l < a + m
  · rw [if_pos ⟨q.1, nI_le q.2.1 (by omega), nI_lt q.2.2 (by omega)⟩, if_pos ⟨w, q⟩]; rfl
  · rw [if_neg (fun z => q ⟨z.1, ?_, ?_⟩), if_neg (fun z => q z.2)]
    · rfl
    · rcases Nat.lt_or_ge l a with y | y
      · exact absurd z.2.1 (nI_ge y (by omega))
      · exact y
    · rcases Nat.lt_or_ge l (a + m) with y | y
      · exact y
      · exact absurd z.2.2 (nI_nlt y (by omega))
theorem s_hd_0 {S : SP} {rr : RN} {u p f l : Nat} (w : rr.1 = 0) : s_hd S rr u p f l = 0 := if_neg (fun z => z.1 w)
theorem s_hd_le {S : SP} {rr : RN} {u p f l : Nat} : s_hd S rr u p f l ≤ 1 := by unfold s_hd; split <;> omega
theorem s_u1_le (S : SP) (f l : Nat) : ∀ p, s_u1 S f l p ≤ 2 * p
  | 0 => Nat.le_refl 0
  | p + 1 => by
    have h1 := s_u1_le S f l p
    have h2 : s_hd S (s_fa S p) 46 p f l ≤ 1 := s_hd_le
    have h3 : s_hd S (s_ba S p) 47 p f l ≤ 1 := s_hd_le
    show s_u1 S f l p + _ + _ ≤ _
    omega
set_option maxRecDepth 20000 in
theorem C_X6_usesIn {G : GW} {h : PH} {Q : RS → PH → Prop} {S : SP} {rr r : RN} {t u p f l lo : Nat} (ht : tg_k t = some (.inl 7)) (e : r = if rr.1 = 0 then (0, 0) else (t, p)) (hp : ¬ rr.1 = 0 → pk_1 S h t u p ∧ i_pk S u p lo ∧ s_n S (hp_vr S.1 u p 0).2 ≤ 24) (hl : l < 2 ^ 20) (hq : Q (.inl (some (pv_I (nI (s_hd S rr u p f l))))) h) : VV G 1 0 0 yX6_usesIn cX6_usesIn 3 (some .int) [] 0 (vv_en 3 [pv_O r, pv_O (12, f), pv_I (nI l)]) [] h Q := by
  show VV G 1 0 0 yX6_usesIn cX6_usesIn 3 (some .int) [] 0 [some (pv_O r), some (pv_O (12, f)), some (pv_I (nI l))] [] h Q
  have h0 : t ≠ 0 := by
    intro q; rw [q] at ht; cases ht
  refine v_aload_n 1 dX6_usesIn_0 rfl rfl ?_
  refine v_ifnull 17 4 dX6_usesIn_1 (by decide) rfl (fun c1 => ?_) (fun c1 => ?_)
  · have w := ((rr_0 h0 e).1 c1).1
    rw [s_hd_0 w] at hq
    refine v_iconstv (v := 0) 18 dX6_usesIn_17 (by decide) rfl ?_
    refine v_ireturn dX6_usesIn_18 rfl ?_
    exact hq
  · obtain ⟨w, rfl⟩ := (rr_0 h0 e).2 c1
    obtain ⟨E, J, n24⟩ := hp w
    rw [← s_hd_is w J hl n24] at hq
    refine v_aload_n 5 dX6_usesIn_4 rfl rfl ?_
    refine v_aload_n 6 dX6_usesIn_5 rfl rfl ?_
    refine v_iload_n 7 dX6_usesIn_6 rfl rfl ?_
    refine v_invv (d' := 0) (k' := 0) (n' := 0) (k2 := 0) (n2 := 0) 10 [_, _] dX6_usesIn_7 mt_X6_384 mi_X3_holds me_X3_holds (by first | assumption | rfl) (by rfl) rfl rfl (of_decide_eq_true rfl) rfl (by decide) rfl rfl rfl rfl (C_X3_holds (f := (hp_vr S.1 u p 0).2) ht E.2.1 ?_)
    rw [E.2.2.1, E.2.2.2]
    refine v_if_eq 17 13 dX6_usesIn_10 (by decide) rfl (fun c10 => ?_) (fun c10 => ?_)
    · rw [f1_0.mp c10 |> if_neg] at hq
      refine v_iconstv (v := 0) 18 dX6_usesIn_17 (by decide) rfl ?_
      refine v_ireturn dX6_usesIn_18 rfl ?_
      exact hq
    · rw [if_pos (Decidable.not_not.mp (fun q => c10 (f1_0.mpr q)))] at hq
      refine v_iconstv (v := 1) 14 dX6_usesIn_13 (by decide) rfl ?_
      refine v_goto 18 dX6_usesIn_14 (by decide) ?_
      refine v_ireturn dX6_usesIn_18 rfl ?_
      exact hq
set_option maxRecDepth 20000 in
theorem L2_X6_countUses {G : GW} {h : PH} {Q : RS → PH → Prop} {S : SP} {N : Nat} (R : Rp1 S h) (I : Iv S N) {f l : Nat} (hl : l < 2 ^ 20) (hq : Q (.inl (some (pv_I (nI (s_u1 S f l (nn_ S 2) + s_u2 S f l (nn_ S 3)))))) h) : ∀ fuel : Nat, ∀ (k : Nat) (z5 : Option PV), k ≤ nn_ S 3 → nn_ S 3 - k < fuel → VV G 3 0 0 yX6_countUses cX6_countUses 6 (some .int) [] 64 [some (pv_O (10, 0)), some (pv_O (12, f)), some (pv_I (nI l)), some (pv_I (nI (s_u1 S f l (nn_ S 2) + s_u2 S f l k))), some (pv_I (nI k)), z5] [] h Q := by
  intro fuel
  induction fuel with
  | zero =>
    intro k z5 h1 h2
    omega
  | succ fuel ih =>
    intro k zz5 h1 h2
    obtain ⟨R0, RL, R1, R2, R3, R4, R5⟩ := id R
    obtain ⟨z0, z1, z2, z3, z4, z5⟩ := I.cs
    obtain ⟨cap, LL⟩ := id RL.2.2.2.1
    refine v_iload 66 dX6_countUses_64 rfl rfl ?_
    refine v_aload_n 67 dX6_countUses_66 rfl rfl ?_
    refine v_getfr 70 dX6_countUses_67 fl_X6_22 (by first | assumption | rfl) (by rfl) rfl ?_
    rw [R0.1.2.2.2.2.1]
    refine v_invv (d' := 0) (k' := 0) (n' := 0) (k2 := 0) (n2 := 0) 73 [] dX6_countUses_70 mt_X6_47 mi_Jx4a65c_size_8abf5 me_Jx4a65c_size_8abf5 (by first | assumption | rfl) (by rfl) rfl rfl (of_decide_eq_true rfl) rfl (by decide) rfl rfl rfl rfl (C_Jx4a65c_size_8abf5 (tl := 23) (ta := 28) rfl rfl LL ?_)
    refine v_icmp_ge 105 76 dX6_countUses_73 (by decide) rfl (fun c73 => ?_) (fun c73 => ?_)
    · have hkm : k = nn_ S 3 := by
        rcases Nat.lt_or_ge k (nn_ S 3) with q | q
        · exact absurd c73 (nI_ge q (by omega))
        · omega
      subst hkm
      refine v_iload_n 106 dX6_countUses_105 rfl rfl ?_
      refine v_ireturn dX6_countUses_106 rfl ?_
      exact hq
    · have hkm : k < nn_ S 3 := by
        rcases Nat.lt_or_ge k (nn_ S 3) with q | q
        · exact q
        · exact absurd (nI_le q (by omega)) c73
      refine v_iload_n 77 dX6_countUses_76 rfl rfl ?_
      refine v_aload_n 78 dX6_countUses_77 rfl rfl ?_
      refine v_getfr 81 dX6_countUses_78 fl_X6_22 (by first | assumption | rfl) (by rfl) rfl ?_
      rw [R0.1.2.2.2.2.1]
      refine v_iload 83 dX6_countUses_81 rfl rfl ?_
      refine v_invv (d' := 2) (k' := 0) (n' := 0) (k2 := 0) (n2 := 0) 86 [_] dX6_countUses_83 mt_X6_216 mi_Jx4a65c_get_915e3 me_Jx4a65c_get_915e3 (by first | assumption | rfl) (by rfl) rfl rfl (of_decide_eq_true rfl) rfl (by decide) rfl rfl rfl rfl (C_Jx4a65c_get_915e3 (tl := 23) (ta := 28) rfl rfl LL hkm ?_)
      have F := R4.1 k hkm
      refine v_cast 89 dX6_countUses_86 ⟨_, _, rfl, rfl, cl_X6_226⟩ rfl ?_
      refine v_getfr 92 dX6_countUses_89 fl_X6_241 (by first | assumption | rfl) (by rfl) rfl ?_
      refine v_aload_n 93 dX6_countUses_92 rfl rfl ?_
      refine v_iload_n 94 dX6_countUses_93 rfl rfl ?_
      refine v_invs (d' := 1) (k' := 0) (n' := 0) (k2 := 0) (n2 := 0) 97 [_, _, _] dX6_countUses_94 mt_X6_380 ms_X6_usesIn rfl rfl (of_decide_eq_true rfl) rfl (by decide) rfl rfl rfl rfl (C_X6_usesIn (S := S) (rr := s_pa S k) (t := 18) (u := 48) (p := k) (lo := 2) rfl F.1.2.2.2.2.2 (fun w => ⟨F.2.2.2.2.2.2 w, (I.pa hkm w).2, I.n24 (I.pa hkm w).2.2.2.1⟩) hl ?_)
      refine v_iadd 98 dX6_countUses_97 rfl ?_
      rw [nI_add, Nat.add_assoc]
      refine v_istore_n 99 dX6_countUses_98 (by decide) rfl rfl ?_
      dsimp only [List.set]
      refine v_iinc 102 dX6_countUses_99 rfl (by decide) rfl rfl ?_
      dsimp only [List.set]
      refine v_goto 64 dX6_countUses_102 (by decide) ?_
      rw [show nI k + Int32.ofInt 1 = nI (k + 1) from nI_1 k]
      exact ih (k + 1) _ (by omega) (by omega)
set_option maxRecDepth 20000 in
theorem L1_X6_countUses {G : GW} {h : PH} {Q : RS → PH → Prop} {S : SP} {N : Nat} (R : Rp1 S h) (I : Iv S N) {f l : Nat} (hl : l < 2 ^ 20) (hq : Q (.inl (some (pv_I (nI (s_u1 S f l (nn_ S 2) + s_u2 S f l (nn_ S 3)))))) h) : ∀ fuel : Nat, ∀ (k : Nat) (z5 : Option PV), k ≤ nn_ S 2 → nn_ S 2 - k < fuel → VV G 3 0 0 yX6_countUses cX6_countUses 6 (some .int) [] 5 [some (pv_O (10, 0)), some (pv_O (12, f)), some (pv_I (nI l)), some (pv_I (nI (s_u1 S f l k))), some (pv_I (nI k)), z5] [] h Q := by
  intro fuel
  induction fuel with
  | zero =>
    intro k z5 h1 h2
    omega
  | succ fuel ih =>
    intro k zz5 h1 h2
    obtain ⟨R0, RL, R1, R2, R3, R4, R5⟩ := id R
    obtain ⟨z0, z1, z2, z3, z4, z5⟩ := I.cs
    obtain ⟨cap, LL⟩ := id RL.2.2.1
    refine v_iload 7 dX6_countUses_5 rfl rfl ?_
    refine v_aload_n 8 dX6_countUses_7 rfl rfl ?_
    refine v_getfr 11 dX6_countUses_8 fl_X6_19 (by first | assumption | rfl) (by rfl) rfl ?_
    rw [R0.1.2.2.2.1]
    refine v_invv (d' := 0) (k' := 0) (n' := 0) (k2 := 0) (n2 := 0) 14 [] dX6_countUses_11 mt_X6_47 mi_Jx4a65c_size_8abf5 me_Jx4a65c_size_8abf5 (by first | assumption | rfl) (by rfl) rfl rfl (of_decide_eq_true rfl) rfl (by decide) rfl rfl rfl rfl (C_Jx4a65c_size_8abf5 (tl := 22) (ta := 27) rfl rfl LL ?_)
    refine v_icmp_ge 61 17 dX6_countUses_14 (by decide) rfl (fun c14 => ?_) (fun c14 => ?_)
    · have hkm : k = nn_ S 2 := by
        rcases Nat.lt_or_ge k (nn_ S 2) with q | q
        · exact absurd c14 (nI_ge q (by omega))
        · omega
      subst hkm
      refine v_iconstv (v := 0) 62 dX6_countUses_61 (by decide) rfl ?_
      refine v_istore 64 dX6_countUses_62 (by decide) rfl rfl ?_
      dsimp only [List.set]
      exact L2_X6_countUses R I hl hq (nn_ S 3 + 1) 0 _ (Nat.zero_le _) (by omega)
    · have hkm : k < nn_ S 2 := by
        rcases Nat.lt_or_ge k (nn_ S 2) with q | q
        · exact q
        · exact absurd (nI_le q (by omega)) c14
      refine v_aload_n 18 dX6_countUses_17 rfl rfl ?_
      refine v_getfr 21 dX6_countUses_18 fl_X6_19 (by first | assumption | rfl) (by rfl) rfl ?_
      rw [R0.1.2.2.2.1]
      refine v_iload 23 dX6_countUses_21 rfl rfl ?_
      refine v_invv (d' := 2) (k' := 0) (n' := 0) (k2 := 0) (n2 := 0) 26 [_] dX6_countUses_23 mt_X6_216 mi_Jx4a65c_get_915e3 me_Jx4a65c_get_915e3 (by first | assumption | rfl) (by rfl) rfl rfl (of_decide_eq_true rfl) rfl (by decide) rfl rfl rfl rfl (C_Jx4a65c_get_915e3 (tl := 22) (ta := 27) rfl rfl LL hkm ?_)
      have F := R3.1 k hkm
      refine v_cast 29 dX6_countUses_26 ⟨_, _, rfl, rfl, cl_X6_108⟩ rfl ?_
      refine v_astore 31 dX6_countUses_29 (by decide) rfl rfl ?_
      dsimp only [List.set]
      refine v_iload_n 32 dX6_countUses_31 rfl rfl ?_
      refine v_aload 34 dX6_countUses_32 rfl rfl ?_
      refine v_getfr 37 dX6_countUses_34 fl_X6_123 (by first | assumption | rfl) (by rfl) rfl ?_
      refine v_aload_n 38 dX6_countUses_37 rfl rfl ?_
      refine v_iload_n 39 dX6_countUses_38 rfl rfl ?_
      refine v_invs (d' := 1) (k' := 0) (n' := 0) (k2 := 0) (n2 := 0) 42 [_, _, _] dX6_countUses_39 mt_X6_380 ms_X6_usesIn rfl rfl (of_decide_eq_true rfl) rfl (by decide) rfl rfl rfl rfl (C_X6_usesIn (S := S) (rr := s_fa S k) (t := 16) (u := 46) (p := k) (lo := 1) rfl F.1.2.1 (fun w => ⟨F.2.2.2.2.1 w, (I.fa hkm w).2, I.n24 (I.fa hkm w).2.2.2.1⟩) hl ?_)
      refine v_aload 44 dX6_countUses_42 rfl rfl ?_
      refine v_getfr 47 dX6_countUses_44 fl_X6_159 (by first | assumption | rfl) (by rfl) rfl ?_
      refine v_aload_n 48 dX6_countUses_47 rfl rfl ?_
      refine v_iload_n 49 dX6_countUses_48 rfl rfl ?_
      refine v_invs (d' := 1) (k' := 0) (n' := 0) (k2 := 0) (n2 := 0) 52 [_, _, _] dX6_countUses_49 mt_X6_380 ms_X6_usesIn rfl rfl (of_decide_eq_true rfl) rfl (by decide) rfl rfl rfl rfl (C_X6_usesIn (S := S) (rr := s_ba S k) (t := 17) (u := 47) (p := k) (lo := 1) rfl F.1.2.2 (fun w => ⟨F.2.2.2.2.2.2 w, (I.ba hkm w).2, I.n24 (I.ba hkm w).2.2.2.1⟩) hl ?_)
      refine v_iadd 53 dX6_countUses_52 rfl ?_
      rw [nI_add]
      refine v_iadd 54 dX6_countUses_53 rfl ?_
      rw [nI_add, ← Nat.add_assoc]
      refine v_istore_n 55 dX6_countUses_54 (by decide) rfl rfl ?_
      dsimp only [List.set]
      refine v_iinc 58 dX6_countUses_55 rfl (by decide) rfl rfl ?_
      dsimp only [List.set]
      refine v_goto 5 dX6_countUses_58 (by decide) ?_
      rw [show nI k + Int32.ofInt 1 = nI (k + 1) from nI_1 k]
      exact ih (k + 1) _ (by omega) (by omega)
set_option maxRecDepth 20000 in
theorem C_X6_countUses {G : GW} {h : PH} {Q : RS → PH → Prop} {S : SP} {N : Nat} (R : Rp1 S h) (I : Iv S N) {f l : Nat} (hl : l < 2 ^ 20) (hq : Q (.inl (some (pv_I (nI (s_u1 S f l (nn_ S 2) + s_u2 S f l (nn_ S 3)))))) h) : VV G 3 0 0 yX6_countUses cX6_countUses 6 (some .int) [] 0 (vv_en 6 [pv_O (10, 0), pv_O (12, f), pv_I (nI l)]) [] h Q := by
  show VV G 3 0 0 yX6_countUses cX6_countUses 6 (some .int) [] 0 [some (pv_O (10, 0)), some (pv_O (12, f)), some (pv_I (nI l)), none, none, none] [] h Q
  refine v_iconstv (v := 0) 1 dX6_countUses_0 (by decide) rfl ?_
  refine v_istore_n 2 dX6_countUses_1 (by decide) rfl rfl ?_
  dsimp only [List.set]
  refine v_iconstv (v := 0) 3 dX6_countUses_2 (by decide) rfl ?_
  refine v_istore 5 dX6_countUses_3 (by decide) rfl rfl ?_
  dsimp only [List.set]
  exact L1_X6_countUses R I hl hq (nn_ S 2 + 1) 0 _ (Nat.zero_le _) (by omega)
set_option maxRecDepth 20000 in
theorem Li_X6_usesAgree {G : GW} {h : PH} {Q : RS → PH → Prop} {S : SP} {N : Nat} (R : Rp1 S h) (I : Iv S N) {f : Nat} {y : Int32} (hf : f < nn_ S 1) (K : VV G 4 0 0 yX6_usesAgree cX6_usesAgree 4 (some .boolean) [] 65 [some (pv_O (10, 0)), some (pv_I y), some (pv_O (12, f)), some (pv_I (nI (s_n S f)))] [] h Q) : ∀ fuel : Nat, ∀ (l : Nat), l ≤ s_n S f → s_n S f - l < fuel → VV G 4 0 0 yX6_usesAgree cX6_usesAgree 4 (some .boolean) [] 27 [some (pv_O (10, 0)), some (pv_I y), some (pv_O (12, f)), some (pv_I (nI l))] [] h Q := by
  intro fuel
  induction fuel with
  | zero =>
    intro l h1 h2
    omega
  | succ fuel ih =>
    intro l h1 h2
    have h24 := I.n24 hf
    have F := R.2.2.2.1.1 f hf
    refine v_iload_n 28 dX6_usesAgree_27 rfl rfl ?_
    refine v_aload_n 29 dX6_usesAgree_28 rfl rfl ?_
    refine v_getfi 32 dX6_usesAgree_29 fl_X6_85 (by first | assumption | rfl) (by rfl) rfl ?_
    rw [F.2.1.2.2.2.1]
    refine v_icmp_ge 65 35 dX6_usesAgree_32 (by decide) rfl (fun c32 => ?_) (fun c32 => ?_)
    · have hkm : l = s_n S f := by
        rcases Nat.lt_or_ge l (s_n S f) with q | q
        · exact absurd c32 (nI_ge q (by omega))
        · omega
      subst hkm
      exact K
    · have hkm : l < s_n S f := by
        rcases Nat.lt_or_ge l (s_n S f) with q | q
        · exact q
        · exact absurd (nI_le q (by omega)) c32
      have hok : ok_i (nI l) (s_n S f) := ok_i.of hkm (by omega)
      have hu := I.2.2.2.2.2.2.2 f l hf hkm
      refine v_aload_n 36 dX6_usesAgree_35 rfl rfl ?_
      refine v_aload_n 37 dX6_usesAgree_36 rfl rfl ?_
      refine v_iload_n 38 dX6_usesAgree_37 rfl rfl ?_
      refine v_invv (d' := 3) (k' := 0) (n' := 0) (k2 := 0) (n2 := 0) 41 [_, _] dX6_usesAgree_38 mt_X6_376 mi_X6_countUses me_X6_countUses (by first | assumption | rfl) (by rfl) rfl rfl (of_decide_eq_true rfl) rfl (by decide) rfl rfl rfl rfl (C_X6_countUses R I (by omega) ?_)
      rw [hu]
      refine v_aload_n 42 dX6_usesAgree_41 rfl rfl ?_
      refine v_iload_n 43 dX6_usesAgree_42 rfl rfl ?_
      refine v_invv (d' := 1) (k' := 0) (n' := 0) (k2 := 0) (n2 := 0) 46 [_] dX6_usesAgree_43 mt_X6_102 mi_X0_isTaken me_X0_isTaken (by first | assumption | rfl) (by rfl) rfl rfl (of_decide_eq_true rfl) rfl (by decide) rfl rfl rfl rfl (C_X0_isTaken F (I.n24 hf) (I.u01 hf) ?_)
      rw [if_pos hok, show cl_ (nI l) = l from nI_clamp (by omega)]
      refine v_if_eq 53 49 dX6_usesAgree_46 (by decide) rfl (fun c46 => ?_) (fun c46 => ?_)
      · rw [if_pos c46]
        refine v_iconstv (v := 0) 54 dX6_usesAgree_53 (by decide) rfl ?_
        refine v_icmp_eq 59 57 dX6_usesAgree_54 (by decide) rfl (fun c54 => ?_) (fun c54 => ?_)
        · refine v_iinc 62 dX6_usesAgree_59 rfl (by decide) rfl rfl ?_
          dsimp only [List.set]
          refine v_goto 27 dX6_usesAgree_62 (by decide) ?_
          rw [show nI l + Int32.ofInt 1 = nI (l + 1) from nI_1 l]
          exact ih (l + 1) (by omega) (by omega)
        · exact absurd rfl c54
      · rw [if_neg c46]
        refine v_iconstv (v := 1) 50 dX6_usesAgree_49 (by decide) rfl ?_
        refine v_goto 54 dX6_usesAgree_50 (by decide) ?_
        refine v_icmp_eq 59 57 dX6_usesAgree_54 (by decide) rfl (fun c54 => ?_) (fun c54 => ?_)
        · refine v_iinc 62 dX6_usesAgree_59 rfl (by decide) rfl rfl ?_
          dsimp only [List.set]
          refine v_goto 27 dX6_usesAgree_62 (by decide) ?_
          rw [show nI l + Int32.ofInt 1 = nI (l + 1) from nI_1 l]
          exact ih (l + 1) (by omega) (by omega)
        · exact absurd rfl c54
set_option maxRecDepth 20000 in
theorem L_X6_usesAgree {G : GW} {h : PH} {Q : RS → PH → Prop} {S : SP} {N : Nat} (R : Rp1 S h) (I : Iv S N) (hq : Q (.inl (some (pv_I 1))) h) : ∀ fuel : Nat, ∀ (k : Nat) (z3 z4 : Option PV), k ≤ nn_ S 1 → nn_ S 1 - k < fuel → VV G 4 0 0 yX6_usesAgree cX6_usesAgree 4 (some .boolean) [] 2 [some (pv_O (10, 0)), some (pv_I (nI k)), z3, z4] [] h Q := by
  intro fuel
  induction fuel with
  | zero =>
    intro k z3 z4 h1 h2
    omega
  | succ fuel ih =>
    intro k zz3 zz4 h1 h2
    obtain ⟨R0, RL, R1, R2, R3, R4, R5⟩ := id R
    obtain ⟨z0, z1, z2, z3, z4, z5⟩ := I.cs
    obtain ⟨cap, LL⟩ := id RL.2.1
    refine v_iload_n 3 dX6_usesAgree_2 rfl rfl ?_
    refine v_aload_n 4 dX6_usesAgree_3 rfl rfl ?_
    refine v_getfr 7 dX6_usesAgree_4 fl_X6_16 (by first | assumption | rfl) (by rfl) rfl ?_
    rw [R0.1.2.2.1]
    refine v_invv (d' := 0) (k' := 0) (n' := 0) (k2 := 0) (n2 := 0) 10 [] dX6_usesAgree_7 mt_X6_47 mi_Jx4a65c_size_8abf5 me_Jx4a65c_size_8abf5 (by first | assumption | rfl) (by rfl) rfl rfl (of_decide_eq_true rfl) rfl (by decide) rfl rfl rfl rfl (C_Jx4a65c_size_8abf5 (tl := 21) (ta := 26) rfl rfl LL ?_)
    refine v_icmp_ge 71 13 dX6_usesAgree_10 (by decide) rfl (fun c10 => ?_) (fun c10 => ?_)
    · have hkm : k = nn_ S 1 := by
        rcases Nat.lt_or_ge k (nn_ S 1) with q | q
        · exact absurd c10 (nI_ge q (by omega))
        · omega
      subst hkm
      refine v_iconstv (v := 1) 72 dX6_usesAgree_71 (by decide) rfl ?_
      refine v_zreturn (ty := .boolean) (by first | rfl | decide | exact nz_if | exact nz_fi) dX6_usesAgree_72 rfl ?_
      exact hq
    · have hkm : k < nn_ S 1 := by
        rcases Nat.lt_or_ge k (nn_ S 1) with q | q
        · exact q
        · exact absurd (nI_le q (by omega)) c10
      refine v_aload_n 14 dX6_usesAgree_13 rfl rfl ?_
      refine v_getfr 17 dX6_usesAgree_14 fl_X6_16 (by first | assumption | rfl) (by rfl) rfl ?_
      rw [R0.1.2.2.1]
      refine v_iload_n 18 dX6_usesAgree_17 rfl rfl ?_
      refine v_invv (d' := 2) (k' := 0) (n' := 0) (k2 := 0) (n2 := 0) 21 [_] dX6_usesAgree_18 mt_X6_216 mi_Jx4a65c_get_915e3 me_Jx4a65c_get_915e3 (by first | assumption | rfl) (by rfl) rfl rfl (of_decide_eq_true rfl) rfl (by decide) rfl rfl rfl rfl (C_Jx4a65c_get_915e3 (tl := 21) (ta := 26) rfl rfl LL hkm ?_)
      refine v_cast 24 dX6_usesAgree_21 ⟨_, _, rfl, rfl, cl_X6_76⟩ rfl ?_
      refine v_astore_n 25 dX6_usesAgree_24 (by decide) rfl rfl ?_
      dsimp only [List.set]
      refine v_iconstv (v := 0) 26 dX6_usesAgree_25 (by decide) rfl ?_
      refine v_istore_n 27 dX6_usesAgree_26 (by decide) rfl rfl ?_
      dsimp only [List.set]
      refine Li_X6_usesAgree R I hkm ?_ (s_n S k + 1) 0 (Nat.zero_le _) (by omega)
      refine v_iinc 68 dX6_usesAgree_65 rfl (by decide) rfl rfl ?_
      dsimp only [List.set]
      refine v_goto 2 dX6_usesAgree_68 (by decide) ?_
      rw [show nI k + Int32.ofInt 1 = nI (k + 1) from nI_1 k]
      exact ih (k + 1) _ _ (by omega) (by omega)
set_option maxRecDepth 20000 in
theorem C_X6_usesAgree {G : GW} {h : PH} {Q : RS → PH → Prop} {S : SP} {N : Nat} (R : Rp1 S h) (I : Iv S N) (hq : Q (.inl (some (pv_I 1))) h) : VV G 4 0 0 yX6_usesAgree cX6_usesAgree 4 (some .boolean) [] 0 (vv_en 4 [pv_O (10, 0)]) [] h Q := by
  show VV G 4 0 0 yX6_usesAgree cX6_usesAgree 4 (some .boolean) [] 0 [some (pv_O (10, 0)), none, none, none] [] h Q
  refine v_iconstv (v := 0) 1 dX6_usesAgree_0 (by decide) rfl ?_
  refine v_istore_n 2 dX6_usesAgree_1 (by decide) rfl rfl ?_
  dsimp only [List.set]
  exact L_X6_usesAgree R I hq (nn_ S 1 + 1) 0 _ _ (Nat.zero_le _) (by omega)
set_option maxRecDepth 20000 in
theorem L_X6_placesAgree {G : GW} {h : PH} {Q : RS → PH → Prop} {S : SP} {N : Nat} (R : Rp1 S h) (I : Iv S N) (hq : Q (.inl (some (pv_I 1))) h) : ∀ fuel : Nat, ∀ (k : Nat), k ≤ nn_ S 3 → nn_ S 3 - k < fuel → VV G 3 0 0 yX6_placesAgree cX6_placesAgree 2 (some .boolean) [] 2 [some (pv_O (10, 0)), some (pv_I (nI k))] [] h Q := by
  intro fuel
  induction fuel with
  | zero =>
    intro k h1 h2
    omega
  | succ fuel ih =>
    intro k h1 h2
    obtain ⟨R0, RL, R1, R2, R3, R4, R5⟩ := id R
    obtain ⟨z0, z1, z2, z3, z4, z5⟩ := I.cs
    obtain ⟨cap, LL⟩ := id RL.2.2.2.1
    refine v_iload_n 3 dX6_placesAgree_2 rfl rfl ?_
    refine v_aload_n 4 dX6_placesAgree_3 rfl rfl ?_
    refine v_getfr 7 dX6_placesAgree_4 fl_X6_22 (by first | assumption | rfl) (by rfl) rfl ?_
    rw [R0.1.2.2.2.2.1]
    refine v_invv (d' := 0) (k' := 0) (n' := 0) (k2 := 0) (n2 := 0) 10 [] dX6_placesAgree_7 mt_X6_47 mi_Jx4a65c_size_8abf5 me_Jx4a65c_size_8abf5 (by first | assumption | rfl) (by rfl) rfl rfl (of_decide_eq_true rfl) rfl (by decide) rfl rfl rfl rfl (C_Jx4a65c_size_8abf5 (tl := 23) (ta := 28) rfl rfl LL ?_)
    refine v_icmp_ge 40 13 dX6_placesAgree_10 (by decide) rfl (fun c10 => ?_) (fun c10 => ?_)
    · have hkm : k = nn_ S 3 := by
        rcases Nat.lt_or_ge k (nn_ S 3) with q | q
        · exact absurd c10 (nI_ge q (by omega))
        · omega
      subst hkm
      refine v_iconstv (v := 1) 41 dX6_placesAgree_40 (by decide) rfl ?_
      refine v_zreturn (ty := .boolean) (by first | rfl | decide | exact nz_if | exact nz_fi) dX6_placesAgree_41 rfl ?_
      exact hq
    · have hkm : k < nn_ S 3 := by
        rcases Nat.lt_or_ge k (nn_ S 3) with q | q
        · exact q
        · exact absurd (nI_le q (by omega)) c10
      refine v_aload_n 14 dX6_placesAgree_13 rfl rfl ?_
      refine v_getfr 17 dX6_placesAgree_14 fl_X6_22 (by first | assumption | rfl) (by rfl) rfl ?_
      rw [R0.1.2.2.2.2.1]
      refine v_iload_n 18 dX6_placesAgree_17 rfl rfl ?_
      refine v_invv (d' := 2) (k' := 0) (n' := 0) (k2 := 0) (n2 := 0) 21 [_] dX6_placesAgree_18 mt_X6_216 mi_Jx4a65c_get_915e3 me_Jx4a65c_get_915e3 (by first | assumption | rfl) (by rfl) rfl rfl (of_decide_eq_true rfl) rfl (by decide) rfl rfl rfl rfl (C_Jx4a65c_get_915e3 (tl := 23) (ta := 28) rfl rfl LL hkm ?_)
      have F := R4.1 k hkm
      refine v_cast 24 dX6_placesAgree_21 ⟨_, _, rfl, rfl, cl_X6_226⟩ rfl ?_
      refine v_getfi 27 dX6_placesAgree_24 fl_X6_388 (by first | assumption | rfl) (by rfl) rfl ?_
      rw [F.2.1.2.2]
      refine v_bipushv (v := 64) 29 dX6_placesAgree_27 (by decide) rfl ?_
      refine v_icmp_eq 34 32 dX6_placesAgree_29 (by decide) rfl (fun c29 => ?_) (fun c29 => ?_)
      · refine v_iinc 37 dX6_placesAgree_34 rfl (by decide) rfl rfl ?_
        dsimp only [List.set]
        refine v_goto 2 dX6_placesAgree_37 (by decide) ?_
        rw [show nI k + Int32.ofInt 1 = nI (k + 1) from nI_1 k]
        exact ih (k + 1) (by omega) (by omega)
      · exact absurd rfl c29
set_option maxRecDepth 20000 in
theorem C_X6_placesAgree {G : GW} {h : PH} {Q : RS → PH → Prop} {S : SP} {N : Nat} (R : Rp1 S h) (I : Iv S N) (hq : Q (.inl (some (pv_I 1))) h) : VV G 3 0 0 yX6_placesAgree cX6_placesAgree 2 (some .boolean) [] 0 (vv_en 2 [pv_O (10, 0)]) [] h Q := by
  show VV G 3 0 0 yX6_placesAgree cX6_placesAgree 2 (some .boolean) [] 0 [some (pv_O (10, 0)), none] [] h Q
  refine v_iconstv (v := 0) 1 dX6_placesAgree_0 (by decide) rfl ?_
  refine v_istore_n 2 dX6_placesAgree_1 (by decide) rfl rfl ?_
  dsimp only [List.set]
  exact L_X6_placesAgree R I hq (nn_ S 3 + 1) 0 (Nat.zero_le _) (by omega)
set_option maxRecDepth 20000 in
theorem C_X6_isTrue {G : GW} {h : PH} {Q : RS → PH → Prop} {S : SP} {N : Nat} (R : Rp1 S h) (I : Iv S N) (hq : Q (.inl (some (pv_I 1))) h) : VV G 6 0 0 yX6_isTrue cX6_isTrue 1 (some .boolean) [] 0 (vv_en 1 [pv_O (10, 0)]) [] h Q := by
  show VV G 6 0 0 yX6_isTrue cX6_isTrue 1 (some .boolean) [] 0 [some (pv_O (10, 0))] [] h Q
  refine v_aload_n 1 dX6_isTrue_0 rfl rfl ?_
  refine v_invv (d' := 5) (k' := 0) (n' := 0) (k2 := 0) (n2 := 0) 4 [] dX6_isTrue_1 mt_X6_334 mi_X6_areasAgree me_X6_areasAgree (by first | assumption | rfl) (by rfl) rfl rfl (of_decide_eq_true rfl) rfl (by decide) rfl rfl rfl rfl (C_X6_areasAgree R I ?_)
  refine v_if_eq 25 7 dX6_isTrue_4 (by decide) rfl (fun c4 => ?_) (fun c4 => ?_)
  · exact absurd c4 (by decide)
  · refine v_aload_n 8 dX6_isTrue_7 rfl rfl ?_
    refine v_invv (d' := 4) (k' := 0) (n' := 0) (k2 := 0) (n2 := 0) 11 [] dX6_isTrue_8 mt_X6_337 mi_X6_usesAgree me_X6_usesAgree (by first | assumption | rfl) (by rfl) rfl rfl (of_decide_eq_true rfl) rfl (by decide) rfl rfl rfl rfl (C_X6_usesAgree R I ?_)
    refine v_if_eq 25 14 dX6_isTrue_11 (by decide) rfl (fun c11 => ?_) (fun c11 => ?_)
    · exact absurd c11 (by decide)
    · refine v_aload_n 15 dX6_isTrue_14 rfl rfl ?_
      refine v_invv (d' := 3) (k' := 0) (n' := 0) (k2 := 0) (n2 := 0) 18 [] dX6_isTrue_15 mt_X6_340 mi_X6_placesAgree me_X6_placesAgree (by first | assumption | rfl) (by rfl) rfl rfl (of_decide_eq_true rfl) rfl (by decide) rfl rfl rfl rfl (C_X6_placesAgree R I ?_)
      refine v_if_eq 25 21 dX6_isTrue_18 (by decide) rfl (fun c18 => ?_) (fun c18 => ?_)
      · exact absurd c18 (by decide)
      · refine v_iconstv (v := 1) 22 dX6_isTrue_21 (by decide) rfl ?_
        refine v_goto 26 dX6_isTrue_22 (by decide) ?_
        refine v_zreturn (ty := .boolean) (by first | rfl | decide | exact nz_if | exact nz_fi) dX6_isTrue_26 rfl ?_
        exact hq
def c1_ (S : SP) : Nat → Int64
  | 0 => 7
  | k + 1 => 31 * c1_ S k + (nI (s_uc S k (s_n S k))).toInt64
def c2_ (S : SP) (x : Int64) : Nat → Int64
  | 0 => x
  | k + 1 => 31 * c2_ S x k + (s_wo S k).toInt64
def c3_ (S : SP) (x : Int64) : Nat → Int64
  | 0 => x
  | k + 1 => 31 * c3_ S x k + (nI (nn_ S (20 + k))).toInt64
def op_checksum (S : SP) : Int64 := 31 * c3_ S (c2_ S (c1_ S (nn_ S 1)) (nn_ S 2)) (nn_ S 3) + (hp_vi S.1 40 0 10).toInt64
set_option maxRecDepth 20000 in
theorem L3_X6_checksum {G : GW} {h : PH} {Q : RS → PH → Prop} {S : SP} {N : Nat} (R : Rp1 S h) (I : Iv S N) (hq : Q (.inl (some (pv_L (op_checksum S)))) h) : ∀ fuel : Nat, ∀ (k : Nat), k ≤ nn_ S 3 → nn_ S 3 - k < fuel → VV G 3 0 0 yX6_checksum cX6_checksum 4 (some .long) [] 88 [some (pv_O (10, 0)), some (pv_L (c3_ S (c2_ S (c1_ S (nn_ S 1)) (nn_ S 2)) k)), none, some (pv_I (nI k))] [] h Q := by
  intro fuel
  induction fuel with
  | zero =>
    intro k h1 h2
    omega
  | succ fuel ih =>
    intro k h1 h2
    obtain ⟨R0, RL, R1, R2, R3, R4, R5⟩ := id R
    obtain ⟨z0, z1, z2, z3, z4, z5⟩ := I.cs
    obtain ⟨cap, LL⟩ := id RL.2.2.2.1
    refine v_iload_n 89 dX6_checksum_88 rfl rfl ?_
    refine v_aload_n 90 dX6_checksum_89 rfl rfl ?_
    refine v_getfr 93 dX6_checksum_90 fl_X6_22 (by first | assumption | rfl) (by rfl) rfl ?_
    rw [R0.1.2.2.2.2.1]
    refine v_invv (d' := 0) (k' := 0) (n' := 0) (k2 := 0) (n2 := 0) 96 [] dX6_checksum_93 mt_X6_47 mi_Jx4a65c_size_8abf5 me_Jx4a65c_size_8abf5 (by first | assumption | rfl) (by rfl) rfl rfl (of_decide_eq_true rfl) rfl (by decide) rfl rfl rfl rfl (C_Jx4a65c_size_8abf5 (tl := 23) (ta := 28) rfl rfl LL ?_)
    refine v_icmp_ge 127 99 dX6_checksum_96 (by decide) rfl (fun c96 => ?_) (fun c96 => ?_)
    · have hkm : k = nn_ S 3 := by
        rcases Nat.lt_or_ge k (nn_ S 3) with q | q
        · exact absurd c96 (nI_ge q (by omega))
        · omega
      subst hkm
      refine v_ldc2 130 dX6_checksum_127 cn_X6_332 rfl rfl ?_
      refine v_lload_n 131 dX6_checksum_130 rfl rfl ?_
      refine v_lmul 132 dX6_checksum_131 rfl ?_
      refine v_aload_n 133 dX6_checksum_132 rfl rfl ?_
      refine v_getfi 136 dX6_checksum_133 fl_X6_270 (by first | assumption | rfl) (by rfl) rfl ?_
      rw [R0.2.2.2.2.2.2]
      refine v_i2l 137 dX6_checksum_136 rfl ?_
      refine v_ladd 138 dX6_checksum_137 rfl ?_
      refine v_lreturn dX6_checksum_138 rfl ?_
      exact hq
    · have hkm : k < nn_ S 3 := by
        rcases Nat.lt_or_ge k (nn_ S 3) with q | q
        · exact q
        · exact absurd (nI_le q (by omega)) c96
      refine v_ldc2 102 dX6_checksum_99 cn_X6_332 rfl rfl ?_
      refine v_lload_n 103 dX6_checksum_102 rfl rfl ?_
      refine v_lmul 104 dX6_checksum_103 rfl ?_
      refine v_aload_n 105 dX6_checksum_104 rfl rfl ?_
      refine v_getfr 108 dX6_checksum_105 fl_X6_22 (by first | assumption | rfl) (by rfl) rfl ?_
      rw [R0.1.2.2.2.2.1]
      refine v_iload_n 109 dX6_checksum_108 rfl rfl ?_
      refine v_invv (d' := 2) (k' := 0) (n' := 0) (k2 := 0) (n2 := 0) 112 [_] dX6_checksum_109 mt_X6_216 mi_Jx4a65c_get_915e3 me_Jx4a65c_get_915e3 (by first | assumption | rfl) (by rfl) rfl rfl (of_decide_eq_true rfl) rfl (by decide) rfl rfl rfl rfl (C_Jx4a65c_get_915e3 (tl := 23) (ta := 28) rfl rfl LL hkm ?_)
      refine v_cast 115 dX6_checksum_112 ⟨_, _, rfl, rfl, cl_X6_226⟩ rfl ?_
      refine v_getfi 118 dX6_checksum_115 fl_X6_248 (by first | assumption | rfl) (by rfl) rfl ?_
      rw [(R4.1 k hkm).2.1.1]
      refine v_i2l 119 dX6_checksum_118 rfl ?_
      refine v_ladd 120 dX6_checksum_119 rfl ?_
      refine v_lstore_n 121 dX6_checksum_120 (by decide) rfl rfl ?_
      dsimp only [List.set]
      refine v_iinc 124 dX6_checksum_121 rfl (by decide) rfl rfl ?_
      dsimp only [List.set]
      refine v_goto 88 dX6_checksum_124 (by decide) ?_
      rw [show nI k + Int32.ofInt 1 = nI (k + 1) from nI_1 k]
      exact ih (k + 1) (by omega) (by omega)
set_option maxRecDepth 20000 in
theorem L2_X6_checksum {G : GW} {h : PH} {Q : RS → PH → Prop} {S : SP} {N : Nat} (R : Rp1 S h) (I : Iv S N) (hq : Q (.inl (some (pv_L (op_checksum S)))) h) : ∀ fuel : Nat, ∀ (k : Nat), k ≤ nn_ S 2 → nn_ S 2 - k < fuel → VV G 3 0 0 yX6_checksum cX6_checksum 4 (some .long) [] 47 [some (pv_O (10, 0)), some (pv_L (c2_ S (c1_ S (nn_ S 1)) k)), none, some (pv_I (nI k))] [] h Q := by
  intro fuel
  induction fuel with
  | zero =>
    intro k h1 h2
    omega
  | succ fuel ih =>
    intro k h1 h2
    obtain ⟨R0, RL, R1, R2, R3, R4, R5⟩ := id R
    obtain ⟨z0, z1, z2, z3, z4, z5⟩ := I.cs
    obtain ⟨cap, LL⟩ := id RL.2.2.1
    refine v_iload_n 48 dX6_checksum_47 rfl rfl ?_
    refine v_aload_n 49 dX6_checksum_48 rfl rfl ?_
    refine v_getfr 52 dX6_checksum_49 fl_X6_19 (by first | assumption | rfl) (by rfl) rfl ?_
    rw [R0.1.2.2.2.1]
    refine v_invv (d' := 0) (k' := 0) (n' := 0) (k2 := 0) (n2 := 0) 55 [] dX6_checksum_52 mt_X6_47 mi_Jx4a65c_size_8abf5 me_Jx4a65c_size_8abf5 (by first | assumption | rfl) (by rfl) rfl rfl (of_decide_eq_true rfl) rfl (by decide) rfl rfl rfl rfl (C_Jx4a65c_size_8abf5 (tl := 22) (ta := 27) rfl rfl LL ?_)
    refine v_icmp_ge 86 58 dX6_checksum_55 (by decide) rfl (fun c55 => ?_) (fun c55 => ?_)
    · have hkm : k = nn_ S 2 := by
        rcases Nat.lt_or_ge k (nn_ S 2) with q | q
        · exact absurd c55 (nI_ge q (by omega))
        · omega
      subst hkm
      refine v_iconstv (v := 0) 87 dX6_checksum_86 (by decide) rfl ?_
      refine v_istore_n 88 dX6_checksum_87 (by decide) rfl rfl ?_
      dsimp only [List.set]
      exact L3_X6_checksum R I hq (nn_ S 3 + 1) 0 (Nat.zero_le _) (by omega)
    · have hkm : k < nn_ S 2 := by
        rcases Nat.lt_or_ge k (nn_ S 2) with q | q
        · exact q
        · exact absurd (nI_le q (by omega)) c55
      refine v_ldc2 61 dX6_checksum_58 cn_X6_332 rfl rfl ?_
      refine v_lload_n 62 dX6_checksum_61 rfl rfl ?_
      refine v_lmul 63 dX6_checksum_62 rfl ?_
      refine v_aload_n 64 dX6_checksum_63 rfl rfl ?_
      refine v_getfr 67 dX6_checksum_64 fl_X6_19 (by first | assumption | rfl) (by rfl) rfl ?_
      rw [R0.1.2.2.2.1]
      refine v_iload_n 68 dX6_checksum_67 rfl rfl ?_
      refine v_invv (d' := 2) (k' := 0) (n' := 0) (k2 := 0) (n2 := 0) 71 [_] dX6_checksum_68 mt_X6_216 mi_Jx4a65c_get_915e3 me_Jx4a65c_get_915e3 (by first | assumption | rfl) (by rfl) rfl rfl (of_decide_eq_true rfl) rfl (by decide) rfl rfl rfl rfl (C_Jx4a65c_get_915e3 (tl := 22) (ta := 27) rfl rfl LL hkm ?_)
      refine v_cast 74 dX6_checksum_71 ⟨_, _, rfl, rfl, cl_X6_108⟩ rfl ?_
      refine v_invv (d' := 1) (k' := 0) (n' := 0) (k2 := 0) (n2 := 0) 77 [] dX6_checksum_74 mt_X6_321 mi_X4_worth me_X4_worth (by first | assumption | rfl) (by rfl) rfl rfl (of_decide_eq_true rfl) rfl (by decide) rfl rfl rfl rfl (C_X4_worth (R3.1 k hkm) ?_)
      refine v_i2l 78 dX6_checksum_77 rfl ?_
      refine v_ladd 79 dX6_checksum_78 rfl ?_
      refine v_lstore_n 80 dX6_checksum_79 (by decide) rfl rfl ?_
      dsimp only [List.set]
      refine v_iinc 83 dX6_checksum_80 rfl (by decide) rfl rfl ?_
      dsimp only [List.set]
      refine v_goto 47 dX6_checksum_83 (by decide) ?_
      rw [show nI k + Int32.ofInt 1 = nI (k + 1) from nI_1 k]
      exact ih (k + 1) (by omega) (by omega)
set_option maxRecDepth 20000 in
theorem L1_X6_checksum {G : GW} {h : PH} {Q : RS → PH → Prop} {S : SP} {N : Nat} (R : Rp1 S h) (I : Iv S N) (hq : Q (.inl (some (pv_L (op_checksum S)))) h) : ∀ fuel : Nat, ∀ (k : Nat), k ≤ nn_ S 1 → nn_ S 1 - k < fuel → VV G 3 0 0 yX6_checksum cX6_checksum 4 (some .long) [] 6 [some (pv_O (10, 0)), some (pv_L (c1_ S k)), none, some (pv_I (nI k))] [] h Q := by
  intro fuel
  induction fuel with
  | zero =>
    intro k h1 h2
    omega
  | succ fuel ih =>
    intro k h1 h2
    obtain ⟨R0, RL, R1, R2, R3, R4, R5⟩ := id R
    obtain ⟨z0, z1, z2, z3, z4, z5⟩ := I.cs
    obtain ⟨cap, LL⟩ := id RL.2.1
    refine v_iload_n 7 dX6_checksum_6 rfl rfl ?_
    refine v_aload_n 8 dX6_checksum_7 rfl rfl ?_
    refine v_getfr 11 dX6_checksum_8 fl_X6_16 (by first | assumption | rfl) (by rfl) rfl ?_
    rw [R0.1.2.2.1]
    refine v_invv (d' := 0) (k' := 0) (n' := 0) (k2 := 0) (n2 := 0) 14 [] dX6_checksum_11 mt_X6_47 mi_Jx4a65c_size_8abf5 me_Jx4a65c_size_8abf5 (by first | assumption | rfl) (by rfl) rfl rfl (of_decide_eq_true rfl) rfl (by decide) rfl rfl rfl rfl (C_Jx4a65c_size_8abf5 (tl := 21) (ta := 26) rfl rfl LL ?_)
    refine v_icmp_ge 45 17 dX6_checksum_14 (by decide) rfl (fun c14 => ?_) (fun c14 => ?_)
    · have hkm : k = nn_ S 1 := by
        rcases Nat.lt_or_ge k (nn_ S 1) with q | q
        · exact absurd c14 (nI_ge q (by omega))
        · omega
      subst hkm
      refine v_iconstv (v := 0) 46 dX6_checksum_45 (by decide) rfl ?_
      refine v_istore_n 47 dX6_checksum_46 (by decide) rfl rfl ?_
      dsimp only [List.set]
      exact L2_X6_checksum R I hq (nn_ S 2 + 1) 0 (Nat.zero_le _) (by omega)
    · have hkm : k < nn_ S 1 := by
        rcases Nat.lt_or_ge k (nn_ S 1) with q | q
        · exact q
        · exact absurd (nI_le q (by omega)) c14
      refine v_ldc2 20 dX6_checksum_17 cn_X6_332 rfl rfl ?_
      refine v_lload_n 21 dX6_checksum_20 rfl rfl ?_
      refine v_lmul 22 dX6_checksum_21 rfl ?_
      refine v_aload_n 23 dX6_checksum_22 rfl rfl ?_
      refine v_getfr 26 dX6_checksum_23 fl_X6_16 (by first | assumption | rfl) (by rfl) rfl ?_
      rw [R0.1.2.2.1]
      refine v_iload_n 27 dX6_checksum_26 rfl rfl ?_
      refine v_invv (d' := 2) (k' := 0) (n' := 0) (k2 := 0) (n2 := 0) 30 [_] dX6_checksum_27 mt_X6_216 mi_Jx4a65c_get_915e3 me_Jx4a65c_get_915e3 (by first | assumption | rfl) (by rfl) rfl rfl (of_decide_eq_true rfl) rfl (by decide) rfl rfl rfl rfl (C_Jx4a65c_get_915e3 (tl := 21) (ta := 26) rfl rfl LL hkm ?_)
      refine v_cast 33 dX6_checksum_30 ⟨_, _, rfl, rfl, cl_X6_76⟩ rfl ?_
      refine v_getfi 36 dX6_checksum_33 fl_X6_324 (by first | assumption | rfl) (by rfl) rfl ?_
      rw [(R2.1 k hkm).2.1.2.2.2.2]
      refine v_i2l 37 dX6_checksum_36 rfl ?_
      refine v_ladd 38 dX6_checksum_37 rfl ?_
      refine v_lstore_n 39 dX6_checksum_38 (by decide) rfl rfl ?_
      dsimp only [List.set]
      refine v_iinc 42 dX6_checksum_39 rfl (by decide) rfl rfl ?_
      dsimp only [List.set]
      refine v_goto 6 dX6_checksum_42 (by decide) ?_
      rw [show nI k + Int32.ofInt 1 = nI (k + 1) from nI_1 k]
      exact ih (k + 1) (by omega) (by omega)
set_option maxRecDepth 20000 in
theorem C_X6_checksum {G : GW} {h : PH} {Q : RS → PH → Prop} {S : SP} {N : Nat} (R : Rp1 S h) (I : Iv S N) (hq : Q (.inl (some (pv_L (op_checksum S)))) h) : VV G 3 0 0 yX6_checksum cX6_checksum 4 (some .long) [] 0 (vv_en 4 [pv_O (10, 0)]) [] h Q := by
  show VV G 3 0 0 yX6_checksum cX6_checksum 4 (some .long) [] 0 [some (pv_O (10, 0)), none, none, none] [] h Q
  refine v_ldc2 3 dX6_checksum_0 cn_X6_330 rfl rfl ?_
  refine v_lstore_n 4 dX6_checksum_3 (by decide) rfl rfl ?_
  dsimp only [List.set]
  refine v_iconstv (v := 0) 5 dX6_checksum_4 (by decide) rfl ?_
  refine v_istore_n 6 dX6_checksum_5 (by decide) rfl rfl ?_
  dsimp only [List.set]
  exact L1_X6_checksum R I hq (nn_ S 1 + 1) 0 (Nat.zero_le _) (by omega)
