def oc_ (S : SP) (w : Int32) : Nat → Nat
  | 0 => 0
  | k + 1 => oc_ S w k + (if hp_vi S.1 45 (S.2.2 k) 0 = w then 1 else 0)
def uf_ (S : SP) (f : Nat) (x : Int32) : Nat → Int32
  | 0 => x
  | l + 1 => uf_ S f x l + (if hp_vi S.1 62 f l = 0 then s_a S f (nI l) else 0)
def uu_ (S : SP) : Nat → Int32
  | 0 => 0
  | f + 1 => uf_ S f (uu_ S f) (s_n S f)
def af_ (S : SP) (f : Nat) (x : Int32) : Nat → Int32
  | 0 => x
  | l + 1 => af_ S f x l + s_a S f (nI l)
def aa_ (S : SP) : Nat → Int32
  | 0 => 0
  | f + 1 => af_ S f (aa_ S f) (s_n S f)
theorem af_eq (S : SP) (f : Nat) (z y : Int32) : ∀ l, af_ S f (z + y) l = (z + s_ua S f l) + uf_ S f y l
  | 0 => by show z + y = (z + 0) + y; rw [Int32.add_zero]
  | l + 1 => by
    show af_ S f (z + y) l + s_a S f (nI l) = (z + (s_ua S f l + (if hp_vi S.1 62 f l = 0 then 0 else s_a S f (nI l)))) + (uf_ S f y l + (if hp_vi S.1 62 f l = 0 then s_a S f (nI l) else 0))
    rw [af_eq S f z y l]
    by_cases q : hp_vi S.1 62 f l = 0
    · rw [if_pos q, if_pos q, Int32.add_zero, Int32.add_assoc]
    · rw [if_neg q, if_neg q, Int32.add_zero]
      simp only [Int32.add_assoc, Int32.add_comm (uf_ S f y l)]
theorem aa_eq (S : SP) : ∀ f, aa_ S f = s_ut S f + uu_ S f
  | 0 => rfl
  | f + 1 => by
    show af_ S f (aa_ S f) (s_n S f) = (s_ut S f + s_ua S f (s_n S f)) + uf_ S f (uu_ S f) (s_n S f)
    rw [aa_eq S f, af_eq]
def op_account (S : SP) (c : Int32) : Nat × Int32 := if c = 102 then (0, hp_vi S.1 40 0 7) else if c = 98 then (0, hp_vi S.1 40 0 8) else if c = 112 then (0, hp_vi S.1 40 0 9) else if c = 111 then (0, s_oa S (nn_ S 5)) else if c = 114 then (0, hp_vi S.1 40 0 6) else if c = 119 then (0, hp_vi S.1 40 0 10) else if c = 108 then (0, uu_ S (nn_ S 1)) else (1, 0)
set_option maxRecDepth 20000 in
theorem L_X6_offcuts {G : GW} {h : PH} {Q : RS → PH → Prop} {S : SP} {N : Nat} (R : Rp1 S h) (I : Iv S N) {w : Int32} (hq : Q (.inl (some (pv_I (nI (oc_ S w (nn_ S 5)))))) h) : ∀ fuel : Nat, ∀ (k : Nat), k ≤ nn_ S 5 → nn_ S 5 - k < fuel → VV G 3 0 0 yX6_offcuts cX6_offcuts 4 (some .int) [] 4 [some (pv_O (10, 0)), some (pv_I w), some (pv_I (nI (oc_ S w k))), some (pv_I (nI k))] [] h Q := by
  intro fuel
  induction fuel with
  | zero =>
    intro k h1 h2
    omega
  | succ fuel ih =>
    intro k h1 h2
    obtain ⟨R0, RL, R1, R2, R3, R4, R5⟩ := id R
    obtain ⟨z0, z1, z2, z3, z4, z5⟩ := I.cs
    obtain ⟨cap, LL⟩ := id RL.2.2.2.2
    refine v_iload_n 5 dX6_offcuts_4 rfl rfl ?_
    refine v_aload_n 6 dX6_offcuts_5 rfl rfl ?_
    refine v_getfr 9 dX6_offcuts_6 fl_X6_25 (by first | assumption | rfl) (by rfl) rfl ?_
    rw [R0.1.2.2.2.2.2]
    refine v_invv (d' := 0) (k' := 0) (n' := 0) (k2 := 0) (n2 := 0) 12 [] dX6_offcuts_9 mt_X6_47 mi_Jx4a65c_size_8abf5 me_Jx4a65c_size_8abf5 (by first | assumption | rfl) (by rfl) rfl rfl (of_decide_eq_true rfl) rfl (by decide) rfl rfl rfl rfl (C_Jx4a65c_size_8abf5 (tl := 24) (ta := 29) rfl rfl LL ?_)
    refine v_icmp_ge 42 15 dX6_offcuts_12 (by decide) rfl (fun c12 => ?_) (fun c12 => ?_)
    · have hkm : k = nn_ S 5 := by
        rcases Nat.lt_or_ge k (nn_ S 5) with q | q
        · exact absurd c12 (nI_ge q (by omega))
        · omega
      subst hkm
      refine v_iload_n 43 dX6_offcuts_42 rfl rfl ?_
      refine v_ireturn dX6_offcuts_43 rfl ?_
      exact hq
    · have hkm : k < nn_ S 5 := by
        rcases Nat.lt_or_ge k (nn_ S 5) with q | q
        · exact q
        · exact absurd (nI_le q (by omega)) c12
      refine v_aload_n 16 dX6_offcuts_15 rfl rfl ?_
      refine v_getfr 19 dX6_offcuts_16 fl_X6_25 (by first | assumption | rfl) (by rfl) rfl ?_
      rw [R0.1.2.2.2.2.2]
      refine v_iload_n 20 dX6_offcuts_19 rfl rfl ?_
      refine v_invv (d' := 2) (k' := 0) (n' := 0) (k2 := 0) (n2 := 0) 23 [_] dX6_offcuts_20 mt_X6_216 mi_Jx4a65c_get_915e3 me_Jx4a65c_get_915e3 (by first | assumption | rfl) (by rfl) rfl rfl (of_decide_eq_true rfl) rfl (by decide) rfl rfl rfl rfl (C_Jx4a65c_get_915e3 (tl := 24) (ta := 29) rfl rfl LL hkm ?_)
      refine v_cast 26 dX6_offcuts_23 ⟨_, _, rfl, rfl, cl_X6_296⟩ rfl ?_
      refine v_getfi 29 dX6_offcuts_26 fl_X6_298 (by first | assumption | rfl) (by rfl) rfl ?_
      rw [(R5.1 k hkm).2.1]
      refine v_iload_n 30 dX6_offcuts_29 rfl rfl ?_
      refine v_icmp_ne 36 33 dX6_offcuts_30 (by decide) rfl (fun c30 => ?_) (fun c30 => ?_)
      · refine v_iinc 39 dX6_offcuts_36 rfl (by decide) rfl rfl ?_
        dsimp only [List.set]
        refine v_goto 4 dX6_offcuts_39 (by decide) ?_
        rw [show nI k + Int32.ofInt 1 = nI (k + 1) from nI_1 k]
        have er : oc_ S w (k + 1) = oc_ S w k := by
          show oc_ S w k + (if hp_vi S.1 45 (S.2.2 k) 0 = w then 1 else 0) = _
          rw [if_neg c30]; rfl
        rw [← er]
        exact ih (k + 1) (by omega) (by omega)
      · refine v_iinc 36 dX6_offcuts_33 rfl (by decide) rfl rfl ?_
        dsimp only [List.set]
        refine v_iinc 39 dX6_offcuts_36 rfl (by decide) rfl rfl ?_
        dsimp only [List.set]
        refine v_goto 4 dX6_offcuts_39 (by decide) ?_
        rw [show nI k + Int32.ofInt 1 = nI (k + 1) from nI_1 k]
        rw [show nI (oc_ S w k) + Int32.ofInt 1 = nI (oc_ S w k + 1) from nI_1 _]
        have er : oc_ S w (k + 1) = oc_ S w k + 1 := by
          show oc_ S w k + (if hp_vi S.1 45 (S.2.2 k) 0 = w then 1 else 0) = _
          rw [if_pos c30]
        rw [← er]
        exact ih (k + 1) (by omega) (by omega)
set_option maxRecDepth 20000 in
theorem C_X6_offcuts {G : GW} {h : PH} {Q : RS → PH → Prop} {S : SP} {N : Nat} (R : Rp1 S h) (I : Iv S N) {w : Int32} (hq : Q (.inl (some (pv_I (nI (oc_ S w (nn_ S 5)))))) h) : VV G 3 0 0 yX6_offcuts cX6_offcuts 4 (some .int) [] 0 (vv_en 4 [pv_O (10, 0), pv_I w]) [] h Q := by
  show VV G 3 0 0 yX6_offcuts cX6_offcuts 4 (some .int) [] 0 [some (pv_O (10, 0)), some (pv_I w), none, none] [] h Q
  refine v_iconstv (v := 0) 1 dX6_offcuts_0 (by decide) rfl ?_
  refine v_istore_n 2 dX6_offcuts_1 (by decide) rfl rfl ?_
  dsimp only [List.set]
  refine v_iconstv (v := 0) 3 dX6_offcuts_2 (by decide) rfl ?_
  refine v_istore_n 4 dX6_offcuts_3 (by decide) rfl rfl ?_
  dsimp only [List.set]
  exact L_X6_offcuts R I hq (nn_ S 5 + 1) 0 (Nat.zero_le _) (by omega)
set_option maxRecDepth 20000 in
theorem L_X6_offcutArea {G : GW} {h : PH} {Q : RS → PH → Prop} {S : SP} {N : Nat} (R : Rp1 S h) (I : Iv S N) (hq : Q (.inl (some (pv_I (s_oa S (nn_ S 5))))) h) : ∀ fuel : Nat, ∀ (k : Nat), k ≤ nn_ S 5 → nn_ S 5 - k < fuel → VV G 3 0 0 yX6_offcutArea cX6_offcutArea 3 (some .int) [] 4 [some (pv_O (10, 0)), some (pv_I (s_oa S k)), some (pv_I (nI k))] [] h Q := by
  intro fuel
  induction fuel with
  | zero =>
    intro k h1 h2
    omega
  | succ fuel ih =>
    intro k h1 h2
    obtain ⟨R0, RL, R1, R2, R3, R4, R5⟩ := id R
    obtain ⟨z0, z1, z2, z3, z4, z5⟩ := I.cs
    obtain ⟨cap, LL⟩ := id RL.2.2.2.2
    refine v_iload_n 5 dX6_offcutArea_4 rfl rfl ?_
    refine v_aload_n 6 dX6_offcutArea_5 rfl rfl ?_
    refine v_getfr 9 dX6_offcutArea_6 fl_X6_25 (by first | assumption | rfl) (by rfl) rfl ?_
    rw [R0.1.2.2.2.2.2]
    refine v_invv (d' := 0) (k' := 0) (n' := 0) (k2 := 0) (n2 := 0) 12 [] dX6_offcutArea_9 mt_X6_47 mi_Jx4a65c_size_8abf5 me_Jx4a65c_size_8abf5 (by first | assumption | rfl) (by rfl) rfl rfl (of_decide_eq_true rfl) rfl (by decide) rfl rfl rfl rfl (C_Jx4a65c_size_8abf5 (tl := 24) (ta := 29) rfl rfl LL ?_)
    refine v_icmp_ge 38 15 dX6_offcutArea_12 (by decide) rfl (fun c12 => ?_) (fun c12 => ?_)
    · have hkm : k = nn_ S 5 := by
        rcases Nat.lt_or_ge k (nn_ S 5) with q | q
        · exact absurd c12 (nI_ge q (by omega))
        · omega
      subst hkm
      refine v_iload_n 39 dX6_offcutArea_38 rfl rfl ?_
      refine v_ireturn dX6_offcutArea_39 rfl ?_
      exact hq
    · have hkm : k < nn_ S 5 := by
        rcases Nat.lt_or_ge k (nn_ S 5) with q | q
        · exact q
        · exact absurd (nI_le q (by omega)) c12
      refine v_iload_n 16 dX6_offcutArea_15 rfl rfl ?_
      refine v_aload_n 17 dX6_offcutArea_16 rfl rfl ?_
      refine v_getfr 20 dX6_offcutArea_17 fl_X6_25 (by first | assumption | rfl) (by rfl) rfl ?_
      rw [R0.1.2.2.2.2.2]
      refine v_iload_n 21 dX6_offcutArea_20 rfl rfl ?_
      refine v_invv (d' := 2) (k' := 0) (n' := 0) (k2 := 0) (n2 := 0) 24 [_] dX6_offcutArea_21 mt_X6_216 mi_Jx4a65c_get_915e3 me_Jx4a65c_get_915e3 (by first | assumption | rfl) (by rfl) rfl rfl (of_decide_eq_true rfl) rfl (by decide) rfl rfl rfl rfl (C_Jx4a65c_get_915e3 (tl := 24) (ta := 29) rfl rfl LL hkm ?_)
      refine v_cast 27 dX6_offcutArea_24 ⟨_, _, rfl, rfl, cl_X6_296⟩ rfl ?_
      refine v_invv (d' := 0) (k' := 0) (n' := 0) (k2 := 0) (n2 := 0) 30 [] dX6_offcutArea_27 mt_X6_314 mi_X2_surface me_X2_surface (by first | assumption | rfl) (by rfl) rfl rfl (of_decide_eq_true rfl) rfl (by decide) rfl rfl rfl rfl (C_X2_surface ?_)
      rw [(R5.1 k hkm).2.1, (R5.1 k hkm).2.2]
      refine v_iadd 31 dX6_offcutArea_30 rfl ?_
      refine v_istore_n 32 dX6_offcutArea_31 (by decide) rfl rfl ?_
      dsimp only [List.set]
      refine v_iinc 35 dX6_offcutArea_32 rfl (by decide) rfl rfl ?_
      dsimp only [List.set]
      refine v_goto 4 dX6_offcutArea_35 (by decide) ?_
      rw [show nI k + Int32.ofInt 1 = nI (k + 1) from nI_1 k]
      exact ih (k + 1) (by omega) (by omega)
set_option maxRecDepth 20000 in
theorem C_X6_offcutArea {G : GW} {h : PH} {Q : RS → PH → Prop} {S : SP} {N : Nat} (R : Rp1 S h) (I : Iv S N) (hq : Q (.inl (some (pv_I (s_oa S (nn_ S 5))))) h) : VV G 3 0 0 yX6_offcutArea cX6_offcutArea 3 (some .int) [] 0 (vv_en 3 [pv_O (10, 0)]) [] h Q := by
  show VV G 3 0 0 yX6_offcutArea cX6_offcutArea 3 (some .int) [] 0 [some (pv_O (10, 0)), none, none] [] h Q
  refine v_iconstv (v := 0) 1 dX6_offcutArea_0 (by decide) rfl ?_
  refine v_istore_n 2 dX6_offcutArea_1 (by decide) rfl rfl ?_
  dsimp only [List.set]
  refine v_iconstv (v := 0) 3 dX6_offcutArea_2 (by decide) rfl ?_
  refine v_istore_n 4 dX6_offcutArea_3 (by decide) rfl rfl ?_
  dsimp only [List.set]
  exact L_X6_offcutArea R I hq (nn_ S 5 + 1) 0 (Nat.zero_le _) (by omega)
set_option maxRecDepth 20000 in
theorem Li_X6_unusedArea {G : GW} {h : PH} {Q : RS → PH → Prop} {S : SP} {N : Nat} (R : Rp1 S h) (I : Iv S N) {f : Nat} {x y : Int32} (hf : f < nn_ S 1) (K : VV G 4 0 0 yX6_unusedArea cX6_unusedArea 5 (some .int) [] 67 [some (pv_O (10, 0)), some (pv_I (uf_ S f x (s_n S f))), some (pv_I y), some (pv_O (12, f)), some (pv_I (nI (s_n S f)))] [] h Q) : ∀ fuel : Nat, ∀ (l : Nat), l ≤ s_n S f → s_n S f - l < fuel → VV G 4 0 0 yX6_unusedArea cX6_unusedArea 5 (some .int) [] 30 [some (pv_O (10, 0)), some (pv_I (uf_ S f x l)), some (pv_I y), some (pv_O (12, f)), some (pv_I (nI l))] [] h Q := by
  intro fuel
  induction fuel with
  | zero =>
    intro l h1 h2
    omega
  | succ fuel ih =>
    intro l h1 h2
    have h24 := I.n24 hf
    have F := R.2.2.2.1.1 f hf
    refine v_iload 32 dX6_unusedArea_30 rfl rfl ?_
    refine v_aload_n 33 dX6_unusedArea_32 rfl rfl ?_
    refine v_getfi 36 dX6_unusedArea_33 fl_X6_85 (by first | assumption | rfl) (by rfl) rfl ?_
    rw [F.2.1.2.2.2.1]
    refine v_icmp_ge 67 39 dX6_unusedArea_36 (by decide) rfl (fun c36 => ?_) (fun c36 => ?_)
    · have hkm : l = s_n S f := by
        rcases Nat.lt_or_ge l (s_n S f) with q | q
        · exact absurd c36 (nI_ge q (by omega))
        · omega
      subst hkm
      exact K
    · have hkm : l < s_n S f := by
        rcases Nat.lt_or_ge l (s_n S f) with q | q
        · exact q
        · exact absurd (nI_le q (by omega)) c36
      have hok : ok_i (nI l) (s_n S f) := ok_i.of hkm (by omega)
      refine v_iload_n 40 dX6_unusedArea_39 rfl rfl ?_
      refine v_aload_n 41 dX6_unusedArea_40 rfl rfl ?_
      refine v_iload 43 dX6_unusedArea_41 rfl rfl ?_
      refine v_invv (d' := 1) (k' := 0) (n' := 0) (k2 := 0) (n2 := 0) 46 [_] dX6_unusedArea_43 mt_X6_102 mi_X0_isTaken me_X0_isTaken (by first | assumption | rfl) (by rfl) rfl rfl (of_decide_eq_true rfl) rfl (by decide) rfl rfl rfl rfl (C_X0_isTaken F (I.n24 hf) (I.u01 hf) ?_)
      rw [if_pos hok, show cl_ (nI l) = l from nI_clamp (by omega)]
      refine v_if_eq 53 49 dX6_unusedArea_46 (by decide) rfl (fun c46 => ?_) (fun c46 => ?_)
      · refine v_aload_n 54 dX6_unusedArea_53 rfl rfl ?_
        refine v_iload 56 dX6_unusedArea_54 rfl rfl ?_
        refine v_invv (d' := 2) (k' := 0) (n' := 0) (k2 := 0) (n2 := 0) 59 [_] dX6_unusedArea_56 mt_X6_96 mi_X0_areaOf me_X0_areaOf (by first | assumption | rfl) (by rfl) rfl rfl (of_decide_eq_true rfl) rfl (by decide) rfl rfl rfl rfl (C_X0_areaOf F (I.n24 hf) ?_)
        rw [if_pos hok]
        refine v_iadd 60 dX6_unusedArea_59 rfl ?_
        refine v_istore_n 61 dX6_unusedArea_60 (by decide) rfl rfl ?_
        dsimp only [List.set]
        refine v_iinc 64 dX6_unusedArea_61 rfl (by decide) rfl rfl ?_
        dsimp only [List.set]
        refine v_goto 30 dX6_unusedArea_64 (by decide) ?_
        rw [show nI l + Int32.ofInt 1 = nI (l + 1) from nI_1 l]
        have er : uf_ S f x (l + 1) = uf_ S f x l + s_a S f (nI l) := by
          show uf_ S f x l + (if hp_vi S.1 62 f l = 0 then s_a S f (nI l) else 0) = _
          rw [if_pos c46]
        rw [← er]
        exact ih (l + 1) (by omega) (by omega)
      · refine v_iconstv (v := 0) 50 dX6_unusedArea_49 (by decide) rfl ?_
        refine v_goto 59 dX6_unusedArea_50 (by decide) ?_
        refine v_iadd 60 dX6_unusedArea_59 rfl ?_
        refine v_istore_n 61 dX6_unusedArea_60 (by decide) rfl rfl ?_
        dsimp only [List.set]
        refine v_iinc 64 dX6_unusedArea_61 rfl (by decide) rfl rfl ?_
        dsimp only [List.set]
        refine v_goto 30 dX6_unusedArea_64 (by decide) ?_
        rw [show nI l + Int32.ofInt 1 = nI (l + 1) from nI_1 l]
        have er : uf_ S f x (l + 1) = uf_ S f x l + 0 := by
          show uf_ S f x l + (if hp_vi S.1 62 f l = 0 then s_a S f (nI l) else 0) = _
          rw [if_neg c46]
        rw [← er]
        exact ih (l + 1) (by omega) (by omega)
set_option maxRecDepth 20000 in
theorem L_X6_unusedArea {G : GW} {h : PH} {Q : RS → PH → Prop} {S : SP} {N : Nat} (R : Rp1 S h) (I : Iv S N) (hq : Q (.inl (some (pv_I (uu_ S (nn_ S 1))))) h) : ∀ fuel : Nat, ∀ (k : Nat) (z3 z4 : Option PV), k ≤ nn_ S 1 → nn_ S 1 - k < fuel → VV G 4 0 0 yX6_unusedArea cX6_unusedArea 5 (some .int) [] 4 [some (pv_O (10, 0)), some (pv_I (uu_ S k)), some (pv_I (nI k)), z3, z4] [] h Q := by
  intro fuel
  induction fuel with
  | zero =>
    intro k z3 z4 h1 h2
    omega
  | succ fuel ih =>
    intro k zz3 zz4 h1 h2
    obtain ⟨R0, RL, R1, R2, R3, R4, R5⟩ := id R
    obtain ⟨z0, z1, z2, z3, z4, z5⟩ := I.cs
    obtain ⟨cap, LL⟩ := id RL.2.1
    refine v_iload_n 5 dX6_unusedArea_4 rfl rfl ?_
    refine v_aload_n 6 dX6_unusedArea_5 rfl rfl ?_
    refine v_getfr 9 dX6_unusedArea_6 fl_X6_16 (by first | assumption | rfl) (by rfl) rfl ?_
    rw [R0.1.2.2.1]
    refine v_invv (d' := 0) (k' := 0) (n' := 0) (k2 := 0) (n2 := 0) 12 [] dX6_unusedArea_9 mt_X6_47 mi_Jx4a65c_size_8abf5 me_Jx4a65c_size_8abf5 (by first | assumption | rfl) (by rfl) rfl rfl (of_decide_eq_true rfl) rfl (by decide) rfl rfl rfl rfl (C_Jx4a65c_size_8abf5 (tl := 21) (ta := 26) rfl rfl LL ?_)
    refine v_icmp_ge 73 15 dX6_unusedArea_12 (by decide) rfl (fun c12 => ?_) (fun c12 => ?_)
    · have hkm : k = nn_ S 1 := by
        rcases Nat.lt_or_ge k (nn_ S 1) with q | q
        · exact absurd c12 (nI_ge q (by omega))
        · omega
      subst hkm
      refine v_iload_n 74 dX6_unusedArea_73 rfl rfl ?_
      refine v_ireturn dX6_unusedArea_74 rfl ?_
      exact hq
    · have hkm : k < nn_ S 1 := by
        rcases Nat.lt_or_ge k (nn_ S 1) with q | q
        · exact q
        · exact absurd (nI_le q (by omega)) c12
      refine v_aload_n 16 dX6_unusedArea_15 rfl rfl ?_
      refine v_getfr 19 dX6_unusedArea_16 fl_X6_16 (by first | assumption | rfl) (by rfl) rfl ?_
      rw [R0.1.2.2.1]
      refine v_iload_n 20 dX6_unusedArea_19 rfl rfl ?_
      refine v_invv (d' := 2) (k' := 0) (n' := 0) (k2 := 0) (n2 := 0) 23 [_] dX6_unusedArea_20 mt_X6_216 mi_Jx4a65c_get_915e3 me_Jx4a65c_get_915e3 (by first | assumption | rfl) (by rfl) rfl rfl (of_decide_eq_true rfl) rfl (by decide) rfl rfl rfl rfl (C_Jx4a65c_get_915e3 (tl := 21) (ta := 26) rfl rfl LL hkm ?_)
      refine v_cast 26 dX6_unusedArea_23 ⟨_, _, rfl, rfl, cl_X6_76⟩ rfl ?_
      refine v_astore_n 27 dX6_unusedArea_26 (by decide) rfl rfl ?_
      dsimp only [List.set]
      refine v_iconstv (v := 0) 28 dX6_unusedArea_27 (by decide) rfl ?_
      refine v_istore 30 dX6_unusedArea_28 (by decide) rfl rfl ?_
      dsimp only [List.set]
      refine Li_X6_unusedArea R I hkm ?_ (s_n S k + 1) 0 (Nat.zero_le _) (by omega)
      refine v_iinc 70 dX6_unusedArea_67 rfl (by decide) rfl rfl ?_
      dsimp only [List.set]
      refine v_goto 4 dX6_unusedArea_70 (by decide) ?_
      rw [show nI k + Int32.ofInt 1 = nI (k + 1) from nI_1 k]
      exact ih (k + 1) _ _ (by omega) (by omega)
set_option maxRecDepth 20000 in
theorem C_X6_unusedArea {G : GW} {h : PH} {Q : RS → PH → Prop} {S : SP} {N : Nat} (R : Rp1 S h) (I : Iv S N) (hq : Q (.inl (some (pv_I (uu_ S (nn_ S 1))))) h) : VV G 4 0 0 yX6_unusedArea cX6_unusedArea 5 (some .int) [] 0 (vv_en 5 [pv_O (10, 0)]) [] h Q := by
  show VV G 4 0 0 yX6_unusedArea cX6_unusedArea 5 (some .int) [] 0 [some (pv_O (10, 0)), none, none, none, none] [] h Q
  refine v_iconstv (v := 0) 1 dX6_unusedArea_0 (by decide) rfl ?_
  refine v_istore_n 2 dX6_unusedArea_1 (by decide) rfl rfl ?_
  dsimp only [List.set]
  refine v_iconstv (v := 0) 3 dX6_unusedArea_2 (by decide) rfl ?_
  refine v_istore_n 4 dX6_unusedArea_3 (by decide) rfl rfl ?_
  dsimp only [List.set]
  exact L_X6_unusedArea R I hq (nn_ S 1 + 1) 0 _ _ (Nat.zero_le _) (by omega)
set_option maxRecDepth 20000 in
theorem C_X6_account {G : GW} {h : PH} {Q : RS → PH → Prop} {S : SP} {N : Nat} (R : Rp1 S h) (I : Iv S N) {c : Int32} (hq : Q (an_ "java/lang/IllegalArgumentException" "" "" (op_account S c)) h) : VV G 6 1 6 yX6_account cX6_account 2 (some .int) [] 0 (vv_en 2 [pv_O (10, 0), pv_I c]) [] h Q := by
  show VV G 6 1 6 yX6_account cX6_account 2 (some .int) [] 0 [some (pv_O (10, 0)), some (pv_I c)] [] h Q
  obtain ⟨R0, RL, R1, R2, R3, R4, R5⟩ := id R
  obtain ⟨z0, z1, z2, z3, z4, z5⟩ := I.cs
  unfold op_account at hq
  refine v_iload_n 1 dX6_account_0 rfl rfl ?_
  refine v_bipushv (v := 102) 3 dX6_account_1 (by decide) rfl ?_
  refine v_icmp_ne 11 6 dX6_account_3 (by decide) rfl (fun c3 => ?_) (fun c3 => ?_)
  · rw [if_neg c3] at hq
    refine v_iload_n 12 dX6_account_11 rfl rfl ?_
    refine v_bipushv (v := 98) 14 dX6_account_12 (by decide) rfl ?_
    refine v_icmp_ne 22 17 dX6_account_14 (by decide) rfl (fun c14 => ?_) (fun c14 => ?_)
    · rw [if_neg c14] at hq
      refine v_iload_n 23 dX6_account_22 rfl rfl ?_
      refine v_bipushv (v := 112) 25 dX6_account_23 (by decide) rfl ?_
      refine v_icmp_ne 33 28 dX6_account_25 (by decide) rfl (fun c25 => ?_) (fun c25 => ?_)
      · rw [if_neg c25] at hq
        refine v_iload_n 34 dX6_account_33 rfl rfl ?_
        refine v_bipushv (v := 111) 36 dX6_account_34 (by decide) rfl ?_
        refine v_icmp_ne 44 39 dX6_account_36 (by decide) rfl (fun c36 => ?_) (fun c36 => ?_)
        · rw [if_neg c36] at hq
          refine v_iload_n 45 dX6_account_44 rfl rfl ?_
          refine v_bipushv (v := 114) 47 dX6_account_45 (by decide) rfl ?_
          refine v_icmp_ne 55 50 dX6_account_47 (by decide) rfl (fun c47 => ?_) (fun c47 => ?_)
          · rw [if_neg c47] at hq
            refine v_iload_n 56 dX6_account_55 rfl rfl ?_
            refine v_bipushv (v := 119) 58 dX6_account_56 (by decide) rfl ?_
            refine v_icmp_ne 66 61 dX6_account_58 (by decide) rfl (fun c58 => ?_) (fun c58 => ?_)
            · rw [if_neg c58] at hq
              refine v_iload_n 67 dX6_account_66 rfl rfl ?_
              refine v_bipushv (v := 108) 69 dX6_account_67 (by decide) rfl ?_
              refine v_icmp_ne 77 72 dX6_account_69 (by decide) rfl (fun c69 => ?_) (fun c69 => ?_)
              · rw [if_neg c69] at hq
                refine v_throw dX6_account_77 dX6_account_80 dX6_account_81 dX6_account_84 rfl th_X6_44_46 rfl (by decide) (by decide) (by decide) ?_
                exact hq
              · rw [if_pos c69] at hq
                refine v_aload_n 73 dX6_account_72 rfl rfl ?_
                refine v_invv (d' := 4) (k' := 0) (n' := 0) (k2 := 1) (n2 := 6) 76 [] dX6_account_73 mt_X6_318 mi_X6_unusedArea me_X6_unusedArea (by first | assumption | rfl) (by rfl) rfl rfl (of_decide_eq_true rfl) rfl (by decide) rfl rfl rfl rfl (C_X6_unusedArea R I ?_)
                refine v_ireturn dX6_account_76 rfl ?_
                exact hq
            · rw [if_pos c58] at hq
              refine v_aload_n 62 dX6_account_61 rfl rfl ?_
              refine v_getfi 65 dX6_account_62 fl_X6_270 (by first | assumption | rfl) (by rfl) rfl ?_
              rw [R0.2.2.2.2.2.2]
              refine v_ireturn dX6_account_65 rfl ?_
              exact hq
          · rw [if_pos c47] at hq
            refine v_aload_n 51 dX6_account_50 rfl rfl ?_
            refine v_getfi 54 dX6_account_51 fl_X6_311 (by first | assumption | rfl) (by rfl) rfl ?_
            rw [R0.2.2.2.2.2.1]
            refine v_ireturn dX6_account_54 rfl ?_
            exact hq
        · rw [if_pos c36] at hq
          refine v_aload_n 40 dX6_account_39 rfl rfl ?_
          refine v_invv (d' := 3) (k' := 0) (n' := 0) (k2 := 1) (n2 := 6) 43 [] dX6_account_40 mt_X6_315 mi_X6_offcutArea me_X6_offcutArea (by first | assumption | rfl) (by rfl) rfl rfl (of_decide_eq_true rfl) rfl (by decide) rfl rfl rfl rfl (C_X6_offcutArea R I ?_)
          refine v_ireturn dX6_account_43 rfl ?_
          exact hq
      · rw [if_pos c25] at hq
        refine v_aload_n 29 dX6_account_28 rfl rfl ?_
        refine v_getfi 32 dX6_account_29 fl_X6_267 (by first | assumption | rfl) (by rfl) rfl ?_
        rw [R0.2.2.2.2.1]
        refine v_ireturn dX6_account_32 rfl ?_
        exact hq
    · rw [if_pos c14] at hq
      refine v_aload_n 18 dX6_account_17 rfl rfl ?_
      refine v_getfi 21 dX6_account_18 fl_X6_165 (by first | assumption | rfl) (by rfl) rfl ?_
      rw [R0.2.2.2.1]
      refine v_ireturn dX6_account_21 rfl ?_
      exact hq
  · rw [if_pos c3] at hq
    refine v_aload_n 7 dX6_account_6 rfl rfl ?_
    refine v_getfi 10 dX6_account_7 fl_X6_149 (by first | assumption | rfl) (by rfl) rfl ?_
    rw [R0.2.2.1]
    refine v_ireturn dX6_account_10 rfl ?_
    exact hq
set_option maxRecDepth 20000 in
theorem Li_X6_areasAgree {G : GW} {h : PH} {Q : RS → PH → Prop} {S : SP} {N : Nat} (R : Rp1 S h) (I : Iv S N) {f : Nat} {x y : Int32} (hf : f < nn_ S 1) (K : VV G 5 0 0 yX6_areasAgree cX6_areasAgree 5 (some .boolean) [] 54 [some (pv_O (10, 0)), some (pv_I (af_ S f x (s_n S f))), some (pv_I y), some (pv_O (12, f)), some (pv_I (nI (s_n S f)))] [] h Q) : ∀ fuel : Nat, ∀ (l : Nat), l ≤ s_n S f → s_n S f - l < fuel → VV G 5 0 0 yX6_areasAgree cX6_areasAgree 5 (some .boolean) [] 30 [some (pv_O (10, 0)), some (pv_I (af_ S f x l)), some (pv_I y), some (pv_O (12, f)), some (pv_I (nI l))] [] h Q := by
  intro fuel
  induction fuel with
  | zero =>
    intro l h1 h2
    omega
  | succ fuel ih =>
    intro l h1 h2
    have h24 := I.n24 hf
    have F := R.2.2.2.1.1 f hf
    refine v_iload 32 dX6_areasAgree_30 rfl rfl ?_
    refine v_aload_n 33 dX6_areasAgree_32 rfl rfl ?_
    refine v_getfi 36 dX6_areasAgree_33 fl_X6_85 (by first | assumption | rfl) (by rfl) rfl ?_
    rw [F.2.1.2.2.2.1]
    refine v_icmp_ge 54 39 dX6_areasAgree_36 (by decide) rfl (fun c36 => ?_) (fun c36 => ?_)
    · have hkm : l = s_n S f := by
        rcases Nat.lt_or_ge l (s_n S f) with q | q
        · exact absurd c36 (nI_ge q (by omega))
        · omega
      subst hkm
      exact K
    · have hkm : l < s_n S f := by
        rcases Nat.lt_or_ge l (s_n S f) with q | q
        · exact q
        · exact absurd (nI_le q (by omega)) c36
      have hok : ok_i (nI l) (s_n S f) := ok_i.of hkm (by omega)
      refine v_iload_n 40 dX6_areasAgree_39 rfl rfl ?_
      refine v_aload_n 41 dX6_areasAgree_40 rfl rfl ?_
      refine v_iload 43 dX6_areasAgree_41 rfl rfl ?_
      refine v_invv (d' := 2) (k' := 0) (n' := 0) (k2 := 0) (n2 := 0) 46 [_] dX6_areasAgree_43 mt_X6_96 mi_X0_areaOf me_X0_areaOf (by first | assumption | rfl) (by rfl) rfl rfl (of_decide_eq_true rfl) rfl (by decide) rfl rfl rfl rfl (C_X0_areaOf F (I.n24 hf) ?_)
      rw [if_pos hok]
      refine v_iadd 47 dX6_areasAgree_46 rfl ?_
      refine v_istore_n 48 dX6_areasAgree_47 (by decide) rfl rfl ?_
      dsimp only [List.set]
      refine v_iinc 51 dX6_areasAgree_48 rfl (by decide) rfl rfl ?_
      dsimp only [List.set]
      refine v_goto 30 dX6_areasAgree_51 (by decide) ?_
      rw [show nI l + Int32.ofInt 1 = nI (l + 1) from nI_1 l]
      exact ih (l + 1) (by omega) (by omega)
set_option maxRecDepth 20000 in
theorem L_X6_areasAgree {G : GW} {h : PH} {Q : RS → PH → Prop} {S : SP} {N : Nat} (R : Rp1 S h) (I : Iv S N) (hq : Q (.inl (some (pv_I 1))) h) : ∀ fuel : Nat, ∀ (k : Nat) (z3 z4 : Option PV), k ≤ nn_ S 1 → nn_ S 1 - k < fuel → VV G 5 0 0 yX6_areasAgree cX6_areasAgree 5 (some .boolean) [] 4 [some (pv_O (10, 0)), some (pv_I (aa_ S k)), some (pv_I (nI k)), z3, z4] [] h Q := by
  intro fuel
  induction fuel with
  | zero =>
    intro k z3 z4 h1 h2
    omega
  | succ fuel ih =>
    intro k zz3 zz4 h1 h2
    obtain ⟨R0, RL, R1, R2, R3, R4, R5⟩ := id R
    obtain ⟨z0, z1, z2, z3, z4, z5⟩ := I.cs
    obtain ⟨cap, LL⟩ := id RL.2.1
    refine v_iload_n 5 dX6_areasAgree_4 rfl rfl ?_
    refine v_aload_n 6 dX6_areasAgree_5 rfl rfl ?_
    refine v_getfr 9 dX6_areasAgree_6 fl_X6_16 (by first | assumption | rfl) (by rfl) rfl ?_
    rw [R0.1.2.2.1]
    refine v_invv (d' := 0) (k' := 0) (n' := 0) (k2 := 0) (n2 := 0) 12 [] dX6_areasAgree_9 mt_X6_47 mi_Jx4a65c_size_8abf5 me_Jx4a65c_size_8abf5 (by first | assumption | rfl) (by rfl) rfl rfl (of_decide_eq_true rfl) rfl (by decide) rfl rfl rfl rfl (C_Jx4a65c_size_8abf5 (tl := 21) (ta := 26) rfl rfl LL ?_)
    refine v_icmp_ge 60 15 dX6_areasAgree_12 (by decide) rfl (fun c12 => ?_) (fun c12 => ?_)
    · have hkm : k = nn_ S 1 := by
        rcases Nat.lt_or_ge k (nn_ S 1) with q | q
        · exact absurd c12 (nI_ge q (by omega))
        · omega
      subst hkm
      refine v_aload_n 61 dX6_areasAgree_60 rfl rfl ?_
      refine v_getfi 64 dX6_areasAgree_61 fl_X6_149 (by first | assumption | rfl) (by rfl) rfl ?_
      rw [R0.2.2.1]
      refine v_aload_n 65 dX6_areasAgree_64 rfl rfl ?_
      refine v_getfi 68 dX6_areasAgree_65 fl_X6_165 (by first | assumption | rfl) (by rfl) rfl ?_
      rw [R0.2.2.2.1]
      refine v_iadd 69 dX6_areasAgree_68 rfl ?_
      refine v_aload_n 70 dX6_areasAgree_69 rfl rfl ?_
      refine v_getfi 73 dX6_areasAgree_70 fl_X6_267 (by first | assumption | rfl) (by rfl) rfl ?_
      rw [R0.2.2.2.2.1]
      refine v_iadd 74 dX6_areasAgree_73 rfl ?_
      refine v_istore_n 75 dX6_areasAgree_74 (by decide) rfl rfl ?_
      dsimp only [List.set]
      refine v_iload_n 76 dX6_areasAgree_75 rfl rfl ?_
      refine v_iload_n 77 dX6_areasAgree_76 rfl rfl ?_
      refine v_aload_n 78 dX6_areasAgree_77 rfl rfl ?_
      refine v_invv (d' := 3) (k' := 0) (n' := 0) (k2 := 0) (n2 := 0) 81 [] dX6_areasAgree_78 mt_X6_315 mi_X6_offcutArea me_X6_offcutArea (by first | assumption | rfl) (by rfl) rfl rfl (of_decide_eq_true rfl) rfl (by decide) rfl rfl rfl rfl (C_X6_offcutArea R I ?_)
      refine v_iadd 82 dX6_areasAgree_81 rfl ?_
      refine v_aload_n 83 dX6_areasAgree_82 rfl rfl ?_
      refine v_getfi 86 dX6_areasAgree_83 fl_X6_311 (by first | assumption | rfl) (by rfl) rfl ?_
      rw [R0.2.2.2.2.2.1]
      refine v_iadd 87 dX6_areasAgree_86 rfl ?_
      refine v_aload_n 88 dX6_areasAgree_87 rfl rfl ?_
      refine v_getfi 91 dX6_areasAgree_88 fl_X6_270 (by first | assumption | rfl) (by rfl) rfl ?_
      rw [R0.2.2.2.2.2.2]
      refine v_iadd 92 dX6_areasAgree_91 rfl ?_
      refine v_aload_n 93 dX6_areasAgree_92 rfl rfl ?_
      refine v_invv (d' := 4) (k' := 0) (n' := 0) (k2 := 0) (n2 := 0) 96 [] dX6_areasAgree_93 mt_X6_318 mi_X6_unusedArea me_X6_unusedArea (by first | assumption | rfl) (by rfl) rfl rfl (of_decide_eq_true rfl) rfl (by decide) rfl rfl rfl rfl (C_X6_unusedArea R I ?_)
      refine v_iadd 97 dX6_areasAgree_96 rfl ?_
      refine v_icmp_ne 104 100 dX6_areasAgree_97 (by decide) rfl (fun c97 => ?_) (fun c97 => ?_)
      · refine absurd ?_ c97
        have e1 : i_sm S := I.2.2.2.2.2.2.1
        unfold i_sm at e1
        rw [aa_eq, e1]
      · refine v_iconstv (v := 1) 101 dX6_areasAgree_100 (by decide) rfl ?_
        refine v_goto 105 dX6_areasAgree_101 (by decide) ?_
        refine v_zreturn (ty := .boolean) (by first | rfl | decide | exact nz_if | exact nz_fi) dX6_areasAgree_105 rfl ?_
        exact hq
    · have hkm : k < nn_ S 1 := by
        rcases Nat.lt_or_ge k (nn_ S 1) with q | q
        · exact q
        · exact absurd (nI_le q (by omega)) c12
      refine v_aload_n 16 dX6_areasAgree_15 rfl rfl ?_
      refine v_getfr 19 dX6_areasAgree_16 fl_X6_16 (by first | assumption | rfl) (by rfl) rfl ?_
      rw [R0.1.2.2.1]
      refine v_iload_n 20 dX6_areasAgree_19 rfl rfl ?_
      refine v_invv (d' := 2) (k' := 0) (n' := 0) (k2 := 0) (n2 := 0) 23 [_] dX6_areasAgree_20 mt_X6_216 mi_Jx4a65c_get_915e3 me_Jx4a65c_get_915e3 (by first | assumption | rfl) (by rfl) rfl rfl (of_decide_eq_true rfl) rfl (by decide) rfl rfl rfl rfl (C_Jx4a65c_get_915e3 (tl := 21) (ta := 26) rfl rfl LL hkm ?_)
      refine v_cast 26 dX6_areasAgree_23 ⟨_, _, rfl, rfl, cl_X6_76⟩ rfl ?_
      refine v_astore_n 27 dX6_areasAgree_26 (by decide) rfl rfl ?_
      dsimp only [List.set]
      refine v_iconstv (v := 0) 28 dX6_areasAgree_27 (by decide) rfl ?_
      refine v_istore 30 dX6_areasAgree_28 (by decide) rfl rfl ?_
      dsimp only [List.set]
      refine Li_X6_areasAgree R I hkm ?_ (s_n S k + 1) 0 (Nat.zero_le _) (by omega)
      refine v_iinc 57 dX6_areasAgree_54 rfl (by decide) rfl rfl ?_
      dsimp only [List.set]
      refine v_goto 4 dX6_areasAgree_57 (by decide) ?_
      rw [show nI k + Int32.ofInt 1 = nI (k + 1) from nI_1 k]
      exact ih (k + 1) _ _ (by omega) (by omega)
set_option maxRecDepth 20000 in
theorem C_X6_areasAgree {G : GW} {h : PH} {Q : RS → PH → Prop} {S : SP} {N : Nat} (R : Rp1 S h) (I : Iv S N) (hq : Q (.inl (some (pv_I 1))) h) : VV G 5 0 0 yX6_areasAgree cX6_areasAgree 5 (some .boolean) [] 0 (vv_en 5 [pv_O (10, 0)]) [] h Q := by
  show VV G 5 0 0 yX6_areasAgree cX6_areasAgree 5 (some .boolean) [] 0 [some (pv_O (10, 0)), none, none, none, none] [] h Q
  refine v_iconstv (v := 0) 1 dX6_areasAgree_0 (by decide) rfl ?_
  refine v_istore_n 2 dX6_areasAgree_1 (by decide) rfl rfl ?_
  dsimp only [List.set]
  refine v_iconstv (v := 0) 3 dX6_areasAgree_2 (by decide) rfl ?_
  refine v_istore_n 4 dX6_areasAgree_3 (by decide) rfl rfl ?_
  dsimp only [List.set]
  exact L_X6_areasAgree R I hq (nn_ S 1 + 1) 0 _ _ (Nat.zero_le _) (by omega)
