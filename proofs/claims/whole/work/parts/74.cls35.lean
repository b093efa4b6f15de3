section VVF
/-- used leaves; all leaves; their figures -/
def us_ (S : SP) : Nat → Nat
  | 0 => 0
  | k + 1 => us_ S k + s_uc S k (s_n S k)
def as_ (S : SP) : Nat → Nat
  | 0 => 0
  | k + 1 => as_ S k + s_n S k
/-- figures of one flitch, then of all before one -/
def mf_ (S : SP) (f : Nat) (x : Int32) : Nat → Int32
  | 0 => x
  | l + 1 => mf_ S f x l + s_f S f (nI l)
def mg_ (S : SP) : Nat → Int32
  | 0 => 0
  | k + 1 => mf_ S k (mg_ S k) (s_n S k)
theorem uc_le {S : SP} {f : Nat} : ∀ l, s_uc S f l ≤ l
  | 0 => Nat.le_refl _
  | l + 1 => by
    have := uc_le (S := S) (f := f) l
    show s_uc S f l + (if hp_vi S.1 62 f l = 0 then 0 else 1) ≤ _
    split <;> omega
theorem as_le {S : SP} {N : Nat} (I : Iv S N) : ∀ k, k ≤ nn_ S 1 → us_ S k ≤ as_ S k ∧ as_ S k ≤ 24 * k
  | 0, _ => ⟨Nat.le_refl _, Nat.le_refl _⟩
  | k + 1, h => by
    obtain ⟨h1, h2⟩ := as_le I k (by omega)
    have h3 := I.n24 (f := k) (by omega)
    have h4 := uc_le (S := S) (f := k) (s_n S k)
    show us_ S k + _ ≤ as_ S k + _ ∧ as_ S k + _ ≤ _
    omega
theorem as_b {S : SP} {N : Nat} (I : Iv S N) : us_ S (nn_ S 1) ≤ 192 ∧ as_ S (nn_ S 1) ≤ 192 := by
  obtain ⟨h1, h2⟩ := as_le I _ (Nat.le_refl _)
  have h3 := I.cs.2.1
  omega
theorem nI_abs {n : Nat} (h : n ≤ 192) : (nI n).toInt.natAbs ≤ 2 ^ 24 := by
  rw [nI_toInt (by omega)]
  omega
def op_us (S : SP) : UInt32 := FP.fdiv (FP.i2f (nI (us_ S (nn_ S 1)))) (FP.i2f (nI (as_ S (nn_ S 1))))
def op_mf (S : SP) : UInt64 := FP.ddiv (FP.i2d (mg_ S (nn_ S 1))) (FP.i2d (nI (as_ S (nn_ S 1))))
theorem us_nn {S : SP} {N : Nat} (I : Iv S N) (h : ¬ as_ S (nn_ S 1) = 0) : Jvm.FP.Core.val32 (op_us S) ≠ .nan :=
  vf_if (nI_abs (as_b I).1) (nI_abs (as_b I).2) (nI_ne0 (by omega) (by have := (as_b I).2; omega))
theorem mf_nn {S : SP} {N : Nat} (I : Iv S N) (h : ¬ as_ S (nn_ S 1) = 0) : Jvm.FP.Core.val64 (op_mf S) ≠ .nan :=
  vf_id (nI_ne0 (by omega) (by have := (as_b I).2; omega))
set_option maxRecDepth 20000 in
theorem L_X6_usedShare {G : GW} {h : PH} {Q : RS → PH → Prop} {S : SP} {N : Nat} (R : Rp1 S h) (I : Iv S N) (he : as_ S (nn_ S 1) = 0 → Q (.inr "java/lang/ArithmeticException") h) (hq : ¬ as_ S (nn_ S 1) = 0 → Q (.inl (some (pv_F (op_us S)))) h) : ∀ fuel : Nat, ∀ (k : Nat), k ≤ nn_ S 1 → nn_ S 1 - k < fuel → VV G 7 1 6 yX6_usedShare cX6_usedShare 4 (some .float) [] 6 [some (pv_O (10, 0)), some (pv_I (nI (us_ S k))), some (pv_I (nI (as_ S k))), some (pv_I (nI k))] [] h Q := by
  intro fuel
  induction fuel with
  | zero =>
    intro k h1 h2
    omega
  | succ fuel ih =>
    intro k h1 h2
    obtain ⟨R0, RL, R1, R2, R3, R4, R5⟩ := id R
    obtain ⟨z0, z1, z2, z3, z4, z5⟩ := I.cs
    obtain ⟨cap, LL⟩ := id RL.2.1
    refine v_iload_n 7 dX6_usedShare_6 rfl rfl ?_
    refine v_aload_n 8 dX6_usedShare_7 rfl rfl ?_
    refine v_getfr 11 dX6_usedShare_8 fl_X6_16 (by first | assumption | rfl) (by rfl) rfl ?_
    rw [R0.1.2.2.1]
    refine v_invv (d' := 0) (k' := 0) (n' := 0) (k2 := 1) (n2 := 6) 14 [] dX6_usedShare_11 mt_X6_47 mi_Jx4a65c_size_8abf5 me_Jx4a65c_size_8abf5 (by first | assumption | rfl) (by rfl) rfl rfl (of_decide_eq_true rfl) rfl (by decide) rfl rfl rfl rfl (C_Jx4a65c_size_8abf5 (tl := 21) (ta := 26) rfl rfl LL ?_)
    refine v_icmp_ge 57 17 dX6_usedShare_14 (by decide) rfl (fun c14 => ?_) (fun c14 => ?_)
    · have hkm : k = nn_ S 1 := by
        rcases Nat.lt_or_ge k (nn_ S 1) with q | q
        · exact absurd c14 (nI_ge q (by omega))
        · omega
      subst hkm
      refine v_iload_n 58 dX6_usedShare_57 rfl rfl ?_
      refine v_if_ne 69 61 dX6_usedShare_58 (by decide) rfl (fun c58 => ?_) (fun c58 => ?_)
      · have hz : ¬ as_ S (nn_ S 1) = 0 := fun e => c58 (by rw [e]; rfl)
        refine v_iload_n 70 dX6_usedShare_69 rfl rfl ?_
        refine v_i2f 71 dX6_usedShare_70 rfl ?_
        refine v_iload_n 72 dX6_usedShare_71 rfl rfl ?_
        refine v_i2f 73 dX6_usedShare_72 rfl ?_
        refine v_fdiv 74 dX6_usedShare_73 (vf32_of (us_nn I hz)) rfl ?_
        refine v_freturn dX6_usedShare_74 rfl ?_
        exact hq hz
      · have hz : as_ S (nn_ S 1) = 0 := by
          exact Decidable.byContradiction (fun q => nI_ne0 (Nat.pos_of_ne_zero q) (by have := (as_b I).2; omega) c58)
        refine v_throw dX6_usedShare_61 dX6_usedShare_64 dX6_usedShare_65 dX6_usedShare_68 rfl th_X6_327_329 rfl (by decide) (by decide) (by decide) ?_
        exact he hz
    · have hkm : k < nn_ S 1 := by
        rcases Nat.lt_or_ge k (nn_ S 1) with q | q
        · exact q
        · exact absurd (nI_le q (by omega)) c14
      refine v_iload_n 18 dX6_usedShare_17 rfl rfl ?_
      refine v_aload_n 19 dX6_usedShare_18 rfl rfl ?_
      refine v_getfr 22 dX6_usedShare_19 fl_X6_16 (by first | assumption | rfl) (by rfl) rfl ?_
      rw [R0.1.2.2.1]
      refine v_iload_n 23 dX6_usedShare_22 rfl rfl ?_
      refine v_invv (d' := 2) (k' := 0) (n' := 0) (k2 := 1) (n2 := 6) 26 [_] dX6_usedShare_23 mt_X6_216 mi_Jx4a65c_get_915e3 me_Jx4a65c_get_915e3 (by first | assumption | rfl) (by rfl) rfl rfl (of_decide_eq_true rfl) rfl (by decide) rfl rfl rfl rfl (C_Jx4a65c_get_915e3 (tl := 21) (ta := 26) rfl rfl LL hkm ?_)
      refine v_cast 29 dX6_usedShare_26 ⟨_, _, rfl, rfl, cl_X6_76⟩ rfl ?_
      refine v_getfi 32 dX6_usedShare_29 fl_X6_324 (by first | assumption | rfl) (by rfl) rfl ?_
      rw [(R2.1 k hkm).2.1.2.2.2.2]
      refine v_iadd 33 dX6_usedShare_32 rfl ?_
      rw [nI_add]
      refine v_istore_n 34 dX6_usedShare_33 (by decide) rfl rfl ?_
      dsimp only [List.set]
      refine v_iload_n 35 dX6_usedShare_34 rfl rfl ?_
      refine v_aload_n 36 dX6_usedShare_35 rfl rfl ?_
      refine v_getfr 39 dX6_usedShare_36 fl_X6_16 (by first | assumption | rfl) (by rfl) rfl ?_
      rw [R0.1.2.2.1]
      refine v_iload_n 40 dX6_usedShare_39 rfl rfl ?_
      refine v_invv (d' := 2) (k' := 0) (n' := 0) (k2 := 1) (n2 := 6) 43 [_] dX6_usedShare_40 mt_X6_216 mi_Jx4a65c_get_915e3 me_Jx4a65c_get_915e3 (by first | assumption | rfl) (by rfl) rfl rfl (of_decide_eq_true rfl) rfl (by decide) rfl rfl rfl rfl (C_Jx4a65c_get_915e3 (tl := 21) (ta := 26) rfl rfl LL hkm ?_)
      refine v_cast 46 dX6_usedShare_43 ⟨_, _, rfl, rfl, cl_X6_76⟩ rfl ?_
      refine v_getfi 49 dX6_usedShare_46 fl_X6_85 (by first | assumption | rfl) (by rfl) rfl ?_
      rw [(R2.1 k hkm).2.1.2.2.2.1]
      refine v_iadd 50 dX6_usedShare_49 rfl ?_
      rw [nI_add]
      refine v_istore_n 51 dX6_usedShare_50 (by decide) rfl rfl ?_
      dsimp only [List.set]
      refine v_iinc 54 dX6_usedShare_51 rfl (by decide) rfl rfl ?_
      dsimp only [List.set]
      refine v_goto 6 dX6_usedShare_54 (by decide) ?_
      rw [show nI k + Int32.ofInt 1 = nI (k + 1) from nI_1 k]
      exact ih (k + 1) (by omega) (by omega)
set_option maxRecDepth 20000 in
theorem C_X6_usedShare {G : GW} {h : PH} {Q : RS → PH → Prop} {S : SP} {N : Nat} (R : Rp1 S h) (I : Iv S N) (he : as_ S (nn_ S 1) = 0 → Q (.inr "java/lang/ArithmeticException") h) (hq : ¬ as_ S (nn_ S 1) = 0 → Q (.inl (some (pv_F (op_us S)))) h) : VV G 7 1 6 yX6_usedShare cX6_usedShare 4 (some .float) [] 0 (vv_en 4 [pv_O (10, 0)]) [] h Q := by
  show VV G 7 1 6 yX6_usedShare cX6_usedShare 4 (some .float) [] 0 [some (pv_O (10, 0)), none, none, none] [] h Q
  refine v_iconstv (v := 0) 1 dX6_usedShare_0 (by decide) rfl ?_
  refine v_istore_n 2 dX6_usedShare_1 (by decide) rfl rfl ?_
  dsimp only [List.set]
  refine v_iconstv (v := 0) 3 dX6_usedShare_2 (by decide) rfl ?_
  refine v_istore_n 4 dX6_usedShare_3 (by decide) rfl rfl ?_
  dsimp only [List.set]
  refine v_iconstv (v := 0) 5 dX6_usedShare_4 (by decide) rfl ?_
  refine v_istore_n 6 dX6_usedShare_5 (by decide) rfl rfl ?_
  dsimp only [List.set]
  exact L_X6_usedShare R I he hq (nn_ S 1 + 1) 0 (Nat.zero_le _) (by omega)
set_option maxRecDepth 20000 in
theorem I_X6_meanFigure {G : GW} {h : PH} {Q : RS → PH → Prop} {S : SP} {N : Nat} (R : Rp1 S h) (I : Iv S N) {k : Nat} (hk : k < nn_ S 1) (F : fl_1 S h k) (hn : s_n S k ≤ 24) (K : ∀ (z5 : Option PV), VV G 7 1 6 yX6_meanFigure cX6_meanFigure 6 (some .double) [] 59 [some (pv_O (10, 0)), some (pv_I (mg_ S (k + 1))), some (pv_I (nI (as_ S k))), some (pv_I (nI k)), some (pv_O (12, k)), z5] [] h Q) : ∀ fuel : Nat, ∀ (l : Nat), l ≤ s_n S k → s_n S k - l < fuel → VV G 7 1 6 yX6_meanFigure cX6_meanFigure 6 (some .double) [] 33 [some (pv_O (10, 0)), some (pv_I (mf_ S k (mg_ S k) l)), some (pv_I (nI (as_ S k))), some (pv_I (nI k)), some (pv_O (12, k)), some (pv_I (nI l))] [] h Q := by
  intro fuel
  induction fuel with
  | zero =>
    intro l h1 h2
    omega
  | succ fuel ih =>
    intro l h1 h2
    refine v_iload 35 dX6_meanFigure_33 rfl rfl ?_
    refine v_aload 37 dX6_meanFigure_35 rfl rfl ?_
    refine v_getfi 40 dX6_meanFigure_37 fl_X6_85 (by first | assumption | rfl) (by rfl) rfl ?_
    rw [F.2.1.2.2.2.1]
    refine v_icmp_ge 59 43 dX6_meanFigure_40 (by decide) rfl (fun c40 => ?_) (fun c40 => ?_)
    · have hkm : l = s_n S k := by
        rcases Nat.lt_or_ge l (s_n S k) with q | q
        · exact absurd c40 (nI_ge q (by omega))
        · omega
      subst hkm
      exact K _
    · have hkm : l < s_n S k := by
        rcases Nat.lt_or_ge l (s_n S k) with q | q
        · exact q
        · exact absurd (nI_le q (by omega)) c40
      refine v_iload_n 44 dX6_meanFigure_43 rfl rfl ?_
      refine v_aload 46 dX6_meanFigure_44 rfl rfl ?_
      refine v_iload 48 dX6_meanFigure_46 rfl rfl ?_
      refine v_invv (d' := 1) (k' := 0) (n' := 0) (k2 := 1) (n2 := 6) 51 [_] dX6_meanFigure_48 mt_X6_99 mi_X0_figureOf me_X0_figureOf (by first | assumption | rfl) (by rfl) rfl rfl (of_decide_eq_true rfl) rfl (by decide) rfl rfl rfl rfl (C_X0_figureOf F hn ?_)
      rw [if_pos (ok_i.of (n := s_n S k) (by omega) (by omega))]
      refine v_iadd 52 dX6_meanFigure_51 rfl ?_
      refine v_istore_n 53 dX6_meanFigure_52 (by decide) rfl rfl ?_
      dsimp only [List.set]
      refine v_iinc 56 dX6_meanFigure_53 rfl (by decide) rfl rfl ?_
      dsimp only [List.set]
      refine v_goto 33 dX6_meanFigure_56 (by decide) ?_
      rw [show nI l + Int32.ofInt 1 = nI (l + 1) from nI_1 l]
      exact ih (l + 1) (by omega) (by omega)
set_option maxRecDepth 20000 in
theorem L_X6_meanFigure {G : GW} {h : PH} {Q : RS → PH → Prop} {S : SP} {N : Nat} (R : Rp1 S h) (I : Iv S N) (he : as_ S (nn_ S 1) = 0 → Q (.inr "java/lang/ArithmeticException") h) (hq : ¬ as_ S (nn_ S 1) = 0 → Q (.inl (some (pv_D (op_mf S)))) h) : ∀ fuel : Nat, ∀ (k : Nat) (z4 z5 : Option PV), k ≤ nn_ S 1 → nn_ S 1 - k < fuel → VV G 7 1 6 yX6_meanFigure cX6_meanFigure 6 (some .double) [] 6 [some (pv_O (10, 0)), some (pv_I (mg_ S k)), some (pv_I (nI (as_ S k))), some (pv_I (nI k)), z4, z5] [] h Q := by
  intro fuel
  induction fuel with
  | zero =>
    intro k z4 z5 h1 h2
    omega
  | succ fuel ih =>
    intro k z4 z5 h1 h2
    obtain ⟨R0, RL, R1, R2, R3, R4, R5⟩ := id R
    obtain ⟨z0, z1, z2, z3, z4, z5⟩ := I.cs
    obtain ⟨cap, LL⟩ := id RL.2.1
    refine v_iload_n 7 dX6_meanFigure_6 rfl rfl ?_
    refine v_aload_n 8 dX6_meanFigure_7 rfl rfl ?_
    refine v_getfr 11 dX6_meanFigure_8 fl_X6_16 (by first | assumption | rfl) (by rfl) rfl ?_
    rw [R0.1.2.2.1]
    refine v_invv (d' := 0) (k' := 0) (n' := 0) (k2 := 1) (n2 := 6) 14 [] dX6_meanFigure_11 mt_X6_47 mi_Jx4a65c_size_8abf5 me_Jx4a65c_size_8abf5 (by first | assumption | rfl) (by rfl) rfl rfl (of_decide_eq_true rfl) rfl (by decide) rfl rfl rfl rfl (C_Jx4a65c_size_8abf5 (tl := 21) (ta := 26) rfl rfl LL ?_)
    refine v_icmp_ge 73 17 dX6_meanFigure_14 (by decide) rfl (fun c14 => ?_) (fun c14 => ?_)
    · have hkm : k = nn_ S 1 := by
        rcases Nat.lt_or_ge k (nn_ S 1) with q | q
        · exact absurd c14 (nI_ge q (by omega))
        · omega
      subst hkm
      refine v_iload_n 74 dX6_meanFigure_73 rfl rfl ?_
      refine v_if_ne 85 77 dX6_meanFigure_74 (by decide) rfl (fun c74 => ?_) (fun c74 => ?_)
      · have hz : ¬ as_ S (nn_ S 1) = 0 := fun e => c74 (by rw [e]; rfl)
        refine v_iload_n 86 dX6_meanFigure_85 rfl rfl ?_
        refine v_i2d 87 dX6_meanFigure_86 rfl ?_
        refine v_iload_n 88 dX6_meanFigure_87 rfl rfl ?_
        refine v_i2d 89 dX6_meanFigure_88 rfl ?_
        refine v_ddiv 90 dX6_meanFigure_89 (vf64_of (mf_nn I hz)) rfl ?_
        refine v_dreturn dX6_meanFigure_90 rfl ?_
        exact hq hz
      · have hz : as_ S (nn_ S 1) = 0 := by
          exact Decidable.byContradiction (fun q => nI_ne0 (Nat.pos_of_ne_zero q) (by have := (as_b I).2; omega) c74)
        refine v_throw dX6_meanFigure_77 dX6_meanFigure_80 dX6_meanFigure_81 dX6_meanFigure_84 rfl th_X6_327_329 rfl (by decide) (by decide) (by decide) ?_
        exact he hz
    · have hkm : k < nn_ S 1 := by
        rcases Nat.lt_or_ge k (nn_ S 1) with q | q
        · exact q
        · exact absurd (nI_le q (by omega)) c14
      refine v_aload_n 18 dX6_meanFigure_17 rfl rfl ?_
      refine v_getfr 21 dX6_meanFigure_18 fl_X6_16 (by first | assumption | rfl) (by rfl) rfl ?_
      rw [R0.1.2.2.1]
      refine v_iload_n 22 dX6_meanFigure_21 rfl rfl ?_
      refine v_invv (d' := 2) (k' := 0) (n' := 0) (k2 := 1) (n2 := 6) 25 [_] dX6_meanFigure_22 mt_X6_216 mi_Jx4a65c_get_915e3 me_Jx4a65c_get_915e3 (by first | assumption | rfl) (by rfl) rfl rfl (of_decide_eq_true rfl) rfl (by decide) rfl rfl rfl rfl (C_Jx4a65c_get_915e3 (tl := 21) (ta := 26) rfl rfl LL hkm ?_)
      refine v_cast 28 dX6_meanFigure_25 ⟨_, _, rfl, rfl, cl_X6_76⟩ rfl ?_
      refine v_astore 30 dX6_meanFigure_28 (by decide) rfl rfl ?_
      dsimp only [List.set]
      refine v_iconstv (v := 0) 31 dX6_meanFigure_30 (by decide) rfl ?_
      refine v_istore 33 dX6_meanFigure_31 (by decide) rfl rfl ?_
      dsimp only [List.set]
      have F := R2.1 k hkm
      refine I_X6_meanFigure R I hkm F (I.n24 hkm) (fun z5 => ?_) (s_n S k + 1) 0 (Nat.zero_le _) (by omega)
      refine v_iload_n 60 dX6_meanFigure_59 rfl rfl ?_
      refine v_aload 62 dX6_meanFigure_60 rfl rfl ?_
      refine v_getfi 65 dX6_meanFigure_62 fl_X6_85 (by first | assumption | rfl) (by rfl) rfl ?_
      rw [F.2.1.2.2.2.1]
      refine v_iadd 66 dX6_meanFigure_65 rfl ?_
      rw [nI_add]
      refine v_istore_n 67 dX6_meanFigure_66 (by decide) rfl rfl ?_
      dsimp only [List.set]
      refine v_iinc 70 dX6_meanFigure_67 rfl (by decide) rfl rfl ?_
      dsimp only [List.set]
      refine v_goto 6 dX6_meanFigure_70 (by decide) ?_
      rw [show nI k + Int32.ofInt 1 = nI (k + 1) from nI_1 k]
      exact ih (k + 1) _ _ (by omega) (by omega)
set_option maxRecDepth 20000 in
theorem C_X6_meanFigure {G : GW} {h : PH} {Q : RS → PH → Prop} {S : SP} {N : Nat} (R : Rp1 S h) (I : Iv S N) (he : as_ S (nn_ S 1) = 0 → Q (.inr "java/lang/ArithmeticException") h) (hq : ¬ as_ S (nn_ S 1) = 0 → Q (.inl (some (pv_D (op_mf S)))) h) : VV G 7 1 6 yX6_meanFigure cX6_meanFigure 6 (some .double) [] 0 (vv_en 6 [pv_O (10, 0)]) [] h Q := by
  show VV G 7 1 6 yX6_meanFigure cX6_meanFigure 6 (some .double) [] 0 [some (pv_O (10, 0)), none, none, none, none, none] [] h Q
  refine v_iconstv (v := 0) 1 dX6_meanFigure_0 (by decide) rfl ?_
  refine v_istore_n 2 dX6_meanFigure_1 (by decide) rfl rfl ?_
  dsimp only [List.set]
  refine v_iconstv (v := 0) 3 dX6_meanFigure_2 (by decide) rfl ?_
  refine v_istore_n 4 dX6_meanFigure_3 (by decide) rfl rfl ?_
  dsimp only [List.set]
  refine v_iconstv (v := 0) 5 dX6_meanFigure_4 (by decide) rfl ?_
  refine v_istore_n 6 dX6_meanFigure_5 (by decide) rfl rfl ?_
  dsimp only [List.set]
  exact L_X6_meanFigure R I he hq (nn_ S 1 + 1) 0 _ _ (Nat.zero_le _) (by omega)
end VVF
