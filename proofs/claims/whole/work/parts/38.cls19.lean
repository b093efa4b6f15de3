abbrev cv_ (S : SP) (p f a m : Nat) : Prop := hp_vi S.1 43 p 1 ≤ hp_vi S.1 41 (s_lg S f) 2 ∧ fr_ok S f a m (s_st S p (nI m))
/-- the best first leaf so far, and its jump -/
def bs_ (S : SP) (p f m : Nat) (mt : Int32) : Nat → Int32 × Int32
  | 0 => (-1, 0)
  | k + 1 => if cv_ S p f k m ∧ ((bs_ S p f m mt k).1 < 0 ∨ s_jp S f k m mt < (bs_ S p f m mt k).2) then (nI k, s_jp S f k m mt) else bs_ S p f m mt k
def op_bestFirst (S : SP) (x y many mt : Int32) : Nat × Int32 := if ok_i x (nn_ S 2) then (if ok_i y (nn_ S 1) then (if ¬ ixf_ mt tx_m 0 < 0 ∧ (1 ≤ many ∧ many ≤ 8) then (if (bs_ S (cl_ x) (cl_ y) (cl_ many) mt (s_n S (cl_ y) + 1 - cl_ many)).1 < 0 then (3, 0) else (0, (bs_ S (cl_ x) (cl_ y) (cl_ many) mt (s_n S (cl_ y) + 1 - cl_ many)).1)) else (2, 0)) else (1, 0)) else (1, 0)
set_option maxRecDepth 20000 in
theorem L_X6_bestFirst {G : GW} {h : PH} {Q : RS → PH → Prop} {S : SP} {N : Nat} (R : Rp1 S h) (I : Iv S N) {p f m : Nat} {x y mt : Int32} (hp : p < nn_ S 2) (hf : f < nn_ S 1) (hm1 : 1 ≤ m) (hm8 : m ≤ 8) (hq : Q (an_ "java/lang/IndexOutOfBoundsException" "java/lang/IllegalArgumentException" "java/util/NoSuchElementException" (if (bs_ S p f m mt (s_n S f + 1 - m)).1 < 0 then (3, 0) else (0, (bs_ S p f m mt (s_n S f + 1 - m)).1))) h) : ∀ fuel : Nat, ∀ (k : Nat) (z10 : Option PV), k ≤ s_n S f + 1 - m → s_n S f + 1 - m - k < fuel → VV G 6 1 6 yX6_bestFirst cX6_bestFirst 11 (some .int) [] 51 [some (pv_O (10, 0)), some (pv_I x), some (pv_I y), some (pv_I (nI m)), some (pv_I mt), some (pv_O (13, p)), some (pv_O (12, f)), some (pv_I (bs_ S p f m mt k).1), some (pv_I (bs_ S p f m mt k).2), some (pv_I (nI k)), z10] [] h Q := by
  intro fuel
  induction fuel with
  | zero =>
    intro k z10 h1 h2
    omega
  | succ fuel ih =>
    intro k zz10 h1 h2
    have h24 := I.n24 hf
    have F2 := R.2.2.2.1.1 f hf
    have F := R.2.2.2.2.1.1 p hp
    refine v_iload 53 dX6_bestFirst_51 rfl rfl ?_
    refine v_aload 55 dX6_bestFirst_53 rfl rfl ?_
    refine v_getfi 58 dX6_bestFirst_55 fl_X6_85 (by first | assumption | rfl) (by rfl) rfl ?_
    rw [F2.2.1.2.2.2.1]
    refine v_iload_n 59 dX6_bestFirst_58 rfl rfl ?_
    refine v_isub 60 dX6_bestFirst_59 rfl ?_
    refine v_icmp_gt 114 63 dX6_bestFirst_60 (by decide) rfl (fun c60 => ?_) (fun c60 => ?_)
    · have hkm : k = s_n S f + 1 - m := by
        have q := Int32.lt_iff_toInt_lt.mp c60
        rw [pk_sub_toInt (by omega) (by omega), nI_toInt (by omega)] at q
        omega
      subst hkm
      refine v_iload 116 dX6_bestFirst_114 rfl rfl ?_
      refine v_if_ge 127 119 dX6_bestFirst_116 (by decide) rfl (fun c116 => ?_) (fun c116 => ?_)
      · rw [if_neg (Int32.not_lt.mpr c116)] at hq
        refine v_iload 129 dX6_bestFirst_127 rfl rfl ?_
        refine v_ireturn dX6_bestFirst_129 rfl ?_
        exact hq
      · rw [if_pos (Int32.not_le.mp c116)] at hq
        refine v_throw dX6_bestFirst_119 dX6_bestFirst_122 dX6_bestFirst_123 dX6_bestFirst_126 rfl th_X6_168_170 rfl (by decide) (by decide) (by decide) ?_
        exact hq
    · have hkm : k + m ≤ s_n S f := by
        have q := Int32.le_iff_toInt_le.mp (Int32.not_lt.mp c60)
        rw [pk_sub_toInt (by omega) (by omega), nI_toInt (by omega)] at q
        omega
      refine v_aload 65 dX6_bestFirst_63 rfl rfl ?_
      refine v_aload 67 dX6_bestFirst_65 rfl rfl ?_
      refine v_iload 69 dX6_bestFirst_67 rfl rfl ?_
      refine v_iload_n 70 dX6_bestFirst_69 rfl rfl ?_
      refine v_invs (d' := 2) (k' := 0) (n' := 0) (k2 := 1) (n2 := 6) 73 [_, _, _, _] dX6_bestFirst_70 mt_X6_127 ms_X6_canCover rfl rfl (of_decide_eq_true rfl) rfl (by decide) rfl rfl rfl rfl (C_X6_canCover F F2 h24 (I.u01 hf) hkm hm1 ?_)
      refine v_if_eq 108 76 dX6_bestFirst_73 (by decide) rfl (fun c73 => ?_) (fun c73 => ?_)
      · have c73 := f1_0.mp c73
        refine v_iinc 111 dX6_bestFirst_108 rfl (by decide) rfl rfl ?_
        dsimp only [List.set]
        refine v_goto 51 dX6_bestFirst_111 (by decide) ?_
        rw [show nI k + Int32.ofInt 1 = nI (k + 1) from nI_1 k]
        have er : bs_ S p f m mt (k + 1) = bs_ S p f m mt k := if_neg (fun q => c73 q.1)
        have X := fun z => ih (k + 1) z (by omega) (by omega)
        rw [er] at X
        exact X _
      · have c73 := Decidable.not_not.mp (fun q => c73 (f1_0.mpr q))
        refine v_aload 78 dX6_bestFirst_76 rfl rfl ?_
        refine v_iload 80 dX6_bestFirst_78 rfl rfl ?_
        refine v_iload_n 81 dX6_bestFirst_80 rfl rfl ?_
        refine v_iload 83 dX6_bestFirst_81 rfl rfl ?_
        refine v_invs (d' := 2) (k' := 0) (n' := 0) (k2 := 1) (n2 := 6) 86 [_, _, _, _] dX6_bestFirst_83 mt_X6_136 ms_X6_jumpOf rfl rfl (of_decide_eq_true rfl) rfl (by decide) rfl rfl rfl rfl (C_X6_jumpOf F2 h24 hkm hm1 ?_)
        refine v_istore 88 dX6_bestFirst_86 (by decide) rfl rfl ?_
        dsimp only [List.set]
        refine v_iload 90 dX6_bestFirst_88 rfl rfl ?_
        refine v_if_lt 100 93 dX6_bestFirst_90 (by decide) rfl (fun c90 => ?_) (fun c90 => ?_)
        · refine v_iload 102 dX6_bestFirst_100 rfl rfl ?_
          refine v_istore 104 dX6_bestFirst_102 (by decide) rfl rfl ?_
          dsimp only [List.set]
          refine v_iload 106 dX6_bestFirst_104 rfl rfl ?_
          refine v_istore 108 dX6_bestFirst_106 (by decide) rfl rfl ?_
          dsimp only [List.set]
          refine v_iinc 111 dX6_bestFirst_108 rfl (by decide) rfl rfl ?_
          dsimp only [List.set]
          refine v_goto 51 dX6_bestFirst_111 (by decide) ?_
          rw [show nI k + Int32.ofInt 1 = nI (k + 1) from nI_1 k]
          have er : bs_ S p f m mt (k + 1) = (nI k, s_jp S f k m mt) := if_pos ⟨c73, Or.inl c90⟩
          have X := ih (k + 1) (some (pv_I (s_jp S f k m mt))) (by omega) (by omega)
          rw [er] at X
          exact X
        · refine v_iload 95 dX6_bestFirst_93 rfl rfl ?_
          refine v_iload 97 dX6_bestFirst_95 rfl rfl ?_
          refine v_icmp_ge 108 100 dX6_bestFirst_97 (by decide) rfl (fun c97 => ?_) (fun c97 => ?_)
          · refine v_iinc 111 dX6_bestFirst_108 rfl (by decide) rfl rfl ?_
            dsimp only [List.set]
            refine v_goto 51 dX6_bestFirst_111 (by decide) ?_
            rw [show nI k + Int32.ofInt 1 = nI (k + 1) from nI_1 k]
            have er : bs_ S p f m mt (k + 1) = bs_ S p f m mt k := if_neg (fun q => q.2.elim c90 (fun w => absurd w (Int32.not_lt.mpr c97)))
            have X := fun z => ih (k + 1) z (by omega) (by omega)
            rw [er] at X
            exact X _
          · refine v_iload 102 dX6_bestFirst_100 rfl rfl ?_
            refine v_istore 104 dX6_bestFirst_102 (by decide) rfl rfl ?_
            dsimp only [List.set]
            refine v_iload 106 dX6_bestFirst_104 rfl rfl ?_
            refine v_istore 108 dX6_bestFirst_106 (by decide) rfl rfl ?_
            dsimp only [List.set]
            refine v_iinc 111 dX6_bestFirst_108 rfl (by decide) rfl rfl ?_
            dsimp only [List.set]
            refine v_goto 51 dX6_bestFirst_111 (by decide) ?_
            rw [show nI k + Int32.ofInt 1 = nI (k + 1) from nI_1 k]
            have er : bs_ S p f m mt (k + 1) = (nI k, s_jp S f k m mt) := if_pos ⟨c73, Or.inr (Int32.not_le.mp c97)⟩
            have X := ih (k + 1) (some (pv_I (s_jp S f k m mt))) (by omega) (by omega)
            rw [er] at X
            exact X
set_option maxRecDepth 20000 in
theorem C_X6_bestFirst {G : GW} {h : PH} {Q : RS → PH → Prop} {S : SP} {N : Nat} (R : Rp1 S h) (I : Iv S N) {x y e c : Int32} (hc9 : 0 ≤ c ∧ c ≤ 65535) (hq : Q (an_ "java/lang/IndexOutOfBoundsException" "java/lang/IllegalArgumentException" "java/util/NoSuchElementException" (op_bestFirst S x y e c)) h) : VV G 8 4 24 yX6_bestFirst cX6_bestFirst 11 (some .int) [] 0 (vv_en 11 [pv_O (10, 0), pv_I x, pv_I y, pv_I e, pv_I c]) [] h Q := by
  show VV G 8 4 24 yX6_bestFirst cX6_bestFirst 11 (some .int) [] 0 [some (pv_O (10, 0)), some (pv_I x), some (pv_I y), some (pv_I e), some (pv_I c), none, none, none, none, none, none] [] h Q
  obtain ⟨R0, RL, R1, R2, R3, R4, R5⟩ := id R
  obtain ⟨z0, z1, z2, z3, z4, z5⟩ := I.cs
  unfold op_bestFirst at hq
  refine v_aload_n 1 dX6_bestFirst_0 rfl rfl ?_
  refine v_iload_n 2 dX6_bestFirst_1 rfl rfl ?_
  refine v_invv (d' := 6) (k' := 1) (n' := 6) (k2 := 3) (n2 := 18) 5 [_] dX6_bestFirst_2 mt_X6_113 mi_X6_panelOf me_X6_panelOf (by first | assumption | rfl) (by rfl) rfl rfl (of_decide_eq_true rfl) rfl (by decide) rfl rfl rfl rfl (C_X6_panelOf R0 RL (fun e => ?_) (fun ho => ?_))
  · rw [if_neg e] at hq
    exact vv_out hq
  rw [if_pos ho] at hq
  have hc := ho.cl (by omega)
  refine v_astore 7 dX6_bestFirst_5 (by decide) rfl rfl ?_
  dsimp only [List.set]
  refine v_aload_n 8 dX6_bestFirst_7 rfl rfl ?_
  refine v_iload_n 9 dX6_bestFirst_8 rfl rfl ?_
  refine v_invv (d' := 6) (k' := 1) (n' := 6) (k2 := 2) (n2 := 12) 12 [_] dX6_bestFirst_9 mt_X6_81 mi_X6_flitchOf me_X6_flitchOf (by first | assumption | rfl) (by rfl) rfl rfl (of_decide_eq_true rfl) rfl (by decide) rfl rfl rfl rfl (C_X6_flitchOf R0 RL (fun e2 => ?_) (fun hy => ?_))
  · rw [if_neg e2] at hq
    exact vv_out hq
  rw [if_pos hy] at hq
  have hcy := hy.cl (by omega)
  refine v_astore 14 dX6_bestFirst_12 (by decide) rfl rfl ?_
  dsimp only [List.set]
  refine v_ldcs (i := 4) (tx := "bsr") 16 dX6_bestFirst_14 (by first | (simp [g_sx]; done) | (simp [g_sx]; rfl)) (by decide) rfl ?_
  refine v_iload 18 dX6_bestFirst_16 rfl rfl ?_
  refine v_invs (d' := 4) (k' := 0) (n' := 0) (k2 := 2) (n2 := 12) 21 [_, _] dX6_bestFirst_18 mt_X6_34 ms_X6_isOneOf rfl rfl (of_decide_eq_true rfl) rfl (by decide) rfl rfl rfl rfl (C_X6_isOneOf (i0 := 4) (by decide) hc9.1 ?_)
  refine v_if_eq 34 24 dX6_bestFirst_21 (by decide) rfl (fun c21 => ?_) (fun c21 => ?_)
  · have c21 := f0_0.mp c21
    rw [if_neg (fun q => by first | exact q.1 c21 | exact c31 q.2)] at hq
    refine v_throw dX6_bestFirst_34 dX6_bestFirst_37 dX6_bestFirst_38 dX6_bestFirst_41 rfl th_X6_44_46 rfl (by decide) (by decide) (by decide) ?_
    exact hq
  · have c21 := fun q => c21 (f0_0.mpr q)
    refine v_iload_n 25 dX6_bestFirst_24 rfl rfl ?_
    refine v_iconstv (v := 1) 26 dX6_bestFirst_25 (by decide) rfl ?_
    refine v_bipushv (v := 8) 28 dX6_bestFirst_26 (by decide) rfl ?_
    refine v_invs (d' := 0) (k' := 0) (n' := 0) (k2 := 2) (n2 := 12) 31 [_, _, _] dX6_bestFirst_28 mt_X6_40 ms_X6_isIn rfl rfl (of_decide_eq_true rfl) rfl (by decide) rfl rfl rfl rfl (C_X6_isIn ?_)
    refine v_if_ne 42 34 dX6_bestFirst_31 (by decide) rfl (fun c31 => ?_) (fun c31 => ?_)
    · have c31 := Decidable.not_not.mp (fun q => c31 (f1_0.mpr q))
      rw [if_pos ⟨c21, c31⟩] at hq
      obtain ⟨m9, em1, em2, em⟩ := a_nat (lo := 1) (hi := 8) c31 (by decide) (by decide)
      have ecm : cl_ e = m9 := by unfold cl_; rw [em, nI_clamp (by omega)]
      rw [ecm] at hq
      rw [em]
      refine v_iconstv (v := -1) 43 dX6_bestFirst_42 (by decide) rfl ?_
      refine v_istore 45 dX6_bestFirst_43 (by decide) rfl rfl ?_
      dsimp only [List.set]
      refine v_iconstv (v := 0) 46 dX6_bestFirst_45 (by decide) rfl ?_
      refine v_istore 48 dX6_bestFirst_46 (by decide) rfl rfl ?_
      dsimp only [List.set]
      refine v_iconstv (v := 0) 49 dX6_bestFirst_48 (by decide) rfl ?_
      refine v_istore 51 dX6_bestFirst_49 (by decide) rfl rfl ?_
      dsimp only [List.set]
      exact VV.less (by decide) (by decide) (by decide) (L_X6_bestFirst R I hc.1 hcy.1 em1 em2 hq (s_n S (cl_ y) + 2) 0 _ (Nat.zero_le _) (by omega))
    · have c31 := f1_0.mp c31
      rw [if_neg (fun q => by first | exact q.1 c21 | exact c31 q.2)] at hq
      refine v_throw dX6_bestFirst_34 dX6_bestFirst_37 dX6_bestFirst_38 dX6_bestFirst_41 rfl th_X6_44_46 rfl (by decide) (by decide) (by decide) ?_
      exact hq
