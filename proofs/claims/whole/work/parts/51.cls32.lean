set_option maxRecDepth 20000 in
theorem L_X6_takeOffcut {G : GW} {h : PH} {Q : RS → PH → Prop} {S : SP} {N : Nat} (R : Rp1 S h) (I : Iv S N) {w d : Int32} (hq : ∀ h', Rp1 (match bo_ S w d (nn_ S 5) with | none => ((2, 0, S) : Nat × Int32 × SP) | some b => (0, o_w S b, tk_ S b)).2.2 h' → (∀ t, t < 10 ∨ 40 ≤ t → hp_te h h' t) → Q (an_ "java/lang/IllegalArgumentException" "java/util/NoSuchElementException" "" ((match bo_ S w d (nn_ S 5) with | none => ((2, 0, S) : Nat × Int32 × SP) | some b => (0, o_w S b, tk_ S b)).1, (match bo_ S w d (nn_ S 5) with | none => ((2, 0, S) : Nat × Int32 × SP) | some b => (0, o_w S b, tk_ S b)).2.1)) h') : ∀ fuel : Nat, ∀ (k : Nat) (o : Option Nat) (z6 z7 : Option PV), k ≤ nn_ S 5 → nn_ S 5 - k < fuel → bo_ S w d k = o → VV G 7 1 6 yX6_takeOffcut cX6_takeOffcut 8 (some .int) [] 38 [some (pv_O (10, 0)), some (pv_I w), some (pv_I d), some (pv_I (bi_ o)), some (pv_O (br_ S o)), some (pv_I (nI k)), z6, z7] [] h Q := by
  intro fuel
  induction fuel with
  | zero =>
    intro k o z6 z7 h1 h2
    omega
  | succ fuel ih =>
    intro k o zz6 zz7 h1 h2 hb
    obtain ⟨R0, RL, R1, R2, R3, R4, R5⟩ := id R
    obtain ⟨z0, z1, z2, z3, z4, z5⟩ := I.cs
    obtain ⟨cap, LL⟩ := id RL.2.2.2.2
    cases o with
    | none =>
      refine v_iload 40 dX6_takeOffcut_38 rfl rfl ?_
      refine v_aload_n 41 dX6_takeOffcut_40 rfl rfl ?_
      refine v_getfr 44 dX6_takeOffcut_41 fl_X6_25 (by first | assumption | rfl) (by rfl) rfl ?_
      rw [R0.1.2.2.2.2.2]
      refine v_invv (d' := 0) (k' := 0) (n' := 0) (k2 := 1) (n2 := 6) 47 [] dX6_takeOffcut_44 mt_X6_47 mi_Jx4a65c_size_8abf5 me_Jx4a65c_size_8abf5 (by first | assumption | rfl) (by rfl) rfl rfl (of_decide_eq_true rfl) rfl (by decide) rfl rfl rfl rfl (C_Jx4a65c_size_8abf5 (tl := 24) (ta := 29) rfl rfl LL ?_)
      refine v_icmp_ge 122 50 dX6_takeOffcut_47 (by decide) rfl (fun c47 => ?_) (fun c47 => ?_)
      · have hkm : k = nn_ S 5 := by
          rcases Nat.lt_or_ge k (nn_ S 5) with q | q
          · exact absurd c47 (nI_ge q (by omega))
          · omega
        subst hkm
        refine v_aload 124 dX6_takeOffcut_122 rfl rfl ?_
        refine v_ifnonnull 135 127 dX6_takeOffcut_124 (by decide) rfl (fun c124 => ?_) (fun c124 => ?_)
        · exact absurd rfl c124
        · refine v_throw dX6_takeOffcut_127 dX6_takeOffcut_130 dX6_takeOffcut_131 dX6_takeOffcut_134 rfl th_X6_168_170 rfl (by decide) (by decide) (by decide) ?_
          rw [hb] at hq
          exact hq h R (fun _ _ => hp_te.rf)
      · have hkm : k < nn_ S 5 := by
          rcases Nat.lt_or_ge k (nn_ S 5) with q | q
          · exact q
          · exact absurd (nI_le q (by omega)) c47
        refine v_aload_n 51 dX6_takeOffcut_50 rfl rfl ?_
        refine v_getfr 54 dX6_takeOffcut_51 fl_X6_25 (by first | assumption | rfl) (by rfl) rfl ?_
        rw [R0.1.2.2.2.2.2]
        refine v_iload 56 dX6_takeOffcut_54 rfl rfl ?_
        refine v_invv (d' := 2) (k' := 0) (n' := 0) (k2 := 1) (n2 := 6) 59 [_] dX6_takeOffcut_56 mt_X6_216 mi_Jx4a65c_get_915e3 me_Jx4a65c_get_915e3 (by first | assumption | rfl) (by rfl) rfl rfl (of_decide_eq_true rfl) rfl (by decide) rfl rfl rfl rfl (C_Jx4a65c_get_915e3 (tl := 24) (ta := 29) rfl rfl LL hkm ?_)
        refine v_cast 62 dX6_takeOffcut_59 ⟨_, _, rfl, rfl, cl_X6_296⟩ rfl ?_
        refine v_astore 64 dX6_takeOffcut_62 (by decide) rfl rfl ?_
        dsimp only [List.set]
        refine v_aload 66 dX6_takeOffcut_64 rfl rfl ?_
        refine v_getfi 69 dX6_takeOffcut_66 fl_X6_298 (by first | assumption | rfl) (by rfl) rfl ?_
        rw [(R5.1 k hkm).2.1]
        refine v_iload_n 70 dX6_takeOffcut_69 rfl rfl ?_
        refine v_icmp_lt 86 73 dX6_takeOffcut_70 (by decide) rfl (fun c70 => ?_) (fun c70 => ?_)
        · refine v_iconstv (v := 0) 87 dX6_takeOffcut_86 (by decide) rfl ?_
          refine v_istore 89 dX6_takeOffcut_87 (by decide) rfl rfl ?_
          dsimp only [List.set]
          refine v_iload 91 dX6_takeOffcut_89 rfl rfl ?_
          refine v_if_eq 116 94 dX6_takeOffcut_91 (by decide) rfl (fun c91 => ?_) (fun c91 => ?_)
          · refine v_iinc 119 dX6_takeOffcut_116 rfl (by decide) rfl rfl ?_
            dsimp only [List.set]
            refine v_goto 38 dX6_takeOffcut_119 (by decide) ?_
            rw [show nI k + Int32.ofInt 1 = nI (k + 1) from nI_1 k]
            have er : bo_ S w d (k + 1) = none := Eq.trans (if_neg (fun q => by first | exact absurd q.1.1 (Int32.not_le.mpr c70) | exact absurd q.1.2 (Int32.not_le.mpr c79))) hb
            exact ih (k + 1) _ _ _ (by omega) (by omega) er
          · exact absurd (by decide) c91
        · refine v_aload 75 dX6_takeOffcut_73 rfl rfl ?_
          refine v_getfi 78 dX6_takeOffcut_75 fl_X6_301 (by first | assumption | rfl) (by rfl) rfl ?_
          rw [(R5.1 k hkm).2.2]
          refine v_iload_n 79 dX6_takeOffcut_78 rfl rfl ?_
          refine v_icmp_lt 86 82 dX6_takeOffcut_79 (by decide) rfl (fun c79 => ?_) (fun c79 => ?_)
          · refine v_iconstv (v := 0) 87 dX6_takeOffcut_86 (by decide) rfl ?_
            refine v_istore 89 dX6_takeOffcut_87 (by decide) rfl rfl ?_
            dsimp only [List.set]
            refine v_iload 91 dX6_takeOffcut_89 rfl rfl ?_
            refine v_if_eq 116 94 dX6_takeOffcut_91 (by decide) rfl (fun c91 => ?_) (fun c91 => ?_)
            · refine v_iinc 119 dX6_takeOffcut_116 rfl (by decide) rfl rfl ?_
              dsimp only [List.set]
              refine v_goto 38 dX6_takeOffcut_119 (by decide) ?_
              rw [show nI k + Int32.ofInt 1 = nI (k + 1) from nI_1 k]
              have er : bo_ S w d (k + 1) = none := Eq.trans (if_neg (fun q => by first | exact absurd q.1.1 (Int32.not_le.mpr c70) | exact absurd q.1.2 (Int32.not_le.mpr c79))) hb
              exact ih (k + 1) _ _ _ (by omega) (by omega) er
            · exact absurd (by decide) c91
          · refine v_iconstv (v := 1) 83 dX6_takeOffcut_82 (by decide) rfl ?_
            refine v_goto 87 dX6_takeOffcut_83 (by decide) ?_
            refine v_istore 89 dX6_takeOffcut_87 (by decide) rfl rfl ?_
            dsimp only [List.set]
            refine v_iload 91 dX6_takeOffcut_89 rfl rfl ?_
            refine v_if_eq 116 94 dX6_takeOffcut_91 (by decide) rfl (fun c91 => ?_) (fun c91 => ?_)
            · exact absurd c91 (by decide)
            · refine v_aload 96 dX6_takeOffcut_94 rfl rfl ?_
              refine v_ifnull 109 99 dX6_takeOffcut_96 (by decide) rfl (fun c96 => ?_) (fun c96 => ?_)
              · refine v_iload 111 dX6_takeOffcut_109 rfl rfl ?_
                refine v_istore_n 112 dX6_takeOffcut_111 (by decide) rfl rfl ?_
                dsimp only [List.set]
                refine v_aload 114 dX6_takeOffcut_112 rfl rfl ?_
                refine v_astore 116 dX6_takeOffcut_114 (by decide) rfl rfl ?_
                dsimp only [List.set]
                refine v_iinc 119 dX6_takeOffcut_116 rfl (by decide) rfl rfl ?_
                dsimp only [List.set]
                refine v_goto 38 dX6_takeOffcut_119 (by decide) ?_
                rw [show nI k + Int32.ofInt 1 = nI (k + 1) from nI_1 k]
                have er : bo_ S w d (k + 1) = some k := if_pos ⟨⟨Int32.not_lt.mp c70, Int32.not_lt.mp c79⟩, fun b9 e9 => by rw [hb] at e9; cases e9⟩
                exact ih (k + 1) _ _ _ (by omega) (by omega) er
              · exact absurd rfl c96
    | some b =>
      have hbk := bo_lt S w d k b hb
      refine v_iload 40 dX6_takeOffcut_38 rfl rfl ?_
      refine v_aload_n 41 dX6_takeOffcut_40 rfl rfl ?_
      refine v_getfr 44 dX6_takeOffcut_41 fl_X6_25 (by first | assumption | rfl) (by rfl) rfl ?_
      rw [R0.1.2.2.2.2.2]
      refine v_invv (d' := 0) (k' := 0) (n' := 0) (k2 := 1) (n2 := 6) 47 [] dX6_takeOffcut_44 mt_X6_47 mi_Jx4a65c_size_8abf5 me_Jx4a65c_size_8abf5 (by first | assumption | rfl) (by rfl) rfl rfl (of_decide_eq_true rfl) rfl (by decide) rfl rfl rfl rfl (C_Jx4a65c_size_8abf5 (tl := 24) (ta := 29) rfl rfl LL ?_)
      refine v_icmp_ge 122 50 dX6_takeOffcut_47 (by decide) rfl (fun c47 => ?_) (fun c47 => ?_)
      · have hkm : k = nn_ S 5 := by
          rcases Nat.lt_or_ge k (nn_ S 5) with q | q
          · exact absurd c47 (nI_ge q (by omega))
          · omega
        subst hkm
        refine v_aload 124 dX6_takeOffcut_122 rfl rfl ?_
        refine v_ifnonnull 135 127 dX6_takeOffcut_124 (by decide) rfl (fun c124 => ?_) (fun c124 => ?_)
        · refine v_aload_n 136 dX6_takeOffcut_135 rfl rfl ?_
          refine v_getfr 139 dX6_takeOffcut_136 fl_X6_25 (by first | assumption | rfl) (by rfl) rfl ?_
          rw [R0.1.2.2.2.2.2]
          refine v_iload_n 140 dX6_takeOffcut_139 rfl rfl ?_
          refine v_invv (d' := 2) (k' := 0) (n' := 0) (k2 := 1) (n2 := 6) 143 [_] dX6_takeOffcut_140 mt_X6_308 mi_Jx4a65c_remove_915e3 me_Jx4a65c_remove_915e3 (by first | assumption | rfl) (by rfl) rfl rfl (of_decide_eq_true rfl) rfl (by decide) rfl rfl rfl rfl (C_Jx4a65c_remove_915e3 (tl := 24) (ta := 29) (f := fun k => (15, S.2.2 k)) rfl rfl LL (by decide) (by decide) (by decide) (by decide) (by decide) (by omega) (fun k hk => Or.inr ob_15) (fun h' L9 te9 tx9 => ?_))
          rw [hb] at hq
          have E10 := te9 10 (by decide) (by decide)
          have E15 := te9 15 (by decide) (by decide)
          refine v_pop 144 dX6_takeOffcut_143 rfl rfl ?_
          refine v_aload_n 145 dX6_takeOffcut_144 rfl rfl ?_
          refine v_dup 146 dX6_takeOffcut_145 rfl rfl ?_
          refine v_getfi 149 dX6_takeOffcut_146 fl_X6_311 (by first | assumption | rfl) (by rfl) rfl ?_
          rw [show hp_vi h' 10 0 9 = hp_vi S.1 40 0 6 from by rw [E10.2.2.1]; exact R0.2.2.2.2.2.1]
          refine v_aload 151 dX6_takeOffcut_149 rfl rfl ?_
          refine v_invv (d' := 0) (k' := 0) (n' := 0) (k2 := 1) (n2 := 6) 154 [] dX6_takeOffcut_151 mt_X6_314 mi_X2_surface me_X2_surface (by first | assumption | rfl) (by rfl) rfl rfl (of_decide_eq_true rfl) rfl (by decide) rfl rfl rfl rfl (C_X2_surface ?_)
          rw [show hp_vi h' 15 (S.2.2 b) 0 = o_w S b from by rw [E15.2.2.1]; exact (R5.1 b (by omega)).2.1, show hp_vi h' 15 (S.2.2 b) 1 = o_d S b from by rw [E15.2.2.1]; exact (R5.1 b (by omega)).2.2]
          refine v_iadd 155 dX6_takeOffcut_154 rfl ?_
          refine v_putfi 158 dX6_takeOffcut_155 pf_X6_takeOffcut_311 (by first | assumption | rfl) (by first | assumption | decide) (by rfl) rfl rfl rfl ?_
          refine v_aload 160 dX6_takeOffcut_158 rfl rfl ?_
          refine v_getfi 163 dX6_takeOffcut_160 fl_X6_298 (by first | assumption | rfl) (by rfl) rfl ?_
          rw [show hp_vi (hp_seti h' 10 0 9 (hp_vi S.1 40 0 6 + o_w S b * o_d S b)) 15 (S.2.2 b) 0 = o_w S b from by show hp_vi h' 15 (S.2.2 b) 0 = _; rw [E15.2.2.1]; exact (R5.1 b (by omega)).2.1]
          refine v_ireturn dX6_takeOffcut_163 rfl ?_
          refine hq _ (R.tk (by omega) (fun t t1 t2 t3 => (te9 t t2 t3).tr (hp_te.i t1)) ⟨_, (L9.te (hp_te.i (by decide)) (hp_te.i (by decide)) (hp_te.i (by decide))).f (fun k hk => ?_)⟩ ?_) (fun t ht => (te9 t (by omega) (by omega)).tr (hp_te.i (by omega)))
          · split <;> rfl
          · obtain ⟨r0, r1, r2, r3, r4, r5, r6⟩ := R0.te (S' := S) E10 rfl
            refine ⟨r0, ?_, ?_, ?_, ?_, ?_, ?_⟩
            · exact (hp_seti_ne (by simp)).trans (r1.trans (hp_seti_ne (by simp)).symm)
            · exact (hp_seti_ne (by simp)).trans (r2.trans (hp_seti_ne (by simp)).symm)
            · exact (hp_seti_ne (by simp)).trans (r3.trans (hp_seti_ne (by simp)).symm)
            · exact (hp_seti_ne (by simp)).trans (r4.trans (hp_seti_ne (by simp)).symm)
            · exact hp_seti_at.trans hp_seti_at.symm
            · exact (hp_seti_ne (by simp)).trans (r6.trans (hp_seti_ne (by simp)).symm)
        · exact absurd c124 (show ¬ (15 : Nat) = 0 by decide)
      · have hkm : k < nn_ S 5 := by
          rcases Nat.lt_or_ge k (nn_ S 5) with q | q
          · exact q
          · exact absurd (nI_le q (by omega)) c47
        refine v_aload_n 51 dX6_takeOffcut_50 rfl rfl ?_
        refine v_getfr 54 dX6_takeOffcut_51 fl_X6_25 (by first | assumption | rfl) (by rfl) rfl ?_
        rw [R0.1.2.2.2.2.2]
        refine v_iload 56 dX6_takeOffcut_54 rfl rfl ?_
        refine v_invv (d' := 2) (k' := 0) (n' := 0) (k2 := 1) (n2 := 6) 59 [_] dX6_takeOffcut_56 mt_X6_216 mi_Jx4a65c_get_915e3 me_Jx4a65c_get_915e3 (by first | assumption | rfl) (by rfl) rfl rfl (of_decide_eq_true rfl) rfl (by decide) rfl rfl rfl rfl (C_Jx4a65c_get_915e3 (tl := 24) (ta := 29) rfl rfl LL hkm ?_)
        refine v_cast 62 dX6_takeOffcut_59 ⟨_, _, rfl, rfl, cl_X6_296⟩ rfl ?_
        refine v_astore 64 dX6_takeOffcut_62 (by decide) rfl rfl ?_
        dsimp only [List.set]
        refine v_aload 66 dX6_takeOffcut_64 rfl rfl ?_
        refine v_getfi 69 dX6_takeOffcut_66 fl_X6_298 (by first | assumption | rfl) (by rfl) rfl ?_
        rw [(R5.1 k hkm).2.1]
        refine v_iload_n 70 dX6_takeOffcut_69 rfl rfl ?_
        refine v_icmp_lt 86 73 dX6_takeOffcut_70 (by decide) rfl (fun c70 => ?_) (fun c70 => ?_)
        · refine v_iconstv (v := 0) 87 dX6_takeOffcut_86 (by decide) rfl ?_
          refine v_istore 89 dX6_takeOffcut_87 (by decide) rfl rfl ?_
          dsimp only [List.set]
          refine v_iload 91 dX6_takeOffcut_89 rfl rfl ?_
          refine v_if_eq 116 94 dX6_takeOffcut_91 (by decide) rfl (fun c91 => ?_) (fun c91 => ?_)
          · refine v_iinc 119 dX6_takeOffcut_116 rfl (by decide) rfl rfl ?_
            dsimp only [List.set]
            refine v_goto 38 dX6_takeOffcut_119 (by decide) ?_
            rw [show nI k + Int32.ofInt 1 = nI (k + 1) from nI_1 k]
            have er : bo_ S w d (k + 1) = some b := Eq.trans (if_neg (fun q => by first | exact absurd q.1.1 (Int32.not_le.mpr c70) | exact absurd q.1.2 (Int32.not_le.mpr c79))) hb
            exact ih (k + 1) _ _ _ (by omega) (by omega) er
          · exact absurd (by decide) c91
        · refine v_aload 75 dX6_takeOffcut_73 rfl rfl ?_
          refine v_getfi 78 dX6_takeOffcut_75 fl_X6_301 (by first | assumption | rfl) (by rfl) rfl ?_
          rw [(R5.1 k hkm).2.2]
          refine v_iload_n 79 dX6_takeOffcut_78 rfl rfl ?_
          refine v_icmp_lt 86 82 dX6_takeOffcut_79 (by decide) rfl (fun c79 => ?_) (fun c79 => ?_)
          · refine v_iconstv (v := 0) 87 dX6_takeOffcut_86 (by decide) rfl ?_
            refine v_istore 89 dX6_takeOffcut_87 (by decide) rfl rfl ?_
            dsimp only [List.set]
            refine v_iload 91 dX6_takeOffcut_89 rfl rfl ?_
            refine v_if_eq 116 94 dX6_takeOffcut_91 (by decide) rfl (fun c91 => ?_) (fun c91 => ?_)
            · refine v_iinc 119 dX6_takeOffcut_116 rfl (by decide) rfl rfl ?_
              dsimp only [List.set]
              refine v_goto 38 dX6_takeOffcut_119 (by decide) ?_
              rw [show nI k + Int32.ofInt 1 = nI (k + 1) from nI_1 k]
              have er : bo_ S w d (k + 1) = some b := Eq.trans (if_neg (fun q => by first | exact absurd q.1.1 (Int32.not_le.mpr c70) | exact absurd q.1.2 (Int32.not_le.mpr c79))) hb
              exact ih (k + 1) _ _ _ (by omega) (by omega) er
            · exact absurd (by decide) c91
          · refine v_iconstv (v := 1) 83 dX6_takeOffcut_82 (by decide) rfl ?_
            refine v_goto 87 dX6_takeOffcut_83 (by decide) ?_
            refine v_istore 89 dX6_takeOffcut_87 (by decide) rfl rfl ?_
            dsimp only [List.set]
            refine v_iload 91 dX6_takeOffcut_89 rfl rfl ?_
            refine v_if_eq 116 94 dX6_takeOffcut_91 (by decide) rfl (fun c91 => ?_) (fun c91 => ?_)
            · exact absurd c91 (by decide)
            · refine v_aload 96 dX6_takeOffcut_94 rfl rfl ?_
              refine v_ifnull 109 99 dX6_takeOffcut_96 (by decide) rfl (fun c96 => ?_) (fun c96 => ?_)
              · exact absurd c96 (show ¬ (15 : Nat) = 0 by decide)
              · refine v_aload 101 dX6_takeOffcut_99 rfl rfl ?_
                refine v_aload 103 dX6_takeOffcut_101 rfl rfl ?_
                refine v_invv (d' := 0) (k' := 0) (n' := 0) (k2 := 1) (n2 := 6) 106 [_] dX6_takeOffcut_103 mt_X6_304 mi_X2_isSmallerThan me_X2_isSmallerThan (by first | assumption | rfl) (by rfl) rfl rfl (of_decide_eq_true rfl) rfl (by decide) rfl rfl rfl rfl (C_X2_isSmallerThan ?_)
                rw [(R5.1 k hkm).2.1, (R5.1 k hkm).2.2, (R5.1 b (by omega)).2.1, (R5.1 b (by omega)).2.2]
                refine v_if_eq 116 109 dX6_takeOffcut_106 (by decide) rfl (fun c106 => ?_) (fun c106 => ?_)
                · have c106 := f1_0.mp c106
                  refine v_iinc 119 dX6_takeOffcut_116 rfl (by decide) rfl rfl ?_
                  dsimp only [List.set]
                  refine v_goto 38 dX6_takeOffcut_119 (by decide) ?_
                  rw [show nI k + Int32.ofInt 1 = nI (k + 1) from nI_1 k]
                  have er : bo_ S w d (k + 1) = some b := Eq.trans (if_neg (fun q => c106 (q.2 b hb))) hb
                  exact ih (k + 1) _ _ _ (by omega) (by omega) er
                · have c106 := Decidable.not_not.mp (fun q => c106 (f1_0.mpr q))
                  refine v_iload 111 dX6_takeOffcut_109 rfl rfl ?_
                  refine v_istore_n 112 dX6_takeOffcut_111 (by decide) rfl rfl ?_
                  dsimp only [List.set]
                  refine v_aload 114 dX6_takeOffcut_112 rfl rfl ?_
                  refine v_astore 116 dX6_takeOffcut_114 (by decide) rfl rfl ?_
                  dsimp only [List.set]
                  refine v_iinc 119 dX6_takeOffcut_116 rfl (by decide) rfl rfl ?_
                  dsimp only [List.set]
                  refine v_goto 38 dX6_takeOffcut_119 (by decide) ?_
                  rw [show nI k + Int32.ofInt 1 = nI (k + 1) from nI_1 k]
                  have er : bo_ S w d (k + 1) = some k := if_pos ⟨⟨Int32.not_lt.mp c70, Int32.not_lt.mp c79⟩, fun b9 e9 => (Option.some.inj (hb.symm.trans e9)) ▸ c106⟩
                  exact ih (k + 1) _ _ _ (by omega) (by omega) er
set_option maxRecDepth 20000 in
theorem C_X6_takeOffcut {G : GW} {h : PH} {Q : RS → PH → Prop} {S : SP} {N : Nat} (R : Rp1 S h) (I : Iv S N) {w d : Int32} (hq : ∀ h', Rp1 (op_takeOffcut S w d).2.2 h' → (∀ t, t < 10 ∨ 40 ≤ t → hp_te h h' t) → Q (an_ "java/lang/IllegalArgumentException" "java/util/NoSuchElementException" "" ((op_takeOffcut S w d).1, (op_takeOffcut S w d).2.1)) h') : VV G 8 2 12 yX6_takeOffcut cX6_takeOffcut 8 (some .int) [] 0 (vv_en 8 [pv_O (10, 0), pv_I w, pv_I d]) [] h Q := by
  show VV G 8 2 12 yX6_takeOffcut cX6_takeOffcut 8 (some .int) [] 0 [some (pv_O (10, 0)), some (pv_I w), some (pv_I d), none, none, none, none, none] [] h Q
  obtain ⟨R0, RL, R1, R2, R3, R4, R5⟩ := id R
  obtain ⟨z0, z1, z2, z3, z4, z5⟩ := I.cs
  unfold op_takeOffcut at hq
  refine v_iload_n 1 dX6_takeOffcut_0 rfl rfl ?_
  refine v_bipushv (v := 50) 3 dX6_takeOffcut_1 (by decide) rfl ?_
  refine v_sipushv (v := 4000) 6 dX6_takeOffcut_3 (by decide) rfl ?_
  refine v_invs (d' := 0) (k' := 0) (n' := 0) (k2 := 2) (n2 := 12) 9 [_, _, _] dX6_takeOffcut_6 mt_X6_40 ms_X6_isIn rfl rfl (of_decide_eq_true rfl) rfl (by decide) rfl rfl rfl rfl (C_X6_isIn ?_)
  refine v_if_eq 22 12 dX6_takeOffcut_9 (by decide) rfl (fun c9 => ?_) (fun c9 => ?_)
  · have c9 := f1_0.mp c9
    rw [if_neg (fun q => by first | exact c9 q.1 | exact c19 q.2)] at hq
    refine v_throw dX6_takeOffcut_22 dX6_takeOffcut_25 dX6_takeOffcut_26 dX6_takeOffcut_29 rfl th_X6_44_46 rfl (by decide) (by decide) (by decide) ?_
    exact hq h R (fun _ _ => hp_te.rf)
  · have c9 := Decidable.not_not.mp (fun q => c9 (f1_0.mpr q))
    refine v_iload_n 13 dX6_takeOffcut_12 rfl rfl ?_
    refine v_iconstv (v := 1) 14 dX6_takeOffcut_13 (by decide) rfl ?_
    refine v_bipushv (v := 20) 16 dX6_takeOffcut_14 (by decide) rfl ?_
    refine v_invs (d' := 0) (k' := 0) (n' := 0) (k2 := 2) (n2 := 12) 19 [_, _, _] dX6_takeOffcut_16 mt_X6_40 ms_X6_isIn rfl rfl (of_decide_eq_true rfl) rfl (by decide) rfl rfl rfl rfl (C_X6_isIn ?_)
    refine v_if_ne 30 22 dX6_takeOffcut_19 (by decide) rfl (fun c19 => ?_) (fun c19 => ?_)
    · have c19 := Decidable.not_not.mp (fun q => c19 (f1_0.mpr q))
      rw [if_pos ⟨c9, c19⟩] at hq
      refine v_iconstv (v := -1) 31 dX6_takeOffcut_30 (by decide) rfl ?_
      refine v_istore_n 32 dX6_takeOffcut_31 (by decide) rfl rfl ?_
      dsimp only [List.set]
      refine v_null 33 dX6_takeOffcut_32 rfl ?_
      refine v_astore 35 dX6_takeOffcut_33 (by decide) rfl rfl ?_
      dsimp only [List.set]
      refine v_iconstv (v := 0) 36 dX6_takeOffcut_35 (by decide) rfl ?_
      refine v_istore 38 dX6_takeOffcut_36 (by decide) rfl rfl ?_
      dsimp only [List.set]
      exact VV.less (by decide) (by decide) (by decide) (L_X6_takeOffcut R I hq (nn_ S 5 + 1) 0 none _ _ (Nat.zero_le _) (by omega) rfl)
    · have c19 := f1_0.mp c19
      rw [if_neg (fun q => by first | exact c9 q.1 | exact c19 q.2)] at hq
      refine v_throw dX6_takeOffcut_22 dX6_takeOffcut_25 dX6_takeOffcut_26 dX6_takeOffcut_29 rfl th_X6_44_46 rfl (by decide) (by decide) (by decide) ?_
      exact hq h R (fun _ _ => hp_te.rf)
