theorem arc_ (a b c : Int32) : a + b + c = a + c + b := by rw [Int32.add_assoc, Int32.add_comm b c, ← Int32.add_assoc]
theorem nb_neg {k d : Nat} (hk : k < 64) (hd : d < 4) : nb_ k d = -1 ∨ ¬ nb_ k d < 0 := by
  rcases nb_in hk hd with e | ⟨j, hj, e, -⟩
  · exact Or.inl e
  · exact Or.inr (by rw [e]; exact nI_pos (by omega))
theorem ed_m {S : SP} {p k d : Nat} {c : Int32} (e : nb_ k d = -1) : ed_ S p c k d = 0 := if_pos (by rw [e]; decide)
theorem ed_s {S : SP} {p k d j : Nat} {c : Int32} (e : nb_ k d = nI j) (hj : j < 64) (q : hp_vi S.1 63 p j = hp_vi S.1 63 p k) : ed_ S p c k d = 0 := by
  unfold ed_
  rw [e, if_neg (nI_pos (by omega)), show cl_ (nI j) = j from nI_clamp (by omega), if_pos q.symm]
theorem ed_d {S : SP} {p k d j : Nat} {c : Int32} (e : nb_ k d = nI j) (hj : j < 64) (q : ¬ hp_vi S.1 63 p j = hp_vi S.1 63 p k) : ed_ S p c k d = ab_ (fg_ S p c k - fg_ S p c j) := by
  unfold ed_
  rw [e, if_neg (nI_pos (by omega)), show cl_ (nI j) = j from nI_clamp (by omega), if_neg (fun w => q w.symm)]
set_option maxRecDepth 20000 in
theorem L_X12_contrast {G : GW} {h : PH} {Q : RS → PH → Prop} {S : SP} {N : Nat} (R : Rp2 S h) (I : Iv S N) {x c : Int32} {p : Nat} (hp : p < nn_ S 3) (w : ¬ (s_pa S p).1 = 0) (hq : Q (.inl (some (pv_I (cs_ S p c 64)))) h) : ∀ fuel : Nat, ∀ (k : Nat) (z6 z7 : Option PV), k ≤ 64 → 64 - k < fuel → VV G 4 0 0 yX12_contrast cX12_contrast 8 (some .int) [] 43 [some (pv_O (40, 0)), some (pv_I x), some (pv_I c), some (pv_O (44, p)), some (pv_I (cs_ S p c k)), some (pv_I (nI k)), z6, z7] [] h Q := by
  intro fuel
  induction fuel with
  | zero =>
    intro k z6 z7 h1 h2
    omega
  | succ fuel ih =>
    intro k zz6 zz7 h1 h2
    have J := I.pa hp w
    obtain ⟨⟨i1, i2, i3, i4, i5, i6, i7⟩, -⟩ := I.2.2.2.2.1 p hp
    refine v_iload 45 dX12_contrast_43 rfl rfl ?_
    refine v_bipushv (v := 64) 47 dX12_contrast_45 (by decide) rfl ?_
    refine v_icmp_ge 146 50 dX12_contrast_47 (by decide) rfl (fun c47 => ?_) (fun c47 => ?_)
    · have hkm : k = 64 := by
        rcases Nat.lt_or_ge k 64 with q | q
        · exact absurd c47 (nI_ge (a := k) (b := 64) q (by decide))
        · omega
      subst hkm
      refine v_iload 148 dX12_contrast_146 rfl rfl ?_
      refine v_ireturn dX12_contrast_148 rfl ?_
      exact hq
    · have hkm : k < 64 := by
        rcases Nat.lt_or_ge k 64 with q | q
        · exact q
        · exact absurd (nI_le (a := 64) (b := k) q (by omega)) c47
      refine v_iconstv (v := 1) 51 dX12_contrast_50 (by decide) rfl ?_
      refine v_istore 53 dX12_contrast_51 (by decide) rfl rfl ?_
      dsimp only [List.set]
      refine v_iload 55 dX12_contrast_53 rfl rfl ?_
      refine v_iconstv (v := 4) 56 dX12_contrast_55 (by decide) rfl ?_
      refine v_icmp_ge 140 59 dX12_contrast_56 (by decide) rfl (fun c56 => ?_) (fun c56 => ?_)
      · first | exact absurd c56 (by decide) | exact absurd rfl c56 | exact absurd (of_decide_eq_true rfl) c56
      · refine v_iload 61 dX12_contrast_59 rfl rfl ?_
        refine v_iload 63 dX12_contrast_61 rfl rfl ?_
        refine v_invs (d' := 1) (k' := 0) (n' := 0) (k2 := 0) (n2 := 0) 66 [_, _] dX12_contrast_63 mt_X12_331 ms_X12_beside rfl rfl (of_decide_eq_true rfl) rfl (by decide) rfl rfl rfl rfl (C_X12_beside (d := 1) hkm (by decide) ?_)
        refine v_istore 68 dX12_contrast_66 (by decide) rfl rfl ?_
        dsimp only [List.set]
        refine v_iload 70 dX12_contrast_68 rfl rfl ?_
        refine v_iconstv (v := -1) 71 dX12_contrast_70 (by decide) rfl ?_
        refine v_icmp_eq 134 74 dX12_contrast_71 (by decide) rfl (fun c71 => ?_) (fun c71 => ?_)
        · have e1 : ed_ S p c k 1 = 0 := ed_m c71
          refine v_iinc 137 dX12_contrast_134 rfl (by decide) rfl rfl ?_
          dsimp only [List.set]
          try rw [show (1 : Int32) + Int32.ofInt 2 = 3 from by decide]
          refine v_goto 53 dX12_contrast_137 (by decide) ?_
          refine v_iload 55 dX12_contrast_53 rfl rfl ?_
          refine v_iconstv (v := 4) 56 dX12_contrast_55 (by decide) rfl ?_
          refine v_icmp_ge 140 59 dX12_contrast_56 (by decide) rfl (fun c56 => ?_) (fun c56 => ?_)
          · first | exact absurd c56 (by decide) | exact absurd rfl c56 | exact absurd (of_decide_eq_true rfl) c56
          · refine v_iload 61 dX12_contrast_59 rfl rfl ?_
            refine v_iload 63 dX12_contrast_61 rfl rfl ?_
            refine v_invs (d' := 1) (k' := 0) (n' := 0) (k2 := 0) (n2 := 0) 66 [_, _] dX12_contrast_63 mt_X12_331 ms_X12_beside rfl rfl (of_decide_eq_true rfl) rfl (by decide) rfl rfl rfl rfl (C_X12_beside (d := 3) hkm (by decide) ?_)
            refine v_istore 68 dX12_contrast_66 (by decide) rfl rfl ?_
            dsimp only [List.set]
            refine v_iload 70 dX12_contrast_68 rfl rfl ?_
            refine v_iconstv (v := -1) 71 dX12_contrast_70 (by decide) rfl ?_
            refine v_icmp_eq 134 74 dX12_contrast_71 (by decide) rfl (fun c71 => ?_) (fun c71 => ?_)
            · have e0 : ed_ S p c k 0 = 0 := ed_m c71
              refine v_iinc 137 dX12_contrast_134 rfl (by decide) rfl rfl ?_
              dsimp only [List.set]
              try rw [show (1 : Int32) + Int32.ofInt 2 = 3 from by decide]
              refine v_goto 53 dX12_contrast_137 (by decide) ?_
              refine v_iload 55 dX12_contrast_53 rfl rfl ?_
              refine v_iconstv (v := 4) 56 dX12_contrast_55 (by decide) rfl ?_
              refine v_icmp_ge 140 59 dX12_contrast_56 (by decide) rfl (fun c56 => ?_) (fun c56 => ?_)
              · refine v_iinc 143 dX12_contrast_140 rfl (by decide) rfl rfl ?_
                dsimp only [List.set]
                refine v_goto 43 dX12_contrast_143 (by decide) ?_
                rw [show nI k + Int32.ofInt 1 = nI (k + 1) from nI_1 k]
                have X := fun z6 z7 => ih (k + 1) z6 z7 (by omega) (by omega)
                rw [show cs_ S p c (k + 1) = cs_ S p c k + ed_ S p c k 1 + ed_ S p c k 0 from arc_ _ _ _, e1, e0] at X
                try rw [Int32.add_zero] at X
                try rw [Int32.add_zero] at X
                exact X _ _
              · first | exact absurd c56 (by decide) | exact absurd rfl c56 | exact absurd (of_decide_eq_true rfl) c56
            · obtain ⟨j, hj, e, -⟩ := (nr_in (d := 3) hkm).resolve_left c71
              refine v_aload_n 75 dX12_contrast_74 rfl rfl ?_
              refine v_getfr 78 dX12_contrast_75 fl_X12_317 (by first | assumption | rfl) (by rfl) rfl ?_
              rw [R.vr (t := 44) (by decide), i4]
              refine v_iload 80 dX12_contrast_78 rfl rfl ?_
              rw [e]
              refine v_iald 81 dX12_contrast_80 (by first | assumption | rfl) (by rw [R.ln (t := 63) (by decide), i6]; exact in_nI hj (by omega)) rfl ?_
              rw [nI_clamp (by omega), R.vi (t := 63) (by decide)]
              refine v_aload_n 82 dX12_contrast_81 rfl rfl ?_
              refine v_getfr 85 dX12_contrast_82 fl_X12_317 (by first | assumption | rfl) (by rfl) rfl ?_
              rw [R.vr (t := 44) (by decide), i4]
              refine v_iload 87 dX12_contrast_85 rfl rfl ?_
              refine v_iald 88 dX12_contrast_87 (by first | assumption | rfl) (by rw [R.ln (t := 63) (by decide), i6]; exact in_nI hkm (by omega)) rfl ?_
              rw [nI_clamp (by omega), R.vi (t := 63) (by decide)]
              refine v_icmp_eq 134 91 dX12_contrast_88 (by decide) rfl (fun c88 => ?_) (fun c88 => ?_)
              · have e0 : ed_ S p c k 0 = 0 := ed_s (j := j) e hj c88
                refine v_iinc 137 dX12_contrast_134 rfl (by decide) rfl rfl ?_
                dsimp only [List.set]
                try rw [show (1 : Int32) + Int32.ofInt 2 = 3 from by decide]
                refine v_goto 53 dX12_contrast_137 (by decide) ?_
                refine v_iload 55 dX12_contrast_53 rfl rfl ?_
                refine v_iconstv (v := 4) 56 dX12_contrast_55 (by decide) rfl ?_
                refine v_icmp_ge 140 59 dX12_contrast_56 (by decide) rfl (fun c56 => ?_) (fun c56 => ?_)
                · refine v_iinc 143 dX12_contrast_140 rfl (by decide) rfl rfl ?_
                  dsimp only [List.set]
                  refine v_goto 43 dX12_contrast_143 (by decide) ?_
                  rw [show nI k + Int32.ofInt 1 = nI (k + 1) from nI_1 k]
                  have X := fun z6 z7 => ih (k + 1) z6 z7 (by omega) (by omega)
                  rw [show cs_ S p c (k + 1) = cs_ S p c k + ed_ S p c k 1 + ed_ S p c k 0 from arc_ _ _ _, e1, e0] at X
                  try rw [Int32.add_zero] at X
                  try rw [Int32.add_zero] at X
                  exact X _ _
                · first | exact absurd c56 (by decide) | exact absurd rfl c56 | exact absurd (of_decide_eq_true rfl) c56
              · have e0 : ed_ S p c k 0 = ab_ (fg_ S p c k - fg_ S p c j) := ed_d e hj c88
                refine v_iload 93 dX12_contrast_91 rfl rfl ?_
                refine v_aload_n 94 dX12_contrast_93 rfl rfl ?_
                refine v_getfr 97 dX12_contrast_94 fl_X12_314 (by first | assumption | rfl) (by rfl) rfl ?_
                rw [R.vr (t := 44) (by decide), show hp_vr S.1 44 p 1 = (48, p) from J.1]
                refine v_getfr 100 dX12_contrast_97 fl_X12_164 (by first | assumption | rfl) (by rfl) rfl ?_
                rw [R.vr (t := 48) (by decide), J.2.2.1]
                refine v_aload_n 101 dX12_contrast_100 rfl rfl ?_
                refine v_iload_n 102 dX12_contrast_101 rfl rfl ?_
                refine v_iload 104 dX12_contrast_102 rfl rfl ?_
                refine v_invs (d' := 0) (k' := 0) (n' := 0) (k2 := 0) (n2 := 0) 107 [_, _, _] dX12_contrast_104 mt_X12_342 ms_X12_leafOf rfl rfl (of_decide_eq_true rfl) rfl (by decide) rfl rfl rfl rfl (C_X12_leafOf R I hp hkm w ?_)
                refine v_invv (d' := 1) (k' := 0) (n' := 0) (k2 := 0) (n2 := 0) 110 [_] dX12_contrast_107 mt_X12_120 mi_X7_figure me_X7_figure (by first | assumption | rfl) (by rfl) rfl rfl (of_decide_eq_true rfl) rfl (by decide) rfl rfl rfl rfl (C_X7_figure (R.tg (by decide)) (R.tg (by decide)) I J.2.2.2.1 ?_)
                refine v_aload_n 111 dX12_contrast_110 rfl rfl ?_
                refine v_getfr 114 dX12_contrast_111 fl_X12_314 (by first | assumption | rfl) (by rfl) rfl ?_
                rw [R.vr (t := 44) (by decide), show hp_vr S.1 44 p 1 = (48, p) from J.1]
                refine v_getfr 117 dX12_contrast_114 fl_X12_164 (by first | assumption | rfl) (by rfl) rfl ?_
                rw [R.vr (t := 48) (by decide), J.2.2.1]
                refine v_aload_n 118 dX12_contrast_117 rfl rfl ?_
                refine v_iload_n 119 dX12_contrast_118 rfl rfl ?_
                refine v_iload 121 dX12_contrast_119 rfl rfl ?_
                refine v_invs (d' := 0) (k' := 0) (n' := 0) (k2 := 0) (n2 := 0) 124 [_, _, _] dX12_contrast_121 mt_X12_342 ms_X12_leafOf rfl rfl (of_decide_eq_true rfl) rfl (by decide) rfl rfl rfl rfl (C_X12_leafOf R I hp hj w ?_)
                refine v_invv (d' := 1) (k' := 0) (n' := 0) (k2 := 0) (n2 := 0) 127 [_] dX12_contrast_124 mt_X12_120 mi_X7_figure me_X7_figure (by first | assumption | rfl) (by rfl) rfl rfl (of_decide_eq_true rfl) rfl (by decide) rfl rfl rfl rfl (C_X7_figure (R.tg (by decide)) (R.tg (by decide)) I J.2.2.2.1 ?_)
                refine v_isub 128 dX12_contrast_127 rfl ?_
                refine v_abs 131 dX12_contrast_128 ma_X12_346 ma_s_abs ma_i rfl (by decide) rfl ?_
                refine v_iadd 132 dX12_contrast_131 rfl ?_
                refine v_istore 134 dX12_contrast_132 (by decide) rfl rfl ?_
                dsimp only [List.set]
                refine v_iinc 137 dX12_contrast_134 rfl (by decide) rfl rfl ?_
                dsimp only [List.set]
                try rw [show (1 : Int32) + Int32.ofInt 2 = 3 from by decide]
                refine v_goto 53 dX12_contrast_137 (by decide) ?_
                refine v_iload 55 dX12_contrast_53 rfl rfl ?_
                refine v_iconstv (v := 4) 56 dX12_contrast_55 (by decide) rfl ?_
                refine v_icmp_ge 140 59 dX12_contrast_56 (by decide) rfl (fun c56 => ?_) (fun c56 => ?_)
                · refine v_iinc 143 dX12_contrast_140 rfl (by decide) rfl rfl ?_
                  dsimp only [List.set]
                  refine v_goto 43 dX12_contrast_143 (by decide) ?_
                  rw [show nI k + Int32.ofInt 1 = nI (k + 1) from nI_1 k]
                  have X := fun z6 z7 => ih (k + 1) z6 z7 (by omega) (by omega)
                  rw [show cs_ S p c (k + 1) = cs_ S p c k + ed_ S p c k 1 + ed_ S p c k 0 from arc_ _ _ _, e1, e0] at X
                  try rw [Int32.add_zero] at X
                  try rw [Int32.add_zero] at X
                  exact X _ _
                · first | exact absurd c56 (by decide) | exact absurd rfl c56 | exact absurd (of_decide_eq_true rfl) c56
        · obtain ⟨j, hj, e, -⟩ := (nr_in (d := 1) hkm).resolve_left c71
          refine v_aload_n 75 dX12_contrast_74 rfl rfl ?_
          refine v_getfr 78 dX12_contrast_75 fl_X12_317 (by first | assumption | rfl) (by rfl) rfl ?_
          rw [R.vr (t := 44) (by decide), i4]
          refine v_iload 80 dX12_contrast_78 rfl rfl ?_
          rw [e]
          refine v_iald 81 dX12_contrast_80 (by first | assumption | rfl) (by rw [R.ln (t := 63) (by decide), i6]; exact in_nI hj (by omega)) rfl ?_
          rw [nI_clamp (by omega), R.vi (t := 63) (by decide)]
          refine v_aload_n 82 dX12_contrast_81 rfl rfl ?_
          refine v_getfr 85 dX12_contrast_82 fl_X12_317 (by first | assumption | rfl) (by rfl) rfl ?_
          rw [R.vr (t := 44) (by decide), i4]
          refine v_iload 87 dX12_contrast_85 rfl rfl ?_
          refine v_iald 88 dX12_contrast_87 (by first | assumption | rfl) (by rw [R.ln (t := 63) (by decide), i6]; exact in_nI hkm (by omega)) rfl ?_
          rw [nI_clamp (by omega), R.vi (t := 63) (by decide)]
          refine v_icmp_eq 134 91 dX12_contrast_88 (by decide) rfl (fun c88 => ?_) (fun c88 => ?_)
          · have e1 : ed_ S p c k 1 = 0 := ed_s (j := j) e hj c88
            refine v_iinc 137 dX12_contrast_134 rfl (by decide) rfl rfl ?_
            dsimp only [List.set]
            try rw [show (1 : Int32) + Int32.ofInt 2 = 3 from by decide]
            refine v_goto 53 dX12_contrast_137 (by decide) ?_
            refine v_iload 55 dX12_contrast_53 rfl rfl ?_
            refine v_iconstv (v := 4) 56 dX12_contrast_55 (by decide) rfl ?_
            refine v_icmp_ge 140 59 dX12_contrast_56 (by decide) rfl (fun c56 => ?_) (fun c56 => ?_)
            · first | exact absurd c56 (by decide) | exact absurd rfl c56 | exact absurd (of_decide_eq_true rfl) c56
            · refine v_iload 61 dX12_contrast_59 rfl rfl ?_
              refine v_iload 63 dX12_contrast_61 rfl rfl ?_
              refine v_invs (d' := 1) (k' := 0) (n' := 0) (k2 := 0) (n2 := 0) 66 [_, _] dX12_contrast_63 mt_X12_331 ms_X12_beside rfl rfl (of_decide_eq_true rfl) rfl (by decide) rfl rfl rfl rfl (C_X12_beside (d := 3) hkm (by decide) ?_)
              refine v_istore 68 dX12_contrast_66 (by decide) rfl rfl ?_
              dsimp only [List.set]
              refine v_iload 70 dX12_contrast_68 rfl rfl ?_
              refine v_iconstv (v := -1) 71 dX12_contrast_70 (by decide) rfl ?_
              refine v_icmp_eq 134 74 dX12_contrast_71 (by decide) rfl (fun c71 => ?_) (fun c71 => ?_)
              · have e0 : ed_ S p c k 0 = 0 := ed_m c71
                refine v_iinc 137 dX12_contrast_134 rfl (by decide) rfl rfl ?_
                dsimp only [List.set]
                try rw [show (1 : Int32) + Int32.ofInt 2 = 3 from by decide]
                refine v_goto 53 dX12_contrast_137 (by decide) ?_
                refine v_iload 55 dX12_contrast_53 rfl rfl ?_
                refine v_iconstv (v := 4) 56 dX12_contrast_55 (by decide) rfl ?_
                refine v_icmp_ge 140 59 dX12_contrast_56 (by decide) rfl (fun c56 => ?_) (fun c56 => ?_)
                · refine v_iinc 143 dX12_contrast_140 rfl (by decide) rfl rfl ?_
                  dsimp only [List.set]
                  refine v_goto 43 dX12_contrast_143 (by decide) ?_
                  rw [show nI k + Int32.ofInt 1 = nI (k + 1) from nI_1 k]
                  have X := fun z6 z7 => ih (k + 1) z6 z7 (by omega) (by omega)
                  rw [show cs_ S p c (k + 1) = cs_ S p c k + ed_ S p c k 1 + ed_ S p c k 0 from arc_ _ _ _, e1, e0] at X
                  try rw [Int32.add_zero] at X
                  try rw [Int32.add_zero] at X
                  exact X _ _
                · first | exact absurd c56 (by decide) | exact absurd rfl c56 | exact absurd (of_decide_eq_true rfl) c56
              · obtain ⟨j, hj, e, -⟩ := (nr_in (d := 3) hkm).resolve_left c71
                refine v_aload_n 75 dX12_contrast_74 rfl rfl ?_
                refine v_getfr 78 dX12_contrast_75 fl_X12_317 (by first | assumption | rfl) (by rfl) rfl ?_
                rw [R.vr (t := 44) (by decide), i4]
                refine v_iload 80 dX12_contrast_78 rfl rfl ?_
                rw [e]
                refine v_iald 81 dX12_contrast_80 (by first | assumption | rfl) (by rw [R.ln (t := 63) (by decide), i6]; exact in_nI hj (by omega)) rfl ?_
                rw [nI_clamp (by omega), R.vi (t := 63) (by decide)]
                refine v_aload_n 82 dX12_contrast_81 rfl rfl ?_
                refine v_getfr 85 dX12_contrast_82 fl_X12_317 (by first | assumption | rfl) (by rfl) rfl ?_
                rw [R.vr (t := 44) (by decide), i4]
                refine v_iload 87 dX12_contrast_85 rfl rfl ?_
                refine v_iald 88 dX12_contrast_87 (by first | assumption | rfl) (by rw [R.ln (t := 63) (by decide), i6]; exact in_nI hkm (by omega)) rfl ?_
                rw [nI_clamp (by omega), R.vi (t := 63) (by decide)]
                refine v_icmp_eq 134 91 dX12_contrast_88 (by decide) rfl (fun c88 => ?_) (fun c88 => ?_)
                · have e0 : ed_ S p c k 0 = 0 := ed_s (j := j) e hj c88
                  refine v_iinc 137 dX12_contrast_134 rfl (by decide) rfl rfl ?_
                  dsimp only [List.set]
                  try rw [show (1 : Int32) + Int32.ofInt 2 = 3 from by decide]
                  refine v_goto 53 dX12_contrast_137 (by decide) ?_
                  refine v_iload 55 dX12_contrast_53 rfl rfl ?_
                  refine v_iconstv (v := 4) 56 dX12_contrast_55 (by decide) rfl ?_
                  refine v_icmp_ge 140 59 dX12_contrast_56 (by decide) rfl (fun c56 => ?_) (fun c56 => ?_)
                  · refine v_iinc 143 dX12_contrast_140 rfl (by decide) rfl rfl ?_
                    dsimp only [List.set]
                    refine v_goto 43 dX12_contrast_143 (by decide) ?_
                    rw [show nI k + Int32.ofInt 1 = nI (k + 1) from nI_1 k]
                    have X := fun z6 z7 => ih (k + 1) z6 z7 (by omega) (by omega)
                    rw [show cs_ S p c (k + 1) = cs_ S p c k + ed_ S p c k 1 + ed_ S p c k 0 from arc_ _ _ _, e1, e0] at X
                    try rw [Int32.add_zero] at X
                    try rw [Int32.add_zero] at X
                    exact X _ _
                  · first | exact absurd c56 (by decide) | exact absurd rfl c56 | exact absurd (of_decide_eq_true rfl) c56
                · have e0 : ed_ S p c k 0 = ab_ (fg_ S p c k - fg_ S p c j) := ed_d e hj c88
                  refine v_iload 93 dX12_contrast_91 rfl rfl ?_
                  refine v_aload_n 94 dX12_contrast_93 rfl rfl ?_
                  refine v_getfr 97 dX12_contrast_94 fl_X12_314 (by first | assumption | rfl) (by rfl) rfl ?_
                  rw [R.vr (t := 44) (by decide), show hp_vr S.1 44 p 1 = (48, p) from J.1]
                  refine v_getfr 100 dX12_contrast_97 fl_X12_164 (by first | assumption | rfl) (by rfl) rfl ?_
                  rw [R.vr (t := 48) (by decide), J.2.2.1]
                  refine v_aload_n 101 dX12_contrast_100 rfl rfl ?_
                  refine v_iload_n 102 dX12_contrast_101 rfl rfl ?_
                  refine v_iload 104 dX12_contrast_102 rfl rfl ?_
                  refine v_invs (d' := 0) (k' := 0) (n' := 0) (k2 := 0) (n2 := 0) 107 [_, _, _] dX12_contrast_104 mt_X12_342 ms_X12_leafOf rfl rfl (of_decide_eq_true rfl) rfl (by decide) rfl rfl rfl rfl (C_X12_leafOf R I hp hkm w ?_)
                  refine v_invv (d' := 1) (k' := 0) (n' := 0) (k2 := 0) (n2 := 0) 110 [_] dX12_contrast_107 mt_X12_120 mi_X7_figure me_X7_figure (by first | assumption | rfl) (by rfl) rfl rfl (of_decide_eq_true rfl) rfl (by decide) rfl rfl rfl rfl (C_X7_figure (R.tg (by decide)) (R.tg (by decide)) I J.2.2.2.1 ?_)
                  refine v_aload_n 111 dX12_contrast_110 rfl rfl ?_
                  refine v_getfr 114 dX12_contrast_111 fl_X12_314 (by first | assumption | rfl) (by rfl) rfl ?_
                  rw [R.vr (t := 44) (by decide), show hp_vr S.1 44 p 1 = (48, p) from J.1]
                  refine v_getfr 117 dX12_contrast_114 fl_X12_164 (by first | assumption | rfl) (by rfl) rfl ?_
                  rw [R.vr (t := 48) (by decide), J.2.2.1]
                  refine v_aload_n 118 dX12_contrast_117 rfl rfl ?_
                  refine v_iload_n 119 dX12_contrast_118 rfl rfl ?_
                  refine v_iload 121 dX12_contrast_119 rfl rfl ?_
                  refine v_invs (d' := 0) (k' := 0) (n' := 0) (k2 := 0) (n2 := 0) 124 [_, _, _] dX12_contrast_121 mt_X12_342 ms_X12_leafOf rfl rfl (of_decide_eq_true rfl) rfl (by decide) rfl rfl rfl rfl (C_X12_leafOf R I hp hj w ?_)
                  refine v_invv (d' := 1) (k' := 0) (n' := 0) (k2 := 0) (n2 := 0) 127 [_] dX12_contrast_124 mt_X12_120 mi_X7_figure me_X7_figure (by first | assumption | rfl) (by rfl) rfl rfl (of_decide_eq_true rfl) rfl (by decide) rfl rfl rfl rfl (C_X7_figure (R.tg (by decide)) (R.tg (by decide)) I J.2.2.2.1 ?_)
                  refine v_isub 128 dX12_contrast_127 rfl ?_
                  refine v_abs 131 dX12_contrast_128 ma_X12_346 ma_s_abs ma_i rfl (by decide) rfl ?_
                  refine v_iadd 132 dX12_contrast_131 rfl ?_
                  refine v_istore 134 dX12_contrast_132 (by decide) rfl rfl ?_
                  dsimp only [List.set]
                  refine v_iinc 137 dX12_contrast_134 rfl (by decide) rfl rfl ?_
                  dsimp only [List.set]
                  try rw [show (1 : Int32) + Int32.ofInt 2 = 3 from by decide]
                  refine v_goto 53 dX12_contrast_137 (by decide) ?_
                  refine v_iload 55 dX12_contrast_53 rfl rfl ?_
                  refine v_iconstv (v := 4) 56 dX12_contrast_55 (by decide) rfl ?_
                  refine v_icmp_ge 140 59 dX12_contrast_56 (by decide) rfl (fun c56 => ?_) (fun c56 => ?_)
                  · refine v_iinc 143 dX12_contrast_140 rfl (by decide) rfl rfl ?_
                    dsimp only [List.set]
                    refine v_goto 43 dX12_contrast_143 (by decide) ?_
                    rw [show nI k + Int32.ofInt 1 = nI (k + 1) from nI_1 k]
                    have X := fun z6 z7 => ih (k + 1) z6 z7 (by omega) (by omega)
                    rw [show cs_ S p c (k + 1) = cs_ S p c k + ed_ S p c k 1 + ed_ S p c k 0 from arc_ _ _ _, e1, e0] at X
                    try rw [Int32.add_zero] at X
                    try rw [Int32.add_zero] at X
                    exact X _ _
                  · first | exact absurd c56 (by decide) | exact absurd rfl c56 | exact absurd (of_decide_eq_true rfl) c56
          · have e1 : ed_ S p c k 1 = ab_ (fg_ S p c k - fg_ S p c j) := ed_d e hj c88
            refine v_iload 93 dX12_contrast_91 rfl rfl ?_
            refine v_aload_n 94 dX12_contrast_93 rfl rfl ?_
            refine v_getfr 97 dX12_contrast_94 fl_X12_314 (by first | assumption | rfl) (by rfl) rfl ?_
            rw [R.vr (t := 44) (by decide), show hp_vr S.1 44 p 1 = (48, p) from J.1]
            refine v_getfr 100 dX12_contrast_97 fl_X12_164 (by first | assumption | rfl) (by rfl) rfl ?_
            rw [R.vr (t := 48) (by decide), J.2.2.1]
            refine v_aload_n 101 dX12_contrast_100 rfl rfl ?_
            refine v_iload_n 102 dX12_contrast_101 rfl rfl ?_
            refine v_iload 104 dX12_contrast_102 rfl rfl ?_
            refine v_invs (d' := 0) (k' := 0) (n' := 0) (k2 := 0) (n2 := 0) 107 [_, _, _] dX12_contrast_104 mt_X12_342 ms_X12_leafOf rfl rfl (of_decide_eq_true rfl) rfl (by decide) rfl rfl rfl rfl (C_X12_leafOf R I hp hkm w ?_)
            refine v_invv (d' := 1) (k' := 0) (n' := 0) (k2 := 0) (n2 := 0) 110 [_] dX12_contrast_107 mt_X12_120 mi_X7_figure me_X7_figure (by first | assumption | rfl) (by rfl) rfl rfl (of_decide_eq_true rfl) rfl (by decide) rfl rfl rfl rfl (C_X7_figure (R.tg (by decide)) (R.tg (by decide)) I J.2.2.2.1 ?_)
            refine v_aload_n 111 dX12_contrast_110 rfl rfl ?_
            refine v_getfr 114 dX12_contrast_111 fl_X12_314 (by first | assumption | rfl) (by rfl) rfl ?_
            rw [R.vr (t := 44) (by decide), show hp_vr S.1 44 p 1 = (48, p) from J.1]
            refine v_getfr 117 dX12_contrast_114 fl_X12_164 (by first | assumption | rfl) (by rfl) rfl ?_
            rw [R.vr (t := 48) (by decide), J.2.2.1]
            refine v_aload_n 118 dX12_contrast_117 rfl rfl ?_
            refine v_iload_n 119 dX12_contrast_118 rfl rfl ?_
            refine v_iload 121 dX12_contrast_119 rfl rfl ?_
            refine v_invs (d' := 0) (k' := 0) (n' := 0) (k2 := 0) (n2 := 0) 124 [_, _, _] dX12_contrast_121 mt_X12_342 ms_X12_leafOf rfl rfl (of_decide_eq_true rfl) rfl (by decide) rfl rfl rfl rfl (C_X12_leafOf R I hp hj w ?_)
            refine v_invv (d' := 1) (k' := 0) (n' := 0) (k2 := 0) (n2 := 0) 127 [_] dX12_contrast_124 mt_X12_120 mi_X7_figure me_X7_figure (by first | assumption | rfl) (by rfl) rfl rfl (of_decide_eq_true rfl) rfl (by decide) rfl rfl rfl rfl (C_X7_figure (R.tg (by decide)) (R.tg (by decide)) I J.2.2.2.1 ?_)
            refine v_isub 128 dX12_contrast_127 rfl ?_
            refine v_abs 131 dX12_contrast_128 ma_X12_346 ma_s_abs ma_i rfl (by decide) rfl ?_
            refine v_iadd 132 dX12_contrast_131 rfl ?_
            refine v_istore 134 dX12_contrast_132 (by decide) rfl rfl ?_
            dsimp only [List.set]
            refine v_iinc 137 dX12_contrast_134 rfl (by decide) rfl rfl ?_
            dsimp only [List.set]
            try rw [show (1 : Int32) + Int32.ofInt 2 = 3 from by decide]
            refine v_goto 53 dX12_contrast_137 (by decide) ?_
            refine v_iload 55 dX12_contrast_53 rfl rfl ?_
            refine v_iconstv (v := 4) 56 dX12_contrast_55 (by decide) rfl ?_
            refine v_icmp_ge 140 59 dX12_contrast_56 (by decide) rfl (fun c56 => ?_) (fun c56 => ?_)
            · first | exact absurd c56 (by decide) | exact absurd rfl c56 | exact absurd (of_decide_eq_true rfl) c56
            · refine v_iload 61 dX12_contrast_59 rfl rfl ?_
              refine v_iload 63 dX12_contrast_61 rfl rfl ?_
              refine v_invs (d' := 1) (k' := 0) (n' := 0) (k2 := 0) (n2 := 0) 66 [_, _] dX12_contrast_63 mt_X12_331 ms_X12_beside rfl rfl (of_decide_eq_true rfl) rfl (by decide) rfl rfl rfl rfl (C_X12_beside (d := 3) hkm (by decide) ?_)
              refine v_istore 68 dX12_contrast_66 (by decide) rfl rfl ?_
              dsimp only [List.set]
              refine v_iload 70 dX12_contrast_68 rfl rfl ?_
              refine v_iconstv (v := -1) 71 dX12_contrast_70 (by decide) rfl ?_
              refine v_icmp_eq 134 74 dX12_contrast_71 (by decide) rfl (fun c71 => ?_) (fun c71 => ?_)
              · have e0 : ed_ S p c k 0 = 0 := ed_m c71
                refine v_iinc 137 dX12_contrast_134 rfl (by decide) rfl rfl ?_
                dsimp only [List.set]
                try rw [show (1 : Int32) + Int32.ofInt 2 = 3 from by decide]
                refine v_goto 53 dX12_contrast_137 (by decide) ?_
                refine v_iload 55 dX12_contrast_53 rfl rfl ?_
                refine v_iconstv (v := 4) 56 dX12_contrast_55 (by decide) rfl ?_
                refine v_icmp_ge 140 59 dX12_contrast_56 (by decide) rfl (fun c56 => ?_) (fun c56 => ?_)
                · refine v_iinc 143 dX12_contrast_140 rfl (by decide) rfl rfl ?_
                  dsimp only [List.set]
                  refine v_goto 43 dX12_contrast_143 (by decide) ?_
                  rw [show nI k + Int32.ofInt 1 = nI (k + 1) from nI_1 k]
                  have X := fun z6 z7 => ih (k + 1) z6 z7 (by omega) (by omega)
                  rw [show cs_ S p c (k + 1) = cs_ S p c k + ed_ S p c k 1 + ed_ S p c k 0 from arc_ _ _ _, e1, e0] at X
                  try rw [Int32.add_zero] at X
                  try rw [Int32.add_zero] at X
                  exact X _ _
                · first | exact absurd c56 (by decide) | exact absurd rfl c56 | exact absurd (of_decide_eq_true rfl) c56
              · obtain ⟨j, hj, e, -⟩ := (nr_in (d := 3) hkm).resolve_left c71
                refine v_aload_n 75 dX12_contrast_74 rfl rfl ?_
                refine v_getfr 78 dX12_contrast_75 fl_X12_317 (by first | assumption | rfl) (by rfl) rfl ?_
                rw [R.vr (t := 44) (by decide), i4]
                refine v_iload 80 dX12_contrast_78 rfl rfl ?_
                rw [e]
                refine v_iald 81 dX12_contrast_80 (by first | assumption | rfl) (by rw [R.ln (t := 63) (by decide), i6]; exact in_nI hj (by omega)) rfl ?_
                rw [nI_clamp (by omega), R.vi (t := 63) (by decide)]
                refine v_aload_n 82 dX12_contrast_81 rfl rfl ?_
                refine v_getfr 85 dX12_contrast_82 fl_X12_317 (by first | assumption | rfl) (by rfl) rfl ?_
                rw [R.vr (t := 44) (by decide), i4]
                refine v_iload 87 dX12_contrast_85 rfl rfl ?_
                refine v_iald 88 dX12_contrast_87 (by first | assumption | rfl) (by rw [R.ln (t := 63) (by decide), i6]; exact in_nI hkm (by omega)) rfl ?_
                rw [nI_clamp (by omega), R.vi (t := 63) (by decide)]
                refine v_icmp_eq 134 91 dX12_contrast_88 (by decide) rfl (fun c88 => ?_) (fun c88 => ?_)
                · have e0 : ed_ S p c k 0 = 0 := ed_s (j := j) e hj c88
                  refine v_iinc 137 dX12_contrast_134 rfl (by decide) rfl rfl ?_
                  dsimp only [List.set]
                  try rw [show (1 : Int32) + Int32.ofInt 2 = 3 from by decide]
                  refine v_goto 53 dX12_contrast_137 (by decide) ?_
                  refine v_iload 55 dX12_contrast_53 rfl rfl ?_
                  refine v_iconstv (v := 4) 56 dX12_contrast_55 (by decide) rfl ?_
                  refine v_icmp_ge 140 59 dX12_contrast_56 (by decide) rfl (fun c56 => ?_) (fun c56 => ?_)
                  · refine v_iinc 143 dX12_contrast_140 rfl (by decide) rfl rfl ?_
                    dsimp only [List.set]
                    refine v_goto 43 dX12_contrast_143 (by decide) ?_
                    rw [show nI k + Int32.ofInt 1 = nI (k + 1) from nI_1 k]
                    have X := fun z6 z7 => ih (k + 1) z6 z7 (by omega) (by omega)
                    rw [show cs_ S p c (k + 1) = cs_ S p c k + ed_ S p c k 1 + ed_ S p c k 0 from arc_ _ _ _, e1, e0] at X
                    try rw [Int32.add_zero] at X
                    try rw [Int32.add_zero] at X
                    exact X _ _
                  · first | exact absurd c56 (by decide) | exact absurd rfl c56 | exact absurd (of_decide_eq_true rfl) c56
                · have e0 : ed_ S p c k 0 = ab_ (fg_ S p c k - fg_ S p c j) := ed_d e hj c88
                  refine v_iload 93 dX12_contrast_91 rfl rfl ?_
                  refine v_aload_n 94 dX12_contrast_93 rfl rfl ?_
                  refine v_getfr 97 dX12_contrast_94 fl_X12_314 (by first | assumption | rfl) (by rfl) rfl ?_
                  rw [R.vr (t := 44) (by decide), show hp_vr S.1 44 p 1 = (48, p) from J.1]
                  refine v_getfr 100 dX12_contrast_97 fl_X12_164 (by first | assumption | rfl) (by rfl) rfl ?_
                  rw [R.vr (t := 48) (by decide), J.2.2.1]
                  refine v_aload_n 101 dX12_contrast_100 rfl rfl ?_
                  refine v_iload_n 102 dX12_contrast_101 rfl rfl ?_
                  refine v_iload 104 dX12_contrast_102 rfl rfl ?_
                  refine v_invs (d' := 0) (k' := 0) (n' := 0) (k2 := 0) (n2 := 0) 107 [_, _, _] dX12_contrast_104 mt_X12_342 ms_X12_leafOf rfl rfl (of_decide_eq_true rfl) rfl (by decide) rfl rfl rfl rfl (C_X12_leafOf R I hp hkm w ?_)
                  refine v_invv (d' := 1) (k' := 0) (n' := 0) (k2 := 0) (n2 := 0) 110 [_] dX12_contrast_107 mt_X12_120 mi_X7_figure me_X7_figure (by first | assumption | rfl) (by rfl) rfl rfl (of_decide_eq_true rfl) rfl (by decide) rfl rfl rfl rfl (C_X7_figure (R.tg (by decide)) (R.tg (by decide)) I J.2.2.2.1 ?_)
                  refine v_aload_n 111 dX12_contrast_110 rfl rfl ?_
                  refine v_getfr 114 dX12_contrast_111 fl_X12_314 (by first | assumption | rfl) (by rfl) rfl ?_
                  rw [R.vr (t := 44) (by decide), show hp_vr S.1 44 p 1 = (48, p) from J.1]
                  refine v_getfr 117 dX12_contrast_114 fl_X12_164 (by first | assumption | rfl) (by rfl) rfl ?_
                  rw [R.vr (t := 48) (by decide), J.2.2.1]
                  refine v_aload_n 118 dX12_contrast_117 rfl rfl ?_
                  refine v_iload_n 119 dX12_contrast_118 rfl rfl ?_
                  refine v_iload 121 dX12_contrast_119 rfl rfl ?_
                  refine v_invs (d' := 0) (k' := 0) (n' := 0) (k2 := 0) (n2 := 0) 124 [_, _, _] dX12_contrast_121 mt_X12_342 ms_X12_leafOf rfl rfl (of_decide_eq_true rfl) rfl (by decide) rfl rfl rfl rfl (C_X12_leafOf R I hp hj w ?_)
                  refine v_invv (d' := 1) (k' := 0) (n' := 0) (k2 := 0) (n2 := 0) 127 [_] dX12_contrast_124 mt_X12_120 mi_X7_figure me_X7_figure (by first | assumption | rfl) (by rfl) rfl rfl (of_decide_eq_true rfl) rfl (by decide) rfl rfl rfl rfl (C_X7_figure (R.tg (by decide)) (R.tg (by decide)) I J.2.2.2.1 ?_)
                  refine v_isub 128 dX12_contrast_127 rfl ?_
                  refine v_abs 131 dX12_contrast_128 ma_X12_346 ma_s_abs ma_i rfl (by decide) rfl ?_
                  refine v_iadd 132 dX12_contrast_131 rfl ?_
                  refine v_istore 134 dX12_contrast_132 (by decide) rfl rfl ?_
                  dsimp only [List.set]
                  refine v_iinc 137 dX12_contrast_134 rfl (by decide) rfl rfl ?_
                  dsimp only [List.set]
                  try rw [show (1 : Int32) + Int32.ofInt 2 = 3 from by decide]
                  refine v_goto 53 dX12_contrast_137 (by decide) ?_
                  refine v_iload 55 dX12_contrast_53 rfl rfl ?_
                  refine v_iconstv (v := 4) 56 dX12_contrast_55 (by decide) rfl ?_
                  refine v_icmp_ge 140 59 dX12_contrast_56 (by decide) rfl (fun c56 => ?_) (fun c56 => ?_)
                  · refine v_iinc 143 dX12_contrast_140 rfl (by decide) rfl rfl ?_
                    dsimp only [List.set]
                    refine v_goto 43 dX12_contrast_143 (by decide) ?_
                    rw [show nI k + Int32.ofInt 1 = nI (k + 1) from nI_1 k]
                    have X := fun z6 z7 => ih (k + 1) z6 z7 (by omega) (by omega)
                    rw [show cs_ S p c (k + 1) = cs_ S p c k + ed_ S p c k 1 + ed_ S p c k 0 from arc_ _ _ _, e1, e0] at X
                    try rw [Int32.add_zero] at X
                    try rw [Int32.add_zero] at X
                    exact X _ _
                  · first | exact absurd c56 (by decide) | exact absurd rfl c56 | exact absurd (of_decide_eq_true rfl) c56
set_option maxRecDepth 20000 in
theorem C_X12_contrast {G : GW} {h : PH} {Q : RS → PH → Prop} {S : SP} {N : Nat} (R : Rp2 S h) (I : Iv S N) {x c : Int32} (hq : ∀ v h', ((op_contrast S x c).1 = 0 → v = (op_contrast S x c).2) → Rp2 S h' → hp_vi h' 40 0 0 = nI (op_contrast S x c).1 → ke_ h h' → Q (.inl (some (pv_I v))) h') : VV G 9 0 0 yX12_contrast cX12_contrast 8 (some .int) [] 0 (vv_en 8 [pv_O (40, 0), pv_I x, pv_I c]) [] h Q := by
  show VV G 9 0 0 yX12_contrast cX12_contrast 8 (some .int) [] 0 [some (pv_O (40, 0)), some (pv_I x), some (pv_I c), none, none, none, none, none] [] h Q
  obtain ⟨z0, z1, z2, z3, z4, z5⟩ := I.cs
  refine v_aload_n 1 dX12_contrast_0 rfl rfl ?_
  refine v_invv (d' := 0) (k' := 0) (n' := 0) (k2 := 0) (n2 := 0) 4 [] dX12_contrast_1 mt_X12_48 mi_X12_begins me_X12_begins (by first | assumption | rfl) (by rfl) rfl rfl (of_decide_eq_true rfl) rfl (by decide) rfl rfl rfl rfl (C2_begins R (fun h0 R e0 ke0 => ?_))
  refine v_aload_n 5 dX12_contrast_4 rfl rfl ?_
  refine v_iload_n 6 dX12_contrast_5 rfl rfl ?_
  refine v_invv (d' := 4) (k' := 0) (n' := 0) (k2 := 0) (n2 := 0) 9 [_] dX12_contrast_6 mt_X12_307 mi_X12_noPicture me_X12_noPicture (by first | assumption | rfl) (by rfl) rfl rfl (of_decide_eq_true rfl) rfl (by decide) rfl rfl rfl rfl (C_X12_noPicture R e0 (fun a6 => ?_) (fun b6 => ?_))
  · refine v_if_ne 21 12 dX12_contrast_9 (by decide) rfl (fun c9 => ?_) (fun c9 => ?_)
    · first | exact absurd c9 (by decide) | exact absurd rfl c9 | exact absurd (of_decide_eq_true rfl) c9
    · refine v_aload_n 13 dX12_contrast_12 rfl rfl ?_
      refine v_iload_n 14 dX12_contrast_13 rfl rfl ?_
      refine v_iload_n 15 dX12_contrast_14 rfl rfl ?_
      refine v_invv (d' := 4) (k' := 0) (n' := 0) (k2 := 0) (n2 := 0) 18 [_, _] dX12_contrast_15 mt_X12_339 mi_X12_noCopy me_X12_noCopy (by first | assumption | rfl) (by rfl) rfl rfl (of_decide_eq_true rfl) rfl (by decide) rfl rfl rfl rfl (C_X12_noCopy R I e0 (by assumption) (fun a15 => ?_) (fun b15 => ?_))
      · refine v_if_eq 23 21 dX12_contrast_18 (by decide) rfl (fun c18 => ?_) (fun c18 => ?_)
        · refine v_aload_n 24 dX12_contrast_23 rfl rfl ?_
          refine v_getfr 27 dX12_contrast_24 fl_X12_32 (by first | assumption | rfl) (by rfl) rfl ?_
          rw [R.1.1.2.2.2.2.2.2]
          refine v_iload_n 28 dX12_contrast_27 rfl rfl ?_
          refine v_invf (z := ("java/util/ArrayList", TJx4a65c, 3)) (d' := 2) (k' := 0) (n' := 0) (k2 := 0) (n2 := 0) 33 [_] dX12_contrast_28 mf_X12_90 md_Jx4a65c_get_915e3 mi_Jx4a65c_get_915e3 se_Jx4a65c_get_915e3 (by simp [g_fw]; rfl) ⟨by decide, by decide +kernel⟩ (by first | assumption | rfl) (by rfl) rfl rfl (of_decide_eq_true rfl) rfl (by decide) rfl rfl rfl rfl (C_gt (tl := 55) (ta := 61) rfl rfl R.2.1.2.2.2.2.2 (by assumption) ?_)
          refine v_cast 36 dX12_contrast_33 ⟨_, _, rfl, rfl, cl_X12_304⟩ rfl ?_
          refine v_astore_n 37 dX12_contrast_36 (by decide) rfl rfl ?_
          dsimp only [List.set]
          refine v_iconstv (v := 0) 38 dX12_contrast_37 (by decide) rfl ?_
          refine v_istore 40 dX12_contrast_38 (by decide) rfl rfl ?_
          dsimp only [List.set]
          refine v_iconstv (v := 0) 41 dX12_contrast_40 (by decide) rfl ?_
          refine v_istore 43 dX12_contrast_41 (by decide) rfl rfl ?_
          dsimp only [List.set]
          have ev : op_contrast S x c = (0, cs_ S (cl_ x) c 64) := by unfold op_contrast; simp only [eq_true a6, eq_true a15, ↓reduceIte, and_self, and_true, true_and, and_false, false_and, not_true_eq_false, not_false_eq_true]
          rw [ev] at hq
          exact VV.less (by decide) (by decide) (by decide) (L_X12_contrast R I (ok_i.cl a6 (by omega)).1 a15.1 (hq _ _ (fun _ => rfl) R e0 ke0) 65 0 _ _ (Nat.zero_le _) (by omega))
        · first | exact absurd c18 (by decide) | exact absurd rfl c18 | exact absurd (of_decide_eq_true rfl) c18
      · refine v_if_eq 23 21 dX12_contrast_18 (by decide) rfl (fun c18 => ?_) (fun c18 => ?_)
        · first | exact absurd c18 (by decide) | exact absurd rfl c18 | exact absurd (of_decide_eq_true rfl) c18
        · refine v_iconstv (v := -1) 22 dX12_contrast_21 (by decide) rfl ?_
          refine v_ireturn dX12_contrast_22 rfl ?_
          have ev : op_contrast S x c = (2, 0) := by unfold op_contrast; simp only [eq_true a6, b15, ↓reduceIte, and_self, and_true, true_and, and_false, false_and, not_true_eq_false, not_false_eq_true]
          rw [ev] at hq
          exact hq _ _ (fun e => absurd e (Nat.succ_ne_zero _)) R.th hp_seti_at (ke0.tr (ke_.i (by decide) (by decide)))
  · refine v_if_ne 21 12 dX12_contrast_9 (by decide) rfl (fun c9 => ?_) (fun c9 => ?_)
    · refine v_iconstv (v := -1) 22 dX12_contrast_21 (by decide) rfl ?_
      refine v_ireturn dX12_contrast_22 rfl ?_
      have ev : op_contrast S x c = (1, 0) := by unfold op_contrast; simp only [b6, ↓reduceIte, and_self, and_true, true_and, and_false, false_and, not_true_eq_false, not_false_eq_true]
      rw [ev] at hq
      exact hq _ _ (fun e => absurd e (Nat.succ_ne_zero _)) R.th hp_seti_at (ke0.tr (ke_.i (by decide) (by decide)))
    · first | exact absurd c9 (by decide) | exact absurd rfl c9 | exact absurd (of_decide_eq_true rfl) c9
