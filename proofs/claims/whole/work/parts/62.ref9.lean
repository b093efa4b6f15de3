set_option maxRecDepth 20000 in
theorem C_X12_slice {G : GW} {h : PH} {Q : RS → PH → Prop} {S : SP} {N : Nat} (R : Rp2 S h) (I : Iv S N) {x w t : Int32} (hw : 0 ≤ w ∧ w ≤ 65535) (hq : ∀ v h', ((op_slice S x w t).1 = 0 → v = (op_slice S x w t).2.1) → Rp2 (op_slice S x w t).2.2 h' → hp_vi h' 40 0 0 = nI (op_slice S x w t).1 → ke_ h h' → Q (.inl (some (pv_I v))) h') : VV G 9 3 60 yX12_slice cX12_slice 4 (some .int) [] 0 (vv_en 4 [pv_O (40, 0), pv_I x, pv_I w, pv_I t]) [] h Q := by
  show VV G 9 3 60 yX12_slice cX12_slice 4 (some .int) [] 0 [some (pv_O (40, 0)), some (pv_I x), some (pv_I w), some (pv_I t)] [] h Q
  obtain ⟨z0, z1, z2, z3, z4, z5⟩ := I.cs
  refine v_aload_n 1 dX12_slice_0 rfl rfl ?_
  refine v_invv (d' := 0) (k' := 0) (n' := 0) (k2 := 3) (n2 := 60) 4 [] dX12_slice_1 mt_X12_48 mi_X12_begins me_X12_begins (by first | assumption | rfl) (by rfl) rfl rfl (of_decide_eq_true rfl) rfl (by decide) rfl rfl rfl rfl (C2_begins R (fun h0 R e0 ke0 => ?_))
  have Rb := R
  refine v_aload_n 5 dX12_slice_4 rfl rfl ?_
  refine v_aload_n 6 dX12_slice_5 rfl rfl ?_
  refine v_getfr 9 dX12_slice_6 fl_X12_10 (by first | assumption | rfl) (by rfl) rfl ?_
  rw [R.1.1.2.1]
  refine v_iload_n 10 dX12_slice_9 rfl rfl ?_
  refine v_invs (d' := 2) (k' := 0) (n' := 0) (k2 := 3) (n2 := 60) 13 [_, _] dX12_slice_10 mt_X12_80 ms_X12_isOf rfl rfl (of_decide_eq_true rfl) rfl (by decide) rfl rfl rfl rfl (C_isOf (tl := 50) (ta := 56) rfl rfl R.2.1.1 (fun a10 => ?_) (fun b10 => ?_))
  · have hc := a10.cl (by omega)
    obtain ⟨dd, ed, hd1, hd2⟩ := (I.2.1 _ hc.1).2.2.1
    refine v_if_ne 20 16 dX12_slice_13 (by decide) rfl (fun c13 => ?_) (fun c13 => ?_)
    · refine v_iconstv (v := 0) 21 dX12_slice_20 (by decide) rfl ?_
      refine v_iconstv (v := 1) 22 dX12_slice_21 (by decide) rfl ?_
      refine v_invv (d' := 0) (k' := 0) (n' := 0) (k2 := 3) (n2 := 60) 25 [_, _] dX12_slice_22 mt_X12_67 mi_X12_fails me_X12_fails (by first | assumption | rfl) (by rfl) rfl rfl (of_decide_eq_true rfl) rfl (by decide) rfl rfl rfl rfl (C_f0 e0 ?_)
      refine v_if_ne 88 28 dX12_slice_25 (by decide) rfl (fun c25 => ?_) (fun c25 => ?_)
      · first | exact absurd c25 (by decide) | exact absurd rfl c25 | exact absurd (of_decide_eq_true rfl) c25
      · refine v_aload_n 29 dX12_slice_28 rfl rfl ?_
        refine v_ldcs (i := 7) (tx := "fqrs") 31 dX12_slice_29 (by first | (simp [g_sx]; done) | (simp [g_sx]; rfl)) (by decide) rfl ?_
        refine v_iload_n 32 dX12_slice_31 rfl rfl ?_
        refine v_invv (d' := 3) (k' := 0) (n' := 0) (k2 := 3) (n2 := 60) 35 [_] dX12_slice_32 mt_X12_53 mi_J0_indexOf_0f7a4 me_J0_indexOf_0f7a4 (by first | assumption | rfl) (by rfl) rfl rfl (of_decide_eq_true rfl) rfl (by decide) rfl rfl rfl rfl (C_ixf (by decide) hw.1 ?_)
        refine v_if_lt 52 38 dX12_slice_35 (by decide) rfl (fun c35 => ?_) (fun c35 => ?_)
        · have c35 : ixf_ w tx_y 0 < 0 := c35
          refine v_iconstv (v := 1) 53 dX12_slice_52 (by decide) rfl ?_
          refine v_goto 57 dX12_slice_53 (by decide) ?_
          refine v_iconstv (v := 2) 58 dX12_slice_57 (by decide) rfl ?_
          refine v_invv (d' := 0) (k' := 0) (n' := 0) (k2 := 3) (n2 := 60) 61 [_, _] dX12_slice_58 mt_X12_67 mi_X12_fails me_X12_fails (by first | assumption | rfl) (by rfl) rfl rfl (of_decide_eq_true rfl) rfl (by decide) rfl rfl rfl rfl (C_f1 e0 (by decide) ?_)
          refine v_if_ne 88 64 dX12_slice_61 (by decide) rfl (fun c61 => ?_) (fun c61 => ?_)
          · refine v_iconstv (v := -1) 89 dX12_slice_88 (by decide) rfl ?_
            refine v_ireturn dX12_slice_89 rfl ?_
            have ev : op_slice S x w t = (2, 0, S) := by unfold op_slice; simp only [eq_true a10, c35, ↓reduceIte, and_self, and_true, true_and, and_false, false_and, not_true_eq_false, not_false_eq_true]
            rw [ev] at hq
            exact hq _ _ (fun e => absurd e (Nat.succ_ne_zero _)) R.th hp_seti_at (ke0.tr (ke_.i (by decide) (by decide)))
          · first | exact absurd c61 (by decide) | exact absurd rfl c61 | exact absurd (of_decide_eq_true rfl) c61
        · have c35 : ¬ ixf_ w tx_y 0 < 0 := c35
          refine v_iload_n 39 dX12_slice_38 rfl rfl ?_
          refine v_i2l 40 dX12_slice_39 rfl ?_
          refine v_ldc2 43 dX12_slice_40 cn_X12_86 rfl rfl ?_
          refine v_ldc2 46 dX12_slice_43 cn_X12_88 rfl rfl ?_
          refine v_invs (d' := 0) (k' := 0) (n' := 0) (k2 := 3) (n2 := 60) 49 [_, _, _] dX12_slice_46 mt_X12_44 ms_X12_in rfl rfl (of_decide_eq_true rfl) rfl (by decide) rfl rfl rfl rfl (C_in2 (lo := 5) (hi := 30) rfl (by decide) (by decide) (fun a46 => ?_) (fun b46 => ?_))
          · obtain ⟨tt, ht1, ht2, et⟩ := a_nat (lo := 5) (hi := 30) a46 (by decide) (by decide)
            refine v_if_ne 56 52 dX12_slice_49 (by decide) rfl (fun c49 => ?_) (fun c49 => ?_)
            · refine v_iconstv (v := 0) 57 dX12_slice_56 (by decide) rfl ?_
              refine v_iconstv (v := 2) 58 dX12_slice_57 (by decide) rfl ?_
              refine v_invv (d' := 0) (k' := 0) (n' := 0) (k2 := 3) (n2 := 60) 61 [_, _] dX12_slice_58 mt_X12_67 mi_X12_fails me_X12_fails (by first | assumption | rfl) (by rfl) rfl rfl (of_decide_eq_true rfl) rfl (by decide) rfl rfl rfl rfl (C_f0 e0 ?_)
              refine v_if_ne 88 64 dX12_slice_61 (by decide) rfl (fun c61 => ?_) (fun c61 => ?_)
              · first | exact absurd c61 (by decide) | exact absurd rfl c61 | exact absurd (of_decide_eq_true rfl) c61
              · refine v_aload_n 65 dX12_slice_64 rfl rfl ?_
                refine v_aload_n 66 dX12_slice_65 rfl rfl ?_
                refine v_getfr 69 dX12_slice_66 fl_X12_10 (by first | assumption | rfl) (by rfl) rfl ?_
                rw [R.1.1.2.1]
                refine v_iload_n 70 dX12_slice_69 rfl rfl ?_
                refine v_invf (z := ("java/util/ArrayList", TJx4a65c, 3)) (d' := 2) (k' := 0) (n' := 0) (k2 := 3) (n2 := 60) 75 [_] dX12_slice_70 mf_X12_90 md_Jx4a65c_get_915e3 mi_Jx4a65c_get_915e3 se_Jx4a65c_get_915e3 (by simp [g_fw]; rfl) ⟨by decide, by decide +kernel⟩ (by first | assumption | rfl) (by rfl) rfl rfl (of_decide_eq_true rfl) rfl (by decide) rfl rfl rfl rfl (C_gt (tl := 50) (ta := 56) rfl rfl R.2.1.1 (by assumption) ?_)
                refine v_cast 78 dX12_slice_75 ⟨_, _, rfl, rfl, cl_X12_71⟩ rfl ?_
                refine v_getfi 81 dX12_slice_78 fl_X12_94 (by first | assumption | rfl) (by rfl) rfl ?_
                rw [R.vi (t := 41) (by decide)]
                refine v_iconstv (v := 3) 82 dX12_slice_81 (by decide) rfl ?_
                refine v_invv (d' := 0) (k' := 0) (n' := 0) (k2 := 3) (n2 := 60) 85 [_, _] dX12_slice_82 mt_X12_67 mi_X12_fails me_X12_fails (by first | assumption | rfl) (by rfl) rfl rfl (of_decide_eq_true rfl) rfl (by decide) rfl rfl rfl rfl (C_f2 e0 (by decide) (fun c82 => ?_) (fun c82 => ?_))
                · refine v_if_eq 90 88 dX12_slice_85 (by decide) rfl (fun c85 => ?_) (fun c85 => ?_)
                  · refine v_aload_n 91 dX12_slice_90 rfl rfl ?_
                    refine v_getfr 94 dX12_slice_91 fl_X12_10 (by first | assumption | rfl) (by rfl) rfl ?_
                    rw [R.1.1.2.1]
                    refine v_iload_n 95 dX12_slice_94 rfl rfl ?_
                    refine v_invf (z := ("java/util/ArrayList", TJx4a65c, 3)) (d' := 2) (k' := 0) (n' := 0) (k2 := 3) (n2 := 60) 100 [_] dX12_slice_95 mf_X12_90 md_Jx4a65c_get_915e3 mi_Jx4a65c_get_915e3 se_Jx4a65c_get_915e3 (by simp [g_fw]; rfl) ⟨by decide, by decide +kernel⟩ (by first | assumption | rfl) (by rfl) rfl rfl (of_decide_eq_true rfl) rfl (by decide) rfl rfl rfl rfl (C_gt (tl := 50) (ta := 56) rfl rfl R.2.1.1 (by assumption) ?_)
                    refine v_cast 103 dX12_slice_100 ⟨_, _, rfl, rfl, cl_X12_71⟩ rfl ?_
                    refine v_iconstv (v := 1) 104 dX12_slice_103 (by decide) rfl ?_
                    refine v_putfi 107 dX12_slice_104 pf_X12_slice_94 (by first | assumption | rfl) (by first | assumption | decide) (by rfl) (by first | rfl | decide | assumption) (by first | rfl | decide | assumption) rfl ?_
                    have R : Rp2 (hp_seti S.1 41 (cl_ x) 4 1, S.2) _ := R.i (by decide)
                    refine v_aload_n 108 dX12_slice_107 rfl rfl ?_
                    refine v_getfr 111 dX12_slice_108 fl_X12_16 (by first | assumption | rfl) (by rfl) rfl ?_
                    rw [R.1.1.2.2.1]
                    refine v_new (k1 := 2) (n1 := 56) 114 42 (nn_ S 1) dX12_slice_111 nw_X12_98 (by rfl) (by decide) (by rw [R.al (t := 42) (by decide)]; exact (I.2.2.2.2.2.1.2.1 _ (Nat.le_refl _)).1) rfl rfl rfl ?_
                    have R : Rp2 (hp_new (hp_seti S.1 41 (cl_ x) 4 1) 42 (nn_ S 1) 0, S.2) _ := R.n (by decide)
                    refine v_dup 115 dX12_slice_114 rfl rfl ?_
                    refine v_aload_n 116 dX12_slice_115 rfl rfl ?_
                    refine v_getfr 119 dX12_slice_116 fl_X12_10 (by first | assumption | rfl) (by rfl) rfl ?_
                    rw [R.1.1.2.1]
                    refine v_iload_n 120 dX12_slice_119 rfl rfl ?_
                    refine v_invf (z := ("java/util/ArrayList", TJx4a65c, 3)) (d' := 2) (k' := 0) (n' := 0) (k2 := 2) (n2 := 56) 125 [_] dX12_slice_120 mf_X12_90 md_Jx4a65c_get_915e3 mi_Jx4a65c_get_915e3 se_Jx4a65c_get_915e3 (by simp [g_fw]; rfl) ⟨by decide, by decide +kernel⟩ (by first | assumption | rfl) (by rfl) rfl rfl (of_decide_eq_true rfl) rfl (by decide) rfl rfl rfl rfl (C_gt (tl := 50) (ta := 56) rfl rfl R.2.1.1 (by assumption) ?_)
                    refine v_cast 128 dX12_slice_125 ⟨_, _, rfl, rfl, cl_X12_71⟩ rfl ?_
                    refine v_iload_n 129 dX12_slice_128 rfl rfl ?_
                    refine v_iload_n 130 dX12_slice_129 rfl rfl ?_
                    rw [et] at a46 hq ⊢
                    refine v_invi (d' := 1) (k' := 1) (n' := 24) (k2 := 1) (n2 := 32) 133 [_, _, _] dX12_slice_130 mt_X12_100 mi_X7_init rfl rfl (by first | assumption | rfl) rfl rfl (of_decide_eq_true rfl) rfl (by decide) rfl rfl rfl rfl (C_X7_init (dd := dd) (tt := tt) (by rw [R.vi (t := 41) (by decide)]; show hp_vi (hp_new (hp_seti S.1 41 (cl_ x) 4 1) 42 (nn_ S 1) 0) 41 (cl_ x) 1 = _; rw [vi_n, if_neg (by simp), vi_i, if_neg (by simp)]; exact ed) hd1 hd2 ht1 ht2 (nc_ hw) (by rw [R.al (t := 62) (by decide)]; exact (I.2.2.2.2.2.1.2.1 _ (Nat.le_refl _)).2) ?_)
                    have R : Rp2 ((nw_fl S (cl_ x) w (nI tt)).1, S.2) (hp_setr (hp_new (hp_seti (hp_seti (hp_setr (hp_new (hp_seti h0 41 (cl_ x) 4 1) 42 (nn_ S 1) 0) 42 (nn_ S 1) 0 (41, cl_ x)) 42 (nn_ S 1) 1 w) 42 (nn_ S 1) 2 (nI tt)) 62 (nn_ S 1) (cl_ (mn 24 (pw_n w (nI dd) (nI tt))))) 42 (nn_ S 1) 3 (62, nn_ S 1)) := (by unfold nw_fl nw_fn; dsimp only; rw [ed]; repeat' first | refine Rp2.i' ?_ (by decide) | refine Rp2.r' ?_ (by decide) | refine Rp2.n' ?_ (by decide) | refine Rp2.g' ?_ (by decide) | exact Rb | exact R)
                    refine v_invf (z := ("java/util/ArrayList", TJx4a65c, 3)) (d' := 6) (k' := 1) (n' := 30) (k2 := 0) (n2 := 2) 138 [_] dX12_slice_133 mf_X12_76 md_Jx4a65c_add_9ea2d mi_Jx4a65c_add_9ea2d se_Jx4a65c_add_9ea2d (by simp [g_fw]; rfl) ⟨by decide, by decide +kernel⟩ (by first | assumption | rfl) (by rfl) rfl rfl (of_decide_eq_true rfl) rfl (by decide) rfl rfl rfl rfl (C_add2 (tl := 51) (ta := 57) (n := nn_ S 1) (f := fun k => (42, k)) rfl rfl R.2.1.2.1 (by decide) (by decide) (by decide) (by decide) (by decide) ob_42 (by omega) (fun k hk => Or.inr ob_42) (by omega) (fun h9 L9 te9 => ?_))
                    refine v_pop 139 dX12_slice_138 rfl rfl ?_
                    refine v_aload_n 140 dX12_slice_139 rfl rfl ?_
                    refine v_getfr 143 dX12_slice_140 fl_X12_16 (by first | assumption | rfl) (by rfl) rfl ?_
                    rw [show hp_vr h9 40 0 2 = (51, 0) from by rw [(te9 40 (by decide) (by decide)).2.2.2.1]; exact R.1.1.2.2.1]
                    refine v_invf (z := ("java/util/ArrayList", TJx4a65c, 3)) (d' := 0) (k' := 0) (n' := 0) (k2 := 0) (n2 := 2) 148 [] dX12_slice_143 mf_X12_38 md_Jx4a65c_size_8abf5 mi_Jx4a65c_size_8abf5 se_Jx4a65c_size_8abf5 (by simp [g_fw]; rfl) ⟨by decide, by decide +kernel⟩ (by first | assumption | rfl) (by rfl) rfl rfl (of_decide_eq_true rfl) rfl (by decide) rfl rfl rfl rfl (C_sz (tl := 51) (ta := 57) rfl rfl L9 ?_)
                    refine v_iconstv (v := 1) 149 dX12_slice_148 (by decide) rfl ?_
                    refine v_isub 150 dX12_slice_149 rfl ?_
                    rw [show nI (nn_ S 1 + 1) - 1 = nI (nn_ S 1) from nI_pred _]
                    refine v_ireturn dX12_slice_150 rfl ?_
                    have ev : op_slice S x w (nI tt) = (0, nI (nn_ S 1), nw_fl S (cl_ x) w (nI tt)) := by unfold op_slice; simp only [eq_true a10, c35, eq_true a46, c82, ↓reduceIte, and_self, and_true, true_and, and_false, false_and, not_true_eq_false, not_false_eq_true]
                    rw [ev] at hq
                    exact hq _ _ (fun _ => rfl) (R.a1 te9 L9) (by rw [(te9 40 (by decide) (by decide)).2.2.1]; first | exact e0 | exact (hp_seti_ne (by simp)).trans e0 | (simp only [vi_i, vi_r, vi_n]; simp; exact e0)) (((by repeat' first | exact ke_.rf | exact ke0 | refine ke_.tr ?_ (ke_.i (by decide) (by decide)) | refine ke_.tr ?_ (ke_.r (by decide) (by decide)) | refine ke_.tr ?_ (ke_.n (by decide) (by decide))) : ke_ h _).tr (ke_.te te9 (by decide) (by decide)))
                  · first | exact absurd c85 (by decide) | exact absurd rfl c85 | exact absurd (of_decide_eq_true rfl) c85
                · refine v_if_eq 90 88 dX12_slice_85 (by decide) rfl (fun c85 => ?_) (fun c85 => ?_)
                  · first | exact absurd c85 (by decide) | exact absurd rfl c85 | exact absurd (of_decide_eq_true rfl) c85
                  · refine v_iconstv (v := -1) 89 dX12_slice_88 (by decide) rfl ?_
                    refine v_ireturn dX12_slice_89 rfl ?_
                    have ev : op_slice S x w t = (3, 0, S) := by unfold op_slice; simp only [eq_true a10, c35, eq_true a46, c82, ↓reduceIte, and_self, and_true, true_and, and_false, false_and, not_true_eq_false, not_false_eq_true]
                    rw [ev] at hq
                    exact hq _ _ (fun e => absurd e (Nat.succ_ne_zero _)) R.th hp_seti_at (ke0.tr (ke_.i (by decide) (by decide)))
            · first | exact absurd c49 (by decide) | exact absurd rfl c49 | exact absurd (of_decide_eq_true rfl) c49
          · refine v_if_ne 56 52 dX12_slice_49 (by decide) rfl (fun c49 => ?_) (fun c49 => ?_)
            · first | exact absurd c49 (by decide) | exact absurd rfl c49 | exact absurd (of_decide_eq_true rfl) c49
            · refine v_iconstv (v := 1) 53 dX12_slice_52 (by decide) rfl ?_
              refine v_goto 57 dX12_slice_53 (by decide) ?_
              refine v_iconstv (v := 2) 58 dX12_slice_57 (by decide) rfl ?_
              refine v_invv (d' := 0) (k' := 0) (n' := 0) (k2 := 3) (n2 := 60) 61 [_, _] dX12_slice_58 mt_X12_67 mi_X12_fails me_X12_fails (by first | assumption | rfl) (by rfl) rfl rfl (of_decide_eq_true rfl) rfl (by decide) rfl rfl rfl rfl (C_f1 e0 (by decide) ?_)
              refine v_if_ne 88 64 dX12_slice_61 (by decide) rfl (fun c61 => ?_) (fun c61 => ?_)
              · refine v_iconstv (v := -1) 89 dX12_slice_88 (by decide) rfl ?_
                refine v_ireturn dX12_slice_89 rfl ?_
                have ev : op_slice S x w t = (2, 0, S) := by unfold op_slice; simp only [eq_true a10, c35, b46, ↓reduceIte, and_self, and_true, true_and, and_false, false_and, not_true_eq_false, not_false_eq_true]
                rw [ev] at hq
                exact hq _ _ (fun e => absurd e (Nat.succ_ne_zero _)) R.th hp_seti_at (ke0.tr (ke_.i (by decide) (by decide)))
              · first | exact absurd c61 (by decide) | exact absurd rfl c61 | exact absurd (of_decide_eq_true rfl) c61
    · first | exact absurd c13 (by decide) | exact absurd rfl c13 | exact absurd (of_decide_eq_true rfl) c13
  · refine v_if_ne 20 16 dX12_slice_13 (by decide) rfl (fun c13 => ?_) (fun c13 => ?_)
    · first | exact absurd c13 (by decide) | exact absurd rfl c13 | exact absurd (of_decide_eq_true rfl) c13
    · refine v_iconstv (v := 1) 17 dX12_slice_16 (by decide) rfl ?_
      refine v_goto 21 dX12_slice_17 (by decide) ?_
      refine v_iconstv (v := 1) 22 dX12_slice_21 (by decide) rfl ?_
      refine v_invv (d' := 0) (k' := 0) (n' := 0) (k2 := 3) (n2 := 60) 25 [_, _] dX12_slice_22 mt_X12_67 mi_X12_fails me_X12_fails (by first | assumption | rfl) (by rfl) rfl rfl (of_decide_eq_true rfl) rfl (by decide) rfl rfl rfl rfl (C_f1 e0 (by decide) ?_)
      refine v_if_ne 88 28 dX12_slice_25 (by decide) rfl (fun c25 => ?_) (fun c25 => ?_)
      · refine v_iconstv (v := -1) 89 dX12_slice_88 (by decide) rfl ?_
        refine v_ireturn dX12_slice_89 rfl ?_
        have ev : op_slice S x w t = (1, 0, S) := by unfold op_slice; simp only [b10, ↓reduceIte, and_self, and_true, true_and, and_false, false_and, not_true_eq_false, not_false_eq_true]
        rw [ev] at hq
        exact hq _ _ (fun e => absurd e (Nat.succ_ne_zero _)) R.th hp_seti_at (ke0.tr (ke_.i (by decide) (by decide)))
      · first | exact absurd c25 (by decide) | exact absurd rfl c25 | exact absurd (of_decide_eq_true rfl) c25
set_option maxRecDepth 20000 in
theorem C_X12_picture {G : GW} {h : PH} {Q : RS → PH → Prop} {S : SP} {N : Nat} (R : Rp2 S h) (I : Iv S N)  (hq : ∀ v h', ((op_picture S).1 = 0 → v = (op_picture S).2.1) → Rp2 (op_picture S).2.2 h' → hp_vi h' 40 0 0 = nI (op_picture S).1 → ke_ h h' → Q (.inl (some (pv_I v))) h') : VV G 9 4 110 yX12_picture cX12_picture 1 (some .int) [] 0 (vv_en 1 [pv_O (40, 0)]) [] h Q := by
  show VV G 9 4 110 yX12_picture cX12_picture 1 (some .int) [] 0 [some (pv_O (40, 0))] [] h Q
  obtain ⟨z0, z1, z2, z3, z4, z5⟩ := I.cs
  refine v_aload_n 1 dX12_picture_0 rfl rfl ?_
  refine v_invv (d' := 0) (k' := 0) (n' := 0) (k2 := 4) (n2 := 110) 4 [] dX12_picture_1 mt_X12_48 mi_X12_begins me_X12_begins (by first | assumption | rfl) (by rfl) rfl rfl (of_decide_eq_true rfl) rfl (by decide) rfl rfl rfl rfl (C2_begins R (fun h0 R e0 ke0 => ?_))
  have Rb := R
  refine v_aload_n 5 dX12_picture_4 rfl rfl ?_
  refine v_aload_n 6 dX12_picture_5 rfl rfl ?_
  refine v_getfr 9 dX12_picture_6 fl_X12_32 (by first | assumption | rfl) (by rfl) rfl ?_
  rw [R.1.1.2.2.2.2.2.2]
  refine v_invf (z := ("java/util/ArrayList", TJx4a65c, 3)) (d' := 0) (k' := 0) (n' := 0) (k2 := 4) (n2 := 110) 14 [] dX12_picture_9 mf_X12_38 md_Jx4a65c_size_8abf5 mi_Jx4a65c_size_8abf5 se_Jx4a65c_size_8abf5 (by simp [g_fw]; rfl) ⟨by decide, by decide +kernel⟩ (by first | assumption | rfl) (by rfl) rfl rfl (of_decide_eq_true rfl) rfl (by decide) rfl rfl rfl rfl (C_sz (tl := 55) (ta := 61) rfl rfl R.2.1.2.2.2.2.2 ?_)
  refine v_iconstv (v := 4) 15 dX12_picture_14 (by decide) rfl ?_
  refine v_icmp_ne 22 18 dX12_picture_15 (by decide) rfl (fun c15 => ?_) (fun c15 => ?_)
  · have g74 : ¬ 4 ≤ nn_ S 3 := fun q => c15 (by rw [show nn_ S 3 = 4 by omega]; rfl)
    refine v_iconstv (v := 0) 23 dX12_picture_22 (by decide) rfl ?_
    refine v_iconstv (v := 1) 24 dX12_picture_23 (by decide) rfl ?_
    refine v_invv (d' := 0) (k' := 0) (n' := 0) (k2 := 4) (n2 := 110) 27 [_, _] dX12_picture_24 mt_X12_67 mi_X12_fails me_X12_fails (by first | assumption | rfl) (by rfl) rfl rfl (of_decide_eq_true rfl) rfl (by decide) rfl rfl rfl rfl (C_f0 e0 ?_)
    refine v_if_eq 32 30 dX12_picture_27 (by decide) rfl (fun c27 => ?_) (fun c27 => ?_)
    · refine v_aload_n 33 dX12_picture_32 rfl rfl ?_
      refine v_getfr 36 dX12_picture_33 fl_X12_32 (by first | assumption | rfl) (by rfl) rfl ?_
      rw [R.1.1.2.2.2.2.2.2]
      refine v_new (k1 := 3) (n1 := 107) 39 44 (nn_ S 3) dX12_picture_36 nw_X12_304 (by rfl) (by decide) (by rw [R.al (t := 44) (by decide)]; exact (I.2.2.2.2.2.1.2.2.2.1 _ (Nat.le_refl _)).1) rfl rfl rfl ?_
      refine v_dup 40 dX12_picture_39 rfl rfl ?_
      refine v_inviN (d' := 1) (k' := 2) (n' := 72) (k2 := 1) (n2 := 35) 43 [] dX12_picture_40 mn_X12_306 md_X11_init mi_X11_init rfl rfl (by first | assumption | rfl) rfl rfl (of_decide_eq_true rfl) rfl (by decide) rfl rfl rfl rfl (C_X11_init (by simp [al_n]; rw [R.al (t := 63) (by decide)]; exact (I.2.2.2.2.2.1.2.2.2.1 _ (Nat.le_refl _)).2.2.1) (by simp [al_n]; rw [R.al (t := 64) (by decide)]; exact (I.2.2.2.2.2.1.2.2.2.1 _ (Nat.le_refl _)).2.2.2) ?_)
      have R : Rp2 ((nw_pic S).1, S.2) (hp_setr (hp_new (hp_setr (hp_new (hp_new h0 44 (nn_ S 3) 0) 63 (nn_ S 3) 64) 44 (nn_ S 3) 0 (63, nn_ S 3)) 64 (nn_ S 3) 8) 44 (nn_ S 3) 2 (64, nn_ S 3)) := (by unfold nw_pic; dsimp only; repeat' first | refine Rp2.i' ?_ (by decide) | refine Rp2.r' ?_ (by decide) | refine Rp2.n' ?_ (by decide) | refine Rp2.g' ?_ (by decide) | exact Rb | exact R)
      refine v_invf (z := ("java/util/ArrayList", TJx4a65c, 3)) (d' := 6) (k' := 1) (n' := 30) (k2 := 0) (n2 := 5) 48 [_] dX12_picture_43 mf_X12_76 md_Jx4a65c_add_9ea2d mi_Jx4a65c_add_9ea2d se_Jx4a65c_add_9ea2d (by simp [g_fw]; rfl) ⟨by decide, by decide +kernel⟩ (by first | assumption | rfl) (by rfl) rfl rfl (of_decide_eq_true rfl) rfl (by decide) rfl rfl rfl rfl (C_add2 (tl := 55) (ta := 61) (n := nn_ S 3) (f := fun k => (44, k)) rfl rfl R.2.1.2.2.2.2.2 (by decide) (by decide) (by decide) (by decide) (by decide) ob_44 (by omega) (fun k hk => Or.inr ob_44) (by omega) (fun h9 L9 te9 => ?_))
      refine v_pop 49 dX12_picture_48 rfl rfl ?_
      refine v_aload_n 50 dX12_picture_49 rfl rfl ?_
      refine v_getfr 53 dX12_picture_50 fl_X12_32 (by first | assumption | rfl) (by rfl) rfl ?_
      rw [show hp_vr h9 40 0 12 = (55, 0) from by rw [(te9 40 (by decide) (by decide)).2.2.2.1]; exact R.1.1.2.2.2.2.2.2]
      refine v_invf (z := ("java/util/ArrayList", TJx4a65c, 3)) (d' := 0) (k' := 0) (n' := 0) (k2 := 0) (n2 := 5) 58 [] dX12_picture_53 mf_X12_38 md_Jx4a65c_size_8abf5 mi_Jx4a65c_size_8abf5 se_Jx4a65c_size_8abf5 (by simp [g_fw]; rfl) ⟨by decide, by decide +kernel⟩ (by first | assumption | rfl) (by rfl) rfl rfl (of_decide_eq_true rfl) rfl (by decide) rfl rfl rfl rfl (C_sz (tl := 55) (ta := 61) rfl rfl L9 ?_)
      refine v_iconstv (v := 1) 59 dX12_picture_58 (by decide) rfl ?_
      refine v_isub 60 dX12_picture_59 rfl ?_
      rw [show nI (nn_ S 3 + 1) - 1 = nI (nn_ S 3) from nI_pred _]
      refine v_ireturn dX12_picture_60 rfl ?_
      have ev : op_picture S = (0, nI (nn_ S 3), nw_pic S) := by unfold op_picture; simp only [g74, ↓reduceIte, and_self, and_true, true_and, and_false, false_and, not_true_eq_false, not_false_eq_true]
      rw [ev] at hq
      exact hq _ _ (fun _ => rfl) (R.a3 z2 te9 L9) (by rw [(te9 40 (by decide) (by decide)).2.2.1]; first | exact e0 | exact (hp_seti_ne (by simp)).trans e0 | (simp only [vi_i, vi_r, vi_n]; simp; exact e0)) (((by repeat' first | exact ke_.rf | exact ke0 | refine ke_.tr ?_ (ke_.i (by decide) (by decide)) | refine ke_.tr ?_ (ke_.r (by decide) (by decide)) | refine ke_.tr ?_ (ke_.n (by decide) (by decide))) : ke_ h _).tr (ke_.te te9 (by decide) (by decide)))
    · first | exact absurd c27 (by decide) | exact absurd rfl c27 | exact absurd (of_decide_eq_true rfl) c27
  · have g74 : 4 ≤ nn_ S 3 := by have := (nI_eq (a := nn_ S 3) (b := 4) (by omega) (by omega)).mp c15; omega
    refine v_iconstv (v := 1) 19 dX12_picture_18 (by decide) rfl ?_
    refine v_goto 23 dX12_picture_19 (by decide) ?_
    refine v_iconstv (v := 1) 24 dX12_picture_23 (by decide) rfl ?_
    refine v_invv (d' := 0) (k' := 0) (n' := 0) (k2 := 4) (n2 := 110) 27 [_, _] dX12_picture_24 mt_X12_67 mi_X12_fails me_X12_fails (by first | assumption | rfl) (by rfl) rfl rfl (of_decide_eq_true rfl) rfl (by decide) rfl rfl rfl rfl (C_f1 e0 (by decide) ?_)
    refine v_if_eq 32 30 dX12_picture_27 (by decide) rfl (fun c27 => ?_) (fun c27 => ?_)
    · first | exact absurd c27 (by decide) | exact absurd rfl c27 | exact absurd (of_decide_eq_true rfl) c27
    · refine v_iconstv (v := -1) 31 dX12_picture_30 (by decide) rfl ?_
      refine v_ireturn dX12_picture_31 rfl ?_
      have ev : op_picture S = (1, 0, S) := by unfold op_picture; simp only [g74, ↓reduceIte, and_self, and_true, true_and, and_false, false_and, not_true_eq_false, not_false_eq_true]
      rw [ev] at hq
      exact hq _ _ (fun e => absurd e (Nat.succ_ne_zero _)) R.th hp_seti_at (ke0.tr (ke_.i (by decide) (by decide)))
theorem Rp2.a2 {S : SP} {A h h' : PH} {tt : Nat} (R : Rp2 (A, S.2) h) (n2 : nn_ S 2 ≤ 8) (te : ∀ t, t ≠ 52 → t ≠ 58 → t ≠ 53 → t ≠ 59 → hp_te h h' t) (L : q_l h' 52 58 (nn_ S 2 + 1) (fun k => if k = nn_ S 2 then (43, nn_ S 2) else (43, k))) (L' : q_l h' 53 59 (nn_ S 2 + 1) (fun k => if k = nn_ S 2 then (4, tt + 128) else (4, nn_ S (10 + k) + 128))) : Rp2 (A, c_up (c_up S.2.1 2 (nn_ S 2 + 1)) (10 + nn_ S 2) tt, S.2.2) h' := by
  obtain ⟨L0, L1, L2, L3, L4, L5⟩ := R.2.1
  have T : ∀ t, t ≠ 52 ∧ t ≠ 58 ∧ t ≠ 53 ∧ t ≠ 59 → hp_te h h' t := fun t q => te t q.1 q.2.1 q.2.2.1 q.2.2.2
  have C : ∀ j, ¬ j = 2 → ¬ j = 10 + nn_ S 2 → c_up (c_up S.2.1 2 (nn_ S 2 + 1)) (10 + nn_ S 2) tt j = S.2.1 j := fun j q1 q2 => (c_ne q2).trans (c_ne q1)
  have C2 : c_up (c_up S.2.1 2 (nn_ S 2 + 1)) (10 + nn_ S 2) tt 2 = nn_ S 2 + 1 := (c_ne (by omega)).trans c_at
  refine R.ls rfl (fun t ht => T t (by omega)) ⟨?_, ?_, ?_, ?_, ?_, ?_⟩
  · show q_l h' 50 56 (c_up _ _ _ 0) _
    rw [C 0 (by decide) (by omega)]; exact L0.te (T _ (by decide)) (T _ (by decide)) (T _ (by decide))
  · show q_l h' 51 57 (c_up _ _ _ 1) _
    rw [C 1 (by decide) (by omega)]; exact L1.te (T _ (by decide)) (T _ (by decide)) (T _ (by decide))
  · show q_l h' 52 58 (c_up _ _ _ 2) _
    rw [C2]; exact L.f (fun k hk => by by_cases e : k = nn_ S 2 <;> simp [e])
  · show q_l h' 53 59 (c_up _ _ _ 2) _
    rw [C2]
    refine L'.f (fun k hk => ?_)
    show _ = (4, c_up _ _ _ (10 + k) + 128)
    by_cases e : k = nn_ S 2
    · rw [if_pos e, e, c_at]
    · rw [if_neg e, C (10 + k) (by omega) (by omega)]
  · show q_l h' 54 60 (c_up _ _ _ 5) _
    rw [C 5 (by decide) (by omega)]; exact L4.te (T _ (by decide)) (T _ (by decide)) (T _ (by decide))
  · show q_l h' 55 61 (c_up _ _ _ 3) _
    rw [C 3 (by decide) (by omega)]; exact L5.te (T _ (by decide)) (T _ (by decide)) (T _ (by decide))
set_option maxRecDepth 20000 in
theorem C_X12_panel {G : GW} {h : PH} {Q : RS → PH → Prop} {S : SP} {N : Nat} (R : Rp2 S h) (I : Iv S N) {w d c t : Int32} (hw : 0 ≤ c ∧ c ≤ 65535) (hq : ∀ v h', ((op_panel S w d c t).1 = 0 → v = (op_panel S w d c t).2.1) → Rp2 (op_panel S w d c t).2.2 h' → hp_vi h' 40 0 0 = nI (op_panel S w d c t).1 → ke_ h h' → Q (.inl (some (pv_I v))) h') : VV G 9 3 75 yX12_panel cX12_panel 5 (some .int) [] 0 (vv_en 5 [pv_O (40, 0), pv_I w, pv_I d, pv_I c, pv_I t]) [] h Q := by
  show VV G 9 3 75 yX12_panel cX12_panel 5 (some .int) [] 0 [some (pv_O (40, 0)), some (pv_I w), some (pv_I d), some (pv_I c), some (pv_I t)] [] h Q
  obtain ⟨z0, z1, z2, z3, z4, z5⟩ := I.cs
  refine v_aload_n 1 dX12_panel_0 rfl rfl ?_
  refine v_invv (d' := 0) (k' := 0) (n' := 0) (k2 := 3) (n2 := 75) 4 [] dX12_panel_1 mt_X12_48 mi_X12_begins me_X12_begins (by first | assumption | rfl) (by rfl) rfl rfl (of_decide_eq_true rfl) rfl (by decide) rfl rfl rfl rfl (C2_begins R (fun h0 R e0 ke0 => ?_))
  have Rb := R
  refine v_aload_n 5 dX12_panel_4 rfl rfl ?_
  refine v_iload_n 6 dX12_panel_5 rfl rfl ?_
  refine v_i2l 7 dX12_panel_6 rfl ?_
  refine v_ldc2 10 dX12_panel_7 cn_X12_59 rfl rfl ?_
  refine v_ldc2 13 dX12_panel_10 cn_X12_123 rfl rfl ?_
  refine v_invs (d' := 0) (k' := 0) (n' := 0) (k2 := 3) (n2 := 75) 16 [_, _, _] dX12_panel_13 mt_X12_44 ms_X12_in rfl rfl (of_decide_eq_true rfl) rfl (by decide) rfl rfl rfl rfl (C_in2 (lo := 100) (hi := 2000) rfl (by decide) (by decide) (fun a13 => ?_) (fun b13 => ?_))
  · refine v_if_eq 55 19 dX12_panel_16 (by decide) rfl (fun c16 => ?_) (fun c16 => ?_)
    · first | exact absurd c16 (by decide) | exact absurd rfl c16 | exact absurd (of_decide_eq_true rfl) c16
    · refine v_iload_n 20 dX12_panel_19 rfl rfl ?_
      refine v_i2l 21 dX12_panel_20 rfl ?_
      refine v_lconst (v := 1) 22 dX12_panel_21 (by decide) rfl ?_
      refine v_ldc2 25 dX12_panel_22 cn_X12_125 rfl rfl ?_
      refine v_invs (d' := 0) (k' := 0) (n' := 0) (k2 := 3) (n2 := 75) 28 [_, _, _] dX12_panel_25 mt_X12_44 ms_X12_in rfl rfl (of_decide_eq_true rfl) rfl (by decide) rfl rfl rfl rfl (C_in2 (lo := 1) (hi := 20) rfl (by decide) (by decide) (fun a25 => ?_) (fun b25 => ?_))
      · refine v_if_eq 55 31 dX12_panel_28 (by decide) rfl (fun c28 => ?_) (fun c28 => ?_)
        · first | exact absurd c28 (by decide) | exact absurd rfl c28 | exact absurd (of_decide_eq_true rfl) c28
        · refine v_ldcs (i := 8) (tx := "scb") 33 dX12_panel_31 (by first | (simp [g_sx]; done) | (simp [g_sx]; rfl)) (by decide) rfl ?_
          refine v_iload_n 34 dX12_panel_33 rfl rfl ?_
          refine v_invv (d' := 3) (k' := 0) (n' := 0) (k2 := 3) (n2 := 75) 37 [_] dX12_panel_34 mt_X12_53 mi_J0_indexOf_0f7a4 me_J0_indexOf_0f7a4 (by first | assumption | rfl) (by rfl) rfl rfl (of_decide_eq_true rfl) rfl (by decide) rfl rfl rfl rfl (C_ixf (by decide) hw.1 ?_)
          refine v_if_lt 55 40 dX12_panel_37 (by decide) rfl (fun c37 => ?_) (fun c37 => ?_)
          · have c37 : ixf_ c tx_c 0 < 0 := c37
            refine v_iconstv (v := 1) 56 dX12_panel_55 (by decide) rfl ?_
            refine v_goto 60 dX12_panel_56 (by decide) ?_
            refine v_iconstv (v := 1) 61 dX12_panel_60 (by decide) rfl ?_
            refine v_invv (d' := 0) (k' := 0) (n' := 0) (k2 := 3) (n2 := 75) 64 [_, _] dX12_panel_61 mt_X12_67 mi_X12_fails me_X12_fails (by first | assumption | rfl) (by rfl) rfl rfl (of_decide_eq_true rfl) rfl (by decide) rfl rfl rfl rfl (C_f1 e0 (by decide) ?_)
            refine v_if_ne 94 67 dX12_panel_64 (by decide) rfl (fun c64 => ?_) (fun c64 => ?_)
            · refine v_iconstv (v := -1) 95 dX12_panel_94 (by decide) rfl ?_
              refine v_ireturn dX12_panel_95 rfl ?_
              have ev : op_panel S w d c t = (1, 0, S) := by unfold op_panel; simp only [eq_true a13, eq_true a25, c37, ↓reduceIte, and_self, and_true, true_and, and_false, false_and, not_true_eq_false, not_false_eq_true]
              rw [ev] at hq
              exact hq _ _ (fun e => absurd e (Nat.succ_ne_zero _)) R.th hp_seti_at (ke0.tr (ke_.i (by decide) (by decide)))
            · first | exact absurd c64 (by decide) | exact absurd rfl c64 | exact absurd (of_decide_eq_true rfl) c64
          · have c37 : ¬ ixf_ c tx_c 0 < 0 := c37
            refine v_iload 42 dX12_panel_40 rfl rfl ?_
            refine v_i2l 43 dX12_panel_42 rfl ?_
            refine v_ldc2 46 dX12_panel_43 cn_X12_86 rfl rfl ?_
            refine v_ldc2 49 dX12_panel_46 cn_X12_63 rfl rfl ?_
            refine v_invs (d' := 0) (k' := 0) (n' := 0) (k2 := 3) (n2 := 75) 52 [_, _, _] dX12_panel_49 mt_X12_44 ms_X12_in rfl rfl (of_decide_eq_true rfl) rfl (by decide) rfl rfl rfl rfl (C_in2 (lo := 5) (hi := 40) rfl (by decide) (by decide) (fun a49 => ?_) (fun b49 => ?_))
            · obtain ⟨tt, ht1, ht2, et⟩ := a_nat (lo := 5) (hi := 40) a49 (by decide) (by decide)
              refine v_if_ne 59 55 dX12_panel_52 (by decide) rfl (fun c52 => ?_) (fun c52 => ?_)
              · refine v_iconstv (v := 0) 60 dX12_panel_59 (by decide) rfl ?_
                refine v_iconstv (v := 1) 61 dX12_panel_60 (by decide) rfl ?_
                refine v_invv (d' := 0) (k' := 0) (n' := 0) (k2 := 3) (n2 := 75) 64 [_, _] dX12_panel_61 mt_X12_67 mi_X12_fails me_X12_fails (by first | assumption | rfl) (by rfl) rfl rfl (of_decide_eq_true rfl) rfl (by decide) rfl rfl rfl rfl (C_f0 e0 ?_)
                refine v_if_ne 94 67 dX12_panel_64 (by decide) rfl (fun c64 => ?_) (fun c64 => ?_)
                · first | exact absurd c64 (by decide) | exact absurd rfl c64 | exact absurd (of_decide_eq_true rfl) c64
                · refine v_aload_n 68 dX12_panel_67 rfl rfl ?_
                  refine v_aload_n 69 dX12_panel_68 rfl rfl ?_
                  refine v_getfr 72 dX12_panel_69 fl_X12_19 (by first | assumption | rfl) (by rfl) rfl ?_
                  rw [R.1.1.2.2.2.1]
                  refine v_invf (z := ("java/util/ArrayList", TJx4a65c, 3)) (d' := 0) (k' := 0) (n' := 0) (k2 := 3) (n2 := 75) 77 [] dX12_panel_72 mf_X12_38 md_Jx4a65c_size_8abf5 mi_Jx4a65c_size_8abf5 se_Jx4a65c_size_8abf5 (by simp [g_fw]; rfl) ⟨by decide, by decide +kernel⟩ (by first | assumption | rfl) (by rfl) rfl rfl (of_decide_eq_true rfl) rfl (by decide) rfl rfl rfl rfl (C_sz (tl := 52) (ta := 58) rfl rfl R.2.1.2.2.1 ?_)
                  refine v_bipushv (v := 8) 79 dX12_panel_77 (by decide) rfl ?_
                  refine v_icmp_ne 86 82 dX12_panel_79 (by decide) rfl (fun c79 => ?_) (fun c79 => ?_)
                  · have g74 : ¬ 8 ≤ nn_ S 2 := fun q => c79 (by rw [show nn_ S 2 = 8 by omega]; rfl)
                    refine v_iconstv (v := 0) 87 dX12_panel_86 (by decide) rfl ?_
                    refine v_iconstv (v := 2) 88 dX12_panel_87 (by decide) rfl ?_
                    refine v_invv (d' := 0) (k' := 0) (n' := 0) (k2 := 3) (n2 := 75) 91 [_, _] dX12_panel_88 mt_X12_67 mi_X12_fails me_X12_fails (by first | assumption | rfl) (by rfl) rfl rfl (of_decide_eq_true rfl) rfl (by decide) rfl rfl rfl rfl (C_f0 e0 ?_)
                    refine v_if_eq 96 94 dX12_panel_91 (by decide) rfl (fun c91 => ?_) (fun c91 => ?_)
                    · refine v_aload_n 97 dX12_panel_96 rfl rfl ?_
                      refine v_getfr 100 dX12_panel_97 fl_X12_19 (by first | assumption | rfl) (by rfl) rfl ?_
                      rw [R.1.1.2.2.2.1]
                      refine v_new (k1 := 2) (n1 := 62) 103 43 (nn_ S 2) dX12_panel_100 nw_X12_129 (by rfl) (by decide) (by rw [R.al (t := 43) (by decide)]; exact (I.2.2.2.2.2.1.2.2.1 _ (Nat.le_refl _)).1) rfl rfl rfl ?_
                      refine v_dup 104 dX12_panel_103 rfl rfl ?_
                      refine v_iload_n 105 dX12_panel_104 rfl rfl ?_
                      refine v_iload_n 106 dX12_panel_105 rfl rfl ?_
                      refine v_iload 108 dX12_panel_106 rfl rfl ?_
                      refine v_iload_n 109 dX12_panel_108 rfl rfl ?_
                      refine v_bipushv (v := 115) 111 dX12_panel_109 (by decide) rfl ?_
                      refine v_icmp_ne 118 114 dX12_panel_111 (by decide) rfl (fun c111 => ?_) (fun c111 => ?_)
                      · refine v_iload_n 119 dX12_panel_118 rfl rfl ?_
                        refine v_bipushv (v := 99) 121 dX12_panel_119 (by decide) rfl ?_
                        refine v_icmp_ne 128 124 dX12_panel_121 (by decide) rfl (fun c121 => ?_) (fun c121 => ?_)
                        · have eco : co_m c = 2 := (if_neg c111).trans (if_neg c121)
                          refine v_iconstv (v := 2) 129 dX12_panel_128 (by decide) rfl ?_
                          refine v_imul 130 dX12_panel_129 rfl ?_
                          refine v_invi (d' := 1) (k' := 0) (n' := 0) (k2 := 2) (n2 := 62) 133 [_, _, _] dX12_panel_130 mt_X12_131 mi_X10_init rfl rfl (by first | assumption | rfl) rfl rfl (of_decide_eq_true rfl) rfl (by decide) rfl rfl rfl rfl (C_X10_init ?_)
                          have R : Rp2 ((hp_seti (hp_seti (hp_seti (hp_new S.1 43 (nn_ S 2) 0) 43 (nn_ S 2) 0 w) 43 (nn_ S 2) 1 d) 43 (nn_ S 2) 2 (t * 2)), S.2) (hp_seti (hp_seti (hp_seti (hp_new h0 43 (nn_ S 2) 0) 43 (nn_ S 2) 0 w) 43 (nn_ S 2) 1 d) 43 (nn_ S 2) 2 (t * 2)) := (by repeat' first | refine Rp2.i' ?_ (by decide) | refine Rp2.r' ?_ (by decide) | refine Rp2.n' ?_ (by decide) | refine Rp2.g' ?_ (by decide) | exact Rb | exact R)
                          refine v_invf (z := ("java/util/ArrayList", TJx4a65c, 3)) (d' := 6) (k' := 1) (n' := 30) (k2 := 1) (n2 := 32) 138 [_] dX12_panel_133 mf_X12_76 md_Jx4a65c_add_9ea2d mi_Jx4a65c_add_9ea2d se_Jx4a65c_add_9ea2d (by simp [g_fw]; rfl) ⟨by decide, by decide +kernel⟩ (by first | assumption | rfl) (by rfl) rfl rfl (of_decide_eq_true rfl) rfl (by decide) rfl rfl rfl rfl (C_add2 (tl := 52) (ta := 58) (n := nn_ S 2) (f := fun k => (43, k)) rfl rfl R.2.1.2.2.1 (by decide) (by decide) (by decide) (by decide) (by decide) ob_43 (by omega) (fun k hk => Or.inr ob_43) (by omega) (fun h9 L9 te9 => ?_))
                          refine v_pop 139 dX12_panel_138 rfl rfl ?_
                          refine v_aload_n 140 dX12_panel_139 rfl rfl ?_
                          refine v_getfr 143 dX12_panel_140 fl_X12_22 (by first | assumption | rfl) (by rfl) rfl ?_
                          rw [show hp_vr h9 40 0 4 = (53, 0) from by rw [(te9 40 (by decide) (by decide)).2.2.2.1]; exact R.1.1.2.2.2.2.1]
                          refine v_iload 145 dX12_panel_143 rfl rfl ?_
                          rw [et] at a49 hq ⊢
                          refine v_invs (d' := 0) (k' := 0) (n' := 0) (k2 := 1) (n2 := 32) 148 [_] dX12_panel_145 mt_X12_134 ms_J6_valueOf_2dffe rfl rfl (of_decide_eq_true rfl) rfl (by decide) rfl rfl rfl rfl (C_J6_valueOf_2dffe (m := tt) (by omega) ?_)
                          refine v_invf (z := ("java/util/ArrayList", TJx4a65c, 3)) (d' := 6) (k' := 1) (n' := 30) (k2 := 0) (n2 := 2) 153 [_] dX12_panel_148 mf_X12_76 md_Jx4a65c_add_9ea2d mi_Jx4a65c_add_9ea2d se_Jx4a65c_add_9ea2d (by simp [g_fw]; rfl) ⟨by decide, by decide +kernel⟩ (by first | assumption | rfl) (by rfl) rfl rfl (of_decide_eq_true rfl) rfl (by decide) rfl rfl rfl rfl (C_add2 (tl := 53) (ta := 59) (n := nn_ S 2) (f := fun k => (4, nn_ S (10 + k) + 128)) rfl rfl (R.2.1.2.2.2.1.te (te9 _ (by decide) (by decide)) (te9 _ (by decide) (by decide)) (te9 _ (by decide) (by decide))) (by decide) (by decide) (by decide) (by decide) (by decide) ob_4 (by omega) (fun k hk => Or.inr ob_4) (by omega) (fun h8 L8 te8 => ?_))
                          refine v_pop 154 dX12_panel_153 rfl rfl ?_
                          refine v_aload_n 155 dX12_panel_154 rfl rfl ?_
                          refine v_getfr 158 dX12_panel_155 fl_X12_19 (by first | assumption | rfl) (by rfl) rfl ?_
                          rw [show hp_vr h8 40 0 3 = (52, 0) from by rw [(te8 40 (by decide) (by decide)).2.2.2.1, (te9 40 (by decide) (by decide)).2.2.2.1]; exact R.1.1.2.2.2.1]
                          refine v_invf (z := ("java/util/ArrayList", TJx4a65c, 3)) (d' := 0) (k' := 0) (n' := 0) (k2 := 0) (n2 := 2) 163 [] dX12_panel_158 mf_X12_38 md_Jx4a65c_size_8abf5 mi_Jx4a65c_size_8abf5 se_Jx4a65c_size_8abf5 (by simp [g_fw]; rfl) ⟨by decide, by decide +kernel⟩ (by first | assumption | rfl) (by rfl) rfl rfl (of_decide_eq_true rfl) rfl (by decide) rfl rfl rfl rfl (C_sz (tl := 52) (ta := 58) rfl rfl (L9.te (te8 _ (by decide) (by decide)) (te8 _ (by decide) (by decide)) (te8 _ (by decide) (by decide))) ?_)
                          refine v_iconstv (v := 1) 164 dX12_panel_163 (by decide) rfl ?_
                          refine v_isub 165 dX12_panel_164 rfl ?_
                          rw [show nI (nn_ S 2 + 1) - 1 = nI (nn_ S 2) from nI_pred _]
                          refine v_ireturn dX12_panel_165 rfl ?_
                          have e9 : op_panel S w d c (nI tt) = (0, nI (nn_ S 2), nw_pan S w d (nI tt * 2) (cl_ (nI tt))) := by unfold op_panel; simp only [eq_true a13, eq_true a25, c37, eq_true a49, g74, eco, ↓reduceIte, and_self, and_true, true_and, and_false, false_and, not_true_eq_false, not_false_eq_true]
                          rw [e9, show cl_ (nI tt) = tt from nI_clamp (by omega)] at hq
                          rw [et] at R te9
                          refine hq _ _ (fun _ => rfl) (R.a2 z2 (fun u u1 u2 u3 u4 => (te9 u u1 u2).tr (te8 u u3 u4)) (L9.te (te8 _ (by decide) (by decide)) (te8 _ (by decide) (by decide)) (te8 _ (by decide) (by decide))) L8) ?_ ?_
                          · rw [(te8 40 (by decide) (by decide)).2.2.1, (te9 40 (by decide) (by decide)).2.2.1]; simp only [vi_i, vi_r, vi_n]; simp; exact e0
                          · exact (((by repeat' first | exact ke_.rf | exact ke0 | refine ke_.tr ?_ (ke_.i (by decide) (by decide)) | refine ke_.tr ?_ (ke_.r (by decide) (by decide)) | refine ke_.tr ?_ (ke_.n (by decide) (by decide))) : ke_ h _).tr (ke_.te te9 (by decide) (by decide))).tr (ke_.te te8 (by decide) (by decide))
                        · have eco : co_m c = 3 := (if_neg c111).trans (if_pos c121)
                          refine v_iconstv (v := 3) 125 dX12_panel_124 (by decide) rfl ?_
                          refine v_goto 129 dX12_panel_125 (by decide) ?_
                          refine v_imul 130 dX12_panel_129 rfl ?_
                          refine v_invi (d' := 1) (k' := 0) (n' := 0) (k2 := 2) (n2 := 62) 133 [_, _, _] dX12_panel_130 mt_X12_131 mi_X10_init rfl rfl (by first | assumption | rfl) rfl rfl (of_decide_eq_true rfl) rfl (by decide) rfl rfl rfl rfl (C_X10_init ?_)
                          have R : Rp2 ((hp_seti (hp_seti (hp_seti (hp_new S.1 43 (nn_ S 2) 0) 43 (nn_ S 2) 0 w) 43 (nn_ S 2) 1 d) 43 (nn_ S 2) 2 (t * 3)), S.2) (hp_seti (hp_seti (hp_seti (hp_new h0 43 (nn_ S 2) 0) 43 (nn_ S 2) 0 w) 43 (nn_ S 2) 1 d) 43 (nn_ S 2) 2 (t * 3)) := (by repeat' first | refine Rp2.i' ?_ (by decide) | refine Rp2.r' ?_ (by decide) | refine Rp2.n' ?_ (by decide) | refine Rp2.g' ?_ (by decide) | exact Rb | exact R)
                          refine v_invf (z := ("java/util/ArrayList", TJx4a65c, 3)) (d' := 6) (k' := 1) (n' := 30) (k2 := 1) (n2 := 32) 138 [_] dX12_panel_133 mf_X12_76 md_Jx4a65c_add_9ea2d mi_Jx4a65c_add_9ea2d se_Jx4a65c_add_9ea2d (by simp [g_fw]; rfl) ⟨by decide, by decide +kernel⟩ (by first | assumption | rfl) (by rfl) rfl rfl (of_decide_eq_true rfl) rfl (by decide) rfl rfl rfl rfl (C_add2 (tl := 52) (ta := 58) (n := nn_ S 2) (f := fun k => (43, k)) rfl rfl R.2.1.2.2.1 (by decide) (by decide) (by decide) (by decide) (by decide) ob_43 (by omega) (fun k hk => Or.inr ob_43) (by omega) (fun h9 L9 te9 => ?_))
                          refine v_pop 139 dX12_panel_138 rfl rfl ?_
                          refine v_aload_n 140 dX12_panel_139 rfl rfl ?_
                          refine v_getfr 143 dX12_panel_140 fl_X12_22 (by first | assumption | rfl) (by rfl) rfl ?_
                          rw [show hp_vr h9 40 0 4 = (53, 0) from by rw [(te9 40 (by decide) (by decide)).2.2.2.1]; exact R.1.1.2.2.2.2.1]
                          refine v_iload 145 dX12_panel_143 rfl rfl ?_
                          rw [et] at a49 hq ⊢
                          refine v_invs (d' := 0) (k' := 0) (n' := 0) (k2 := 1) (n2 := 32) 148 [_] dX12_panel_145 mt_X12_134 ms_J6_valueOf_2dffe rfl rfl (of_decide_eq_true rfl) rfl (by decide) rfl rfl rfl rfl (C_J6_valueOf_2dffe (m := tt) (by omega) ?_)
                          refine v_invf (z := ("java/util/ArrayList", TJx4a65c, 3)) (d' := 6) (k' := 1) (n' := 30) (k2 := 0) (n2 := 2) 153 [_] dX12_panel_148 mf_X12_76 md_Jx4a65c_add_9ea2d mi_Jx4a65c_add_9ea2d se_Jx4a65c_add_9ea2d (by simp [g_fw]; rfl) ⟨by decide, by decide +kernel⟩ (by first | assumption | rfl) (by rfl) rfl rfl (of_decide_eq_true rfl) rfl (by decide) rfl rfl rfl rfl (C_add2 (tl := 53) (ta := 59) (n := nn_ S 2) (f := fun k => (4, nn_ S (10 + k) + 128)) rfl rfl (R.2.1.2.2.2.1.te (te9 _ (by decide) (by decide)) (te9 _ (by decide) (by decide)) (te9 _ (by decide) (by decide))) (by decide) (by decide) (by decide) (by decide) (by decide) ob_4 (by omega) (fun k hk => Or.inr ob_4) (by omega) (fun h8 L8 te8 => ?_))
                          refine v_pop 154 dX12_panel_153 rfl rfl ?_
                          refine v_aload_n 155 dX12_panel_154 rfl rfl ?_
                          refine v_getfr 158 dX12_panel_155 fl_X12_19 (by first | assumption | rfl) (by rfl) rfl ?_
                          rw [show hp_vr h8 40 0 3 = (52, 0) from by rw [(te8 40 (by decide) (by decide)).2.2.2.1, (te9 40 (by decide) (by decide)).2.2.2.1]; exact R.1.1.2.2.2.1]
                          refine v_invf (z := ("java/util/ArrayList", TJx4a65c, 3)) (d' := 0) (k' := 0) (n' := 0) (k2 := 0) (n2 := 2) 163 [] dX12_panel_158 mf_X12_38 md_Jx4a65c_size_8abf5 mi_Jx4a65c_size_8abf5 se_Jx4a65c_size_8abf5 (by simp [g_fw]; rfl) ⟨by decide, by decide +kernel⟩ (by first | assumption | rfl) (by rfl) rfl rfl (of_decide_eq_true rfl) rfl (by decide) rfl rfl rfl rfl (C_sz (tl := 52) (ta := 58) rfl rfl (L9.te (te8 _ (by decide) (by decide)) (te8 _ (by decide) (by decide)) (te8 _ (by decide) (by decide))) ?_)
                          refine v_iconstv (v := 1) 164 dX12_panel_163 (by decide) rfl ?_
                          refine v_isub 165 dX12_panel_164 rfl ?_
                          rw [show nI (nn_ S 2 + 1) - 1 = nI (nn_ S 2) from nI_pred _]
                          refine v_ireturn dX12_panel_165 rfl ?_
                          have e9 : op_panel S w d c (nI tt) = (0, nI (nn_ S 2), nw_pan S w d (nI tt * 3) (cl_ (nI tt))) := by unfold op_panel; simp only [eq_true a13, eq_true a25, c37, eq_true a49, g74, eco, ↓reduceIte, and_self, and_true, true_and, and_false, false_and, not_true_eq_false, not_false_eq_true]
                          rw [e9, show cl_ (nI tt) = tt from nI_clamp (by omega)] at hq
                          rw [et] at R te9
                          refine hq _ _ (fun _ => rfl) (R.a2 z2 (fun u u1 u2 u3 u4 => (te9 u u1 u2).tr (te8 u u3 u4)) (L9.te (te8 _ (by decide) (by decide)) (te8 _ (by decide) (by decide)) (te8 _ (by decide) (by decide))) L8) ?_ ?_
                          · rw [(te8 40 (by decide) (by decide)).2.2.1, (te9 40 (by decide) (by decide)).2.2.1]; simp only [vi_i, vi_r, vi_n]; simp; exact e0
                          · exact (((by repeat' first | exact ke_.rf | exact ke0 | refine ke_.tr ?_ (ke_.i (by decide) (by decide)) | refine ke_.tr ?_ (ke_.r (by decide) (by decide)) | refine ke_.tr ?_ (ke_.n (by decide) (by decide))) : ke_ h _).tr (ke_.te te9 (by decide) (by decide))).tr (ke_.te te8 (by decide) (by decide))
                      · have eco : co_m c = 1 := if_pos c111
                        refine v_iconstv (v := 1) 115 dX12_panel_114 (by decide) rfl ?_
                        refine v_goto 129 dX12_panel_115 (by decide) ?_
                        refine v_imul 130 dX12_panel_129 rfl ?_
                        refine v_invi (d' := 1) (k' := 0) (n' := 0) (k2 := 2) (n2 := 62) 133 [_, _, _] dX12_panel_130 mt_X12_131 mi_X10_init rfl rfl (by first | assumption | rfl) rfl rfl (of_decide_eq_true rfl) rfl (by decide) rfl rfl rfl rfl (C_X10_init ?_)
                        have R : Rp2 ((hp_seti (hp_seti (hp_seti (hp_new S.1 43 (nn_ S 2) 0) 43 (nn_ S 2) 0 w) 43 (nn_ S 2) 1 d) 43 (nn_ S 2) 2 (t * 1)), S.2) (hp_seti (hp_seti (hp_seti (hp_new h0 43 (nn_ S 2) 0) 43 (nn_ S 2) 0 w) 43 (nn_ S 2) 1 d) 43 (nn_ S 2) 2 (t * 1)) := (by repeat' first | refine Rp2.i' ?_ (by decide) | refine Rp2.r' ?_ (by decide) | refine Rp2.n' ?_ (by decide) | refine Rp2.g' ?_ (by decide) | exact Rb | exact R)
                        refine v_invf (z := ("java/util/ArrayList", TJx4a65c, 3)) (d' := 6) (k' := 1) (n' := 30) (k2 := 1) (n2 := 32) 138 [_] dX12_panel_133 mf_X12_76 md_Jx4a65c_add_9ea2d mi_Jx4a65c_add_9ea2d se_Jx4a65c_add_9ea2d (by simp [g_fw]; rfl) ⟨by decide, by decide +kernel⟩ (by first | assumption | rfl) (by rfl) rfl rfl (of_decide_eq_true rfl) rfl (by decide) rfl rfl rfl rfl (C_add2 (tl := 52) (ta := 58) (n := nn_ S 2) (f := fun k => (43, k)) rfl rfl R.2.1.2.2.1 (by decide) (by decide) (by decide) (by decide) (by decide) ob_43 (by omega) (fun k hk => Or.inr ob_43) (by omega) (fun h9 L9 te9 => ?_))
                        refine v_pop 139 dX12_panel_138 rfl rfl ?_
                        refine v_aload_n 140 dX12_panel_139 rfl rfl ?_
                        refine v_getfr 143 dX12_panel_140 fl_X12_22 (by first | assumption | rfl) (by rfl) rfl ?_
                        rw [show hp_vr h9 40 0 4 = (53, 0) from by rw [(te9 40 (by decide) (by decide)).2.2.2.1]; exact R.1.1.2.2.2.2.1]
                        refine v_iload 145 dX12_panel_143 rfl rfl ?_
                        rw [et] at a49 hq ⊢
                        refine v_invs (d' := 0) (k' := 0) (n' := 0) (k2 := 1) (n2 := 32) 148 [_] dX12_panel_145 mt_X12_134 ms_J6_valueOf_2dffe rfl rfl (of_decide_eq_true rfl) rfl (by decide) rfl rfl rfl rfl (C_J6_valueOf_2dffe (m := tt) (by omega) ?_)
                        refine v_invf (z := ("java/util/ArrayList", TJx4a65c, 3)) (d' := 6) (k' := 1) (n' := 30) (k2 := 0) (n2 := 2) 153 [_] dX12_panel_148 mf_X12_76 md_Jx4a65c_add_9ea2d mi_Jx4a65c_add_9ea2d se_Jx4a65c_add_9ea2d (by simp [g_fw]; rfl) ⟨by decide, by decide +kernel⟩ (by first | assumption | rfl) (by rfl) rfl rfl (of_decide_eq_true rfl) rfl (by decide) rfl rfl rfl rfl (C_add2 (tl := 53) (ta := 59) (n := nn_ S 2) (f := fun k => (4, nn_ S (10 + k) + 128)) rfl rfl (R.2.1.2.2.2.1.te (te9 _ (by decide) (by decide)) (te9 _ (by decide) (by decide)) (te9 _ (by decide) (by decide))) (by decide) (by decide) (by decide) (by decide) (by decide) ob_4 (by omega) (fun k hk => Or.inr ob_4) (by omega) (fun h8 L8 te8 => ?_))
                        refine v_pop 154 dX12_panel_153 rfl rfl ?_
                        refine v_aload_n 155 dX12_panel_154 rfl rfl ?_
                        refine v_getfr 158 dX12_panel_155 fl_X12_19 (by first | assumption | rfl) (by rfl) rfl ?_
                        rw [show hp_vr h8 40 0 3 = (52, 0) from by rw [(te8 40 (by decide) (by decide)).2.2.2.1, (te9 40 (by decide) (by decide)).2.2.2.1]; exact R.1.1.2.2.2.1]
                        refine v_invf (z := ("java/util/ArrayList", TJx4a65c, 3)) (d' := 0) (k' := 0) (n' := 0) (k2 := 0) (n2 := 2) 163 [] dX12_panel_158 mf_X12_38 md_Jx4a65c_size_8abf5 mi_Jx4a65c_size_8abf5 se_Jx4a65c_size_8abf5 (by simp [g_fw]; rfl) ⟨by decide, by decide +kernel⟩ (by first | assumption | rfl) (by rfl) rfl rfl (of_decide_eq_true rfl) rfl (by decide) rfl rfl rfl rfl (C_sz (tl := 52) (ta := 58) rfl rfl (L9.te (te8 _ (by decide) (by decide)) (te8 _ (by decide) (by decide)) (te8 _ (by decide) (by decide))) ?_)
                        refine v_iconstv (v := 1) 164 dX12_panel_163 (by decide) rfl ?_
                        refine v_isub 165 dX12_panel_164 rfl ?_
                        rw [show nI (nn_ S 2 + 1) - 1 = nI (nn_ S 2) from nI_pred _]
                        refine v_ireturn dX12_panel_165 rfl ?_
                        have e9 : op_panel S w d c (nI tt) = (0, nI (nn_ S 2), nw_pan S w d (nI tt * 1) (cl_ (nI tt))) := by unfold op_panel; simp only [eq_true a13, eq_true a25, c37, eq_true a49, g74, eco, ↓reduceIte, and_self, and_true, true_and, and_false, false_and, not_true_eq_false, not_false_eq_true]
                        rw [e9, show cl_ (nI tt) = tt from nI_clamp (by omega)] at hq
                        rw [et] at R te9
                        refine hq _ _ (fun _ => rfl) (R.a2 z2 (fun u u1 u2 u3 u4 => (te9 u u1 u2).tr (te8 u u3 u4)) (L9.te (te8 _ (by decide) (by decide)) (te8 _ (by decide) (by decide)) (te8 _ (by decide) (by decide))) L8) ?_ ?_
                        · rw [(te8 40 (by decide) (by decide)).2.2.1, (te9 40 (by decide) (by decide)).2.2.1]; simp only [vi_i, vi_r, vi_n]; simp; exact e0
                        · exact (((by repeat' first | exact ke_.rf | exact ke0 | refine ke_.tr ?_ (ke_.i (by decide) (by decide)) | refine ke_.tr ?_ (ke_.r (by decide) (by decide)) | refine ke_.tr ?_ (ke_.n (by decide) (by decide))) : ke_ h _).tr (ke_.te te9 (by decide) (by decide))).tr (ke_.te te8 (by decide) (by decide))
                    · first | exact absurd c91 (by decide) | exact absurd rfl c91 | exact absurd (of_decide_eq_true rfl) c91
                  · have g74 : 8 ≤ nn_ S 2 := by have := (nI_eq (a := nn_ S 2) (b := 8) (by omega) (by omega)).mp c79; omega
                    refine v_iconstv (v := 1) 83 dX12_panel_82 (by decide) rfl ?_
                    refine v_goto 87 dX12_panel_83 (by decide) ?_
                    refine v_iconstv (v := 2) 88 dX12_panel_87 (by decide) rfl ?_
                    refine v_invv (d' := 0) (k' := 0) (n' := 0) (k2 := 3) (n2 := 75) 91 [_, _] dX12_panel_88 mt_X12_67 mi_X12_fails me_X12_fails (by first | assumption | rfl) (by rfl) rfl rfl (of_decide_eq_true rfl) rfl (by decide) rfl rfl rfl rfl (C_f1 e0 (by decide) ?_)
                    refine v_if_eq 96 94 dX12_panel_91 (by decide) rfl (fun c91 => ?_) (fun c91 => ?_)
                    · first | exact absurd c91 (by decide) | exact absurd rfl c91 | exact absurd (of_decide_eq_true rfl) c91
                    · refine v_iconstv (v := -1) 95 dX12_panel_94 (by decide) rfl ?_
                      refine v_ireturn dX12_panel_95 rfl ?_
                      have ev : op_panel S w d c t = (2, 0, S) := by unfold op_panel; simp only [eq_true a13, eq_true a25, c37, eq_true a49, g74, ↓reduceIte, and_self, and_true, true_and, and_false, false_and, not_true_eq_false, not_false_eq_true]
                      rw [ev] at hq
                      exact hq _ _ (fun e => absurd e (Nat.succ_ne_zero _)) R.th hp_seti_at (ke0.tr (ke_.i (by decide) (by decide)))
              · first | exact absurd c52 (by decide) | exact absurd rfl c52 | exact absurd (of_decide_eq_true rfl) c52
            · refine v_if_ne 59 55 dX12_panel_52 (by decide) rfl (fun c52 => ?_) (fun c52 => ?_)
              · first | exact absurd c52 (by decide) | exact absurd rfl c52 | exact absurd (of_decide_eq_true rfl) c52
              · refine v_iconstv (v := 1) 56 dX12_panel_55 (by decide) rfl ?_
                refine v_goto 60 dX12_panel_56 (by decide) ?_
                refine v_iconstv (v := 1) 61 dX12_panel_60 (by decide) rfl ?_
                refine v_invv (d' := 0) (k' := 0) (n' := 0) (k2 := 3) (n2 := 75) 64 [_, _] dX12_panel_61 mt_X12_67 mi_X12_fails me_X12_fails (by first | assumption | rfl) (by rfl) rfl rfl (of_decide_eq_true rfl) rfl (by decide) rfl rfl rfl rfl (C_f1 e0 (by decide) ?_)
                refine v_if_ne 94 67 dX12_panel_64 (by decide) rfl (fun c64 => ?_) (fun c64 => ?_)
                · refine v_iconstv (v := -1) 95 dX12_panel_94 (by decide) rfl ?_
                  refine v_ireturn dX12_panel_95 rfl ?_
                  have ev : op_panel S w d c t = (1, 0, S) := by unfold op_panel; simp only [eq_true a13, eq_true a25, c37, b49, ↓reduceIte, and_self, and_true, true_and, and_false, false_and, not_true_eq_false, not_false_eq_true]
                  rw [ev] at hq
                  exact hq _ _ (fun e => absurd e (Nat.succ_ne_zero _)) R.th hp_seti_at (ke0.tr (ke_.i (by decide) (by decide)))
                · first | exact absurd c64 (by decide) | exact absurd rfl c64 | exact absurd (of_decide_eq_true rfl) c64
      · refine v_if_eq 55 31 dX12_panel_28 (by decide) rfl (fun c28 => ?_) (fun c28 => ?_)
        · refine v_iconstv (v := 1) 56 dX12_panel_55 (by decide) rfl ?_
          refine v_goto 60 dX12_panel_56 (by decide) ?_
          refine v_iconstv (v := 1) 61 dX12_panel_60 (by decide) rfl ?_
          refine v_invv (d' := 0) (k' := 0) (n' := 0) (k2 := 3) (n2 := 75) 64 [_, _] dX12_panel_61 mt_X12_67 mi_X12_fails me_X12_fails (by first | assumption | rfl) (by rfl) rfl rfl (of_decide_eq_true rfl) rfl (by decide) rfl rfl rfl rfl (C_f1 e0 (by decide) ?_)
          refine v_if_ne 94 67 dX12_panel_64 (by decide) rfl (fun c64 => ?_) (fun c64 => ?_)
          · refine v_iconstv (v := -1) 95 dX12_panel_94 (by decide) rfl ?_
            refine v_ireturn dX12_panel_95 rfl ?_
            have ev : op_panel S w d c t = (1, 0, S) := by unfold op_panel; simp only [eq_true a13, b25, ↓reduceIte, and_self, and_true, true_and, and_false, false_and, not_true_eq_false, not_false_eq_true]
            rw [ev] at hq
            exact hq _ _ (fun e => absurd e (Nat.succ_ne_zero _)) R.th hp_seti_at (ke0.tr (ke_.i (by decide) (by decide)))
          · first | exact absurd c64 (by decide) | exact absurd rfl c64 | exact absurd (of_decide_eq_true rfl) c64
        · first | exact absurd c28 (by decide) | exact absurd rfl c28 | exact absurd (of_decide_eq_true rfl) c28
  · refine v_if_eq 55 19 dX12_panel_16 (by decide) rfl (fun c16 => ?_) (fun c16 => ?_)
    · refine v_iconstv (v := 1) 56 dX12_panel_55 (by decide) rfl ?_
      refine v_goto 60 dX12_panel_56 (by decide) ?_
      refine v_iconstv (v := 1) 61 dX12_panel_60 (by decide) rfl ?_
      refine v_invv (d' := 0) (k' := 0) (n' := 0) (k2 := 3) (n2 := 75) 64 [_, _] dX12_panel_61 mt_X12_67 mi_X12_fails me_X12_fails (by first | assumption | rfl) (by rfl) rfl rfl (of_decide_eq_true rfl) rfl (by decide) rfl rfl rfl rfl (C_f1 e0 (by decide) ?_)
      refine v_if_ne 94 67 dX12_panel_64 (by decide) rfl (fun c64 => ?_) (fun c64 => ?_)
      · refine v_iconstv (v := -1) 95 dX12_panel_94 (by decide) rfl ?_
        refine v_ireturn dX12_panel_95 rfl ?_
        have ev : op_panel S w d c t = (1, 0, S) := by unfold op_panel; simp only [b13, ↓reduceIte, and_self, and_true, true_and, and_false, false_and, not_true_eq_false, not_false_eq_true]
        rw [ev] at hq
        exact hq _ _ (fun e => absurd e (Nat.succ_ne_zero _)) R.th hp_seti_at (ke0.tr (ke_.i (by decide) (by decide)))
      · first | exact absurd c64 (by decide) | exact absurd rfl c64 | exact absurd (of_decide_eq_true rfl) c64
    · first | exact absurd c16 (by decide) | exact absurd rfl c16 | exact absurd (of_decide_eq_true rfl) c16
