section VVQ2
theorem pt_fn (S : SP) (p s m : Nat) (v : Int32) : hp_vi (dp_ S.1 p s v m) 63 p = pt_ (hp_vi S.1 63 p) s m v := funext (dp_vi S.1 p s v m)
end VVQ2
set_option maxRecDepth 20000 in
theorem C_X12_pieces {G : GW} {h : PH} {Q : RS → PH → Prop} {S : SP} {N : Nat} (R : Rp2 S h) (I : Iv S N) (Fr : fr_s h) {x : Int32} (hq : ∀ v h', ((op_pieces S x).1 = 0 → v = (op_pieces S x).2) → Rp2 S h' → hp_vi h' 40 0 0 = nI (op_pieces S x).1 → ke_ h h' → Q (.inl (some (pv_I v))) h') : VV G 9 129 3137 yX12_pieces cX12_pieces 2 (some .int) [] 0 (vv_en 2 [pv_O (40, 0), pv_I x]) [] h Q := by
  show VV G 9 129 3137 yX12_pieces cX12_pieces 2 (some .int) [] 0 [some (pv_O (40, 0)), some (pv_I x)] [] h Q
  obtain ⟨z0, z1, z2, z3, z4, z5⟩ := I.cs
  refine v_aload_n 1 dX12_pieces_0 rfl rfl ?_
  refine v_invv (d' := 0) (k' := 0) (n' := 0) (k2 := 129) (n2 := 3137) 4 [] dX12_pieces_1 mt_X12_48 mi_X12_begins me_X12_begins (by first | assumption | rfl) (by rfl) rfl rfl (of_decide_eq_true rfl) rfl (by decide) rfl rfl rfl rfl (C2_begins R (fun h0 R e0 ke0 => ?_))
  have Fr := ke0.2 Fr
  refine v_aload_n 5 dX12_pieces_4 rfl rfl ?_
  refine v_iload_n 6 dX12_pieces_5 rfl rfl ?_
  refine v_invv (d' := 4) (k' := 0) (n' := 0) (k2 := 129) (n2 := 3137) 9 [_] dX12_pieces_6 mt_X12_307 mi_X12_noPicture me_X12_noPicture (by first | assumption | rfl) (by rfl) rfl rfl (of_decide_eq_true rfl) rfl (by decide) rfl rfl rfl rfl (C_X12_noPicture R e0 (fun a6 => ?_) (fun b6 => ?_))
  · have hc := a6.cl (by omega)
    obtain ⟨⟨i1, i2, i3, i4, i5, i6, i7⟩, -, -, -, Ip⟩ := I.2.2.2.2.1 _ hc.1
    refine v_if_eq 16 12 dX12_pieces_9 (by decide) rfl (fun c9 => ?_) (fun c9 => ?_)
    · refine v_aload_n 17 dX12_pieces_16 rfl rfl ?_
      refine v_getfr 20 dX12_pieces_17 fl_X12_32 (by first | assumption | rfl) (by rfl) rfl ?_
      rw [R.1.1.2.2.2.2.2.2]
      refine v_iload_n 21 dX12_pieces_20 rfl rfl ?_
      refine v_invf (z := ("java/util/ArrayList", TJx4a65c, 3)) (d' := 2) (k' := 0) (n' := 0) (k2 := 129) (n2 := 3137) 26 [_] dX12_pieces_21 mf_X12_90 md_Jx4a65c_get_915e3 mi_Jx4a65c_get_915e3 se_Jx4a65c_get_915e3 (by simp [g_fw]; rfl) ⟨by decide, by decide +kernel⟩ (by first | assumption | rfl) (by rfl) rfl rfl (of_decide_eq_true rfl) rfl (by decide) rfl rfl rfl rfl (C_gt (tl := 55) (ta := 61) rfl rfl R.2.1.2.2.2.2.2 (by assumption) ?_)
      refine v_cast 29 dX12_pieces_26 ⟨_, _, rfl, rfl, cl_X12_304⟩ rfl ?_
      refine v_invv (d' := 8) (k' := 129) (n' := 3137) (k2 := 0) (n2 := 0) 32 [] dX12_pieces_29 mt_X12_320 mi_X11_pieces me_X11_pieces (by first | assumption | rfl) (by rfl) rfl rfl (of_decide_eq_true rfl) rfl (by decide) rfl rfl rfl rfl (C_X11_pieces R i4 i6 Fr (fun A9 h9 p9 f9 => ?_))
      refine v_invs (d' := 1) (k' := 0) (n' := 0) (k2 := 0) (n2 := 0) 35 [_] dX12_pieces_32 mt_X12_324 ms_X12_most rfl rfl (of_decide_eq_true rfl) rfl (by decide) rfl rfl rfl rfl (C_X12_most rfl p9.1 ?_)
      rw [pr_mo p9 64 (Nat.le_refl _) Ip.1]
      refine v_ireturn dX12_pieces_35 rfl ?_
      have ev : op_pieces S x = (0, nI (nn_ S (20 + cl_ x))) := by unfold op_pieces; simp only [eq_true a6, ↓reduceIte, and_self, and_true, true_and, and_false, false_and, not_true_eq_false, not_false_eq_true]
      rw [ev] at hq
      exact hq _ _ (fun _ => rfl) (f9.R R) (by rw [(f9.1 40 (by decide) (by decide) (by decide)).2.2.1]; exact e0) (ke0.tr f9.ke)
    · first | exact absurd c9 (by decide) | exact absurd rfl c9 | exact absurd (of_decide_eq_true rfl) c9
  · refine v_if_eq 16 12 dX12_pieces_9 (by decide) rfl (fun c9 => ?_) (fun c9 => ?_)
    · first | exact absurd c9 (by decide) | exact absurd rfl c9 | exact absurd (of_decide_eq_true rfl) c9
    · refine v_iconstv (v := -1) 13 dX12_pieces_12 (by decide) rfl ?_
      refine v_goto 35 dX12_pieces_13 (by decide) ?_
      refine v_ireturn dX12_pieces_35 rfl ?_
      have ev : op_pieces S x = (1, 0) := by unfold op_pieces; simp only [b6, ↓reduceIte, and_self, and_true, true_and, and_false, false_and, not_true_eq_false, not_false_eq_true]
      rw [ev] at hq
      exact hq _ _ (fun e => absurd e (Nat.succ_ne_zero _)) R.th hp_seti_at (ke0.tr (ke_.i (by decide) (by decide)))
set_option maxRecDepth 20000 in
theorem L_X12_draw {G : GW} {h0 : PH} {Q : RS → PH → Prop} {S : SP} {N : Nat} (I : Iv S N) {x a c : Int32} {b9 m9 s9 : Nat} (hx : ok_i x (nn_ S 3)) (i4 : hp_vr S.1 44 (cl_ x) 0 = (63, cl_ x)) (i6 : hp_ln S.1 63 (cl_ x) = 64) (hbm : b9 + m9 ≤ 8) (hsm : s9 + m9 ≤ 64) (es : a * 8 + nI b9 = nI s9) (K : ∀ h, Rp2 (dp_ S.1 (cl_ x) s9 (c - 97) m9, S.2) h → hp_vi h 40 0 0 = 0 → ke_ h0 h → VV G 9 129 3137 yX12_draw cX12_draw 7 (some .int) [] 160 [some (pv_O (40, 0)), some (pv_I x), some (pv_I a), some (pv_I (nI b9)), some (pv_I (nI m9)), some (pv_I c), some (pv_I (nI (b9 + m9)))] [] h Q) : ∀ fuel : Nat, ∀ (i : Nat) (h : PH), i ≤ m9 → m9 - i < fuel → Rp2 (dp_ S.1 (cl_ x) s9 (c - 97) i, S.2) h → hp_vi h 40 0 0 = 0 → ke_ h0 h → VV G 9 129 3137 yX12_draw cX12_draw 7 (some .int) [] 116 [some (pv_O (40, 0)), some (pv_I x), some (pv_I a), some (pv_I (nI b9)), some (pv_I (nI m9)), some (pv_I c), some (pv_I (nI (b9 + i)))] [] h Q := by
  intro fuel
  induction fuel with
  | zero =>
    intro i h h1 h2
    omega
  | succ fuel ih =>
    intro i h h1 h2 R e0 keh
    have hc := hx.cl (by have := I.cs; omega)
    refine v_iload 118 dX12_draw_116 rfl rfl ?_
    refine v_iload_n 119 dX12_draw_118 rfl rfl ?_
    refine v_iload 121 dX12_draw_119 rfl rfl ?_
    refine v_iadd 122 dX12_draw_121 rfl ?_
    rw [nI_add]
    refine v_icmp_ge 160 125 dX12_draw_122 (by decide) rfl (fun c122 => ?_) (fun c122 => ?_)
    · have hkm : i = m9 := by
        rcases Nat.lt_or_ge (b9 + i) (b9 + m9) with q | q
        · exact absurd c122 (nI_ge q (by omega))
        · omega
      subst hkm
      exact K _ R e0 keh
    · have hkm : i < m9 := by
        rcases Nat.lt_or_ge (b9 + i) (b9 + m9) with q | q
        · omega
        · exact absurd (nI_le q (by omega)) c122
      refine v_aload_n 126 dX12_draw_125 rfl rfl ?_
      refine v_getfr 129 dX12_draw_126 fl_X12_32 (by first | assumption | rfl) (by rfl) rfl ?_
      rw [R.1.1.2.2.2.2.2.2]
      refine v_iload_n 130 dX12_draw_129 rfl rfl ?_
      refine v_invf (z := ("java/util/ArrayList", TJx4a65c, 3)) (d' := 2) (k' := 0) (n' := 0) (k2 := 129) (n2 := 3137) 135 [_] dX12_draw_130 mf_X12_90 md_Jx4a65c_get_915e3 mi_Jx4a65c_get_915e3 se_Jx4a65c_get_915e3 (by simp [g_fw]; rfl) ⟨by decide, by decide +kernel⟩ (by first | assumption | rfl) (by rfl) rfl rfl (of_decide_eq_true rfl) rfl (by decide) rfl rfl rfl rfl (C_gt (tl := 55) (ta := 61) rfl rfl R.2.1.2.2.2.2.2 hx ?_)
      refine v_cast 138 dX12_draw_135 ⟨_, _, rfl, rfl, cl_X12_304⟩ rfl ?_
      refine v_getfr 141 dX12_draw_138 fl_X12_317 (by first | assumption | rfl) (by rfl) rfl ?_
      rw [R.vr (t := 44) (by decide), (dp_al S.1 (cl_ x) s9 (c - 97) i).2.2, i4]
      refine v_bipushv (v := 8) 143 dX12_draw_141 (by decide) rfl ?_
      refine v_iload_n 144 dX12_draw_143 rfl rfl ?_
      refine v_imul 145 dX12_draw_144 rfl ?_
      rw [Int32.mul_comm]
      refine v_iload 147 dX12_draw_145 rfl rfl ?_
      refine v_iadd 148 dX12_draw_147 rfl ?_
      rw [show a * 8 + nI (b9 + i) = nI (s9 + i) from by rw [← nI_add, ← Int32.add_assoc, es, nI_add]]
      refine v_iload 150 dX12_draw_148 rfl rfl ?_
      refine v_bipushv (v := 97) 152 dX12_draw_150 (by decide) rfl ?_
      refine v_isub 153 dX12_draw_152 rfl ?_
      refine v_iast 154 dX12_draw_153 (by first | assumption | rfl) (by first | assumption | decide) (by rw [R.ln (t := 63) (by decide), (dp_al S.1 (cl_ x) s9 (c - 97) i).2.1, i6]; exact in_nI (by omega) (by omega)) rfl ?_
      rw [nI_clamp (by omega)]
      refine v_iinc 157 dX12_draw_154 rfl (by decide) rfl rfl ?_
      dsimp only [List.set]
      refine v_goto 116 dX12_draw_157 (by decide) ?_
      rw [show nI (b9 + i) + Int32.ofInt 1 = nI (b9 + (i + 1)) from nI_1 (b9 + i)]
      exact ih (i + 1) _ (by omega) (by omega) (R.i (t := 63) (by decide)) ((hp_seti_ne (by simp)).trans e0) (keh.tr (ke_.i (by decide) (by decide)))
set_option maxRecDepth 20000 in
theorem C_X12_draw {G : GW} {h : PH} {Q : RS → PH → Prop} {S : SP} {N : Nat} (R : Rp2 S h) (I : Iv S N) {x a b m c : Int32} {pp ii : Nat} (Fr : fr_s h) (hfd : 0 ≤ c ∧ c ≤ 65535) (hpc : pc_ (pt_ (hp_vi S.1 63 (cl_ x)) (cl_ (a * 8 + b)) (cl_ m) (c - 97)) pp ii) (hq : ∀ v h', ((op_draw S x a b m c pp ii).1 = 0 → v = (op_draw S x a b m c pp ii).2.1) → Rp2 (op_draw S x a b m c pp ii).2.2 h' → hp_vi h' 40 0 0 = nI (op_draw S x a b m c pp ii).1 → ke_ h h' → Q (.inl (some (pv_I v))) h') : VV G 9 129 3137 yX12_draw cX12_draw 7 (some .int) [] 0 (vv_en 7 [pv_O (40, 0), pv_I x, pv_I a, pv_I b, pv_I m, pv_I c]) [] h Q := by
  show VV G 9 129 3137 yX12_draw cX12_draw 7 (some .int) [] 0 [some (pv_O (40, 0)), some (pv_I x), some (pv_I a), some (pv_I b), some (pv_I m), some (pv_I c), none] [] h Q
  obtain ⟨z0, z1, z2, z3, z4, z5⟩ := I.cs
  refine v_aload_n 1 dX12_draw_0 rfl rfl ?_
  refine v_invv (d' := 0) (k' := 0) (n' := 0) (k2 := 129) (n2 := 3137) 4 [] dX12_draw_1 mt_X12_48 mi_X12_begins me_X12_begins (by first | assumption | rfl) (by rfl) rfl rfl (of_decide_eq_true rfl) rfl (by decide) rfl rfl rfl rfl (C2_begins R (fun h0 R e0 ke0 => ?_))
  refine v_aload_n 5 dX12_draw_4 rfl rfl ?_
  refine v_iload_n 6 dX12_draw_5 rfl rfl ?_
  refine v_invv (d' := 4) (k' := 0) (n' := 0) (k2 := 129) (n2 := 3137) 9 [_] dX12_draw_6 mt_X12_307 mi_X12_noPicture me_X12_noPicture (by first | assumption | rfl) (by rfl) rfl rfl (of_decide_eq_true rfl) rfl (by decide) rfl rfl rfl rfl (C_X12_noPicture R e0 (fun a6 => ?_) (fun b6 => ?_))
  · refine v_if_ne 111 12 dX12_draw_9 (by decide) rfl (fun c9 => ?_) (fun c9 => ?_)
    · first | exact absurd c9 (by decide) | exact absurd rfl c9 | exact absurd (of_decide_eq_true rfl) c9
    · refine v_aload_n 13 dX12_draw_12 rfl rfl ?_
      refine v_iload 15 dX12_draw_13 rfl rfl ?_
      refine v_i2l 16 dX12_draw_15 rfl ?_
      refine v_ldc2 19 dX12_draw_16 cn_X12_310 rfl rfl ?_
      refine v_ldc2 22 dX12_draw_19 cn_X12_312 rfl rfl ?_
      refine v_invs (d' := 0) (k' := 0) (n' := 0) (k2 := 129) (n2 := 3137) 25 [_, _, _] dX12_draw_22 mt_X12_44 ms_X12_in rfl rfl (of_decide_eq_true rfl) rfl (by decide) rfl rfl rfl rfl (C_in2 (lo := 97) (hi := 104) rfl (by decide) (by decide) (fun a22 => ?_) (fun b22 => ?_))
      · have a99 := (fd_ hfd).mp a22
        refine v_if_eq 67 28 dX12_draw_25 (by decide) rfl (fun c25 => ?_) (fun c25 => ?_)
        · first | exact absurd c25 (by decide) | exact absurd rfl c25 | exact absurd (of_decide_eq_true rfl) c25
        · refine v_iload_n 29 dX12_draw_28 rfl rfl ?_
          refine v_i2l 30 dX12_draw_29 rfl ?_
          refine v_lconst (v := 0) 31 dX12_draw_30 (by decide) rfl ?_
          refine v_ldc2 34 dX12_draw_31 cn_X12_302 rfl rfl ?_
          refine v_invs (d' := 0) (k' := 0) (n' := 0) (k2 := 129) (n2 := 3137) 37 [_, _, _] dX12_draw_34 mt_X12_44 ms_X12_in rfl rfl (of_decide_eq_true rfl) rfl (by decide) rfl rfl rfl rfl (C_in2 (lo := 0) (hi := 7) rfl (by decide) (by decide) (fun a34 => ?_) (fun b34 => ?_))
          · refine v_if_eq 67 40 dX12_draw_37 (by decide) rfl (fun c37 => ?_) (fun c37 => ?_)
            · first | exact absurd c37 (by decide) | exact absurd rfl c37 | exact absurd (of_decide_eq_true rfl) c37
            · refine v_iload_n 41 dX12_draw_40 rfl rfl ?_
              refine v_i2l 42 dX12_draw_41 rfl ?_
              refine v_lconst (v := 0) 43 dX12_draw_42 (by decide) rfl ?_
              refine v_ldc2 46 dX12_draw_43 cn_X12_302 rfl rfl ?_
              refine v_invs (d' := 0) (k' := 0) (n' := 0) (k2 := 129) (n2 := 3137) 49 [_, _, _] dX12_draw_46 mt_X12_44 ms_X12_in rfl rfl (of_decide_eq_true rfl) rfl (by decide) rfl rfl rfl rfl (C_in2 (lo := 0) (hi := 7) rfl (by decide) (by decide) (fun a46 => ?_) (fun b46 => ?_))
              · refine v_if_eq 67 52 dX12_draw_49 (by decide) rfl (fun c49 => ?_) (fun c49 => ?_)
                · first | exact absurd c49 (by decide) | exact absurd rfl c49 | exact absurd (of_decide_eq_true rfl) c49
                · refine v_iload 54 dX12_draw_52 rfl rfl ?_
                  refine v_i2l 55 dX12_draw_54 rfl ?_
                  refine v_lconst (v := 1) 56 dX12_draw_55 (by decide) rfl ?_
                  refine v_bipushv (v := 8) 58 dX12_draw_56 (by decide) rfl ?_
                  refine v_iload_n 59 dX12_draw_58 rfl rfl ?_
                  refine v_isub 60 dX12_draw_59 rfl ?_
                  refine v_i2l 61 dX12_draw_60 rfl ?_
                  refine v_invs (d' := 0) (k' := 0) (n' := 0) (k2 := 129) (n2 := 3137) 64 [_, _, _] dX12_draw_61 mt_X12_44 ms_X12_in rfl rfl (of_decide_eq_true rfl) rfl (by decide) rfl rfl rfl rfl (C_in2 (lo := 1) (hi := 8 - b) rfl (by decide) rfl (fun a61 => ?_) (fun b61 => ?_))
                  · refine v_if_ne 71 67 dX12_draw_64 (by decide) rfl (fun c64 => ?_) (fun c64 => ?_)
                    · refine v_iconstv (v := 0) 72 dX12_draw_71 (by decide) rfl ?_
                      refine v_iconstv (v := 2) 73 dX12_draw_72 (by decide) rfl ?_
                      refine v_invv (d' := 0) (k' := 0) (n' := 0) (k2 := 129) (n2 := 3137) 76 [_, _] dX12_draw_73 mt_X12_67 mi_X12_fails me_X12_fails (by first | assumption | rfl) (by rfl) rfl rfl (of_decide_eq_true rfl) rfl (by decide) rfl rfl rfl rfl (C_f0 e0 ?_)
                      refine v_if_ne 111 79 dX12_draw_76 (by decide) rfl (fun c76 => ?_) (fun c76 => ?_)
                      · first | exact absurd c76 (by decide) | exact absurd rfl c76 | exact absurd (of_decide_eq_true rfl) c76
                      · refine v_aload_n 80 dX12_draw_79 rfl rfl ?_
                        refine v_aload_n 81 dX12_draw_80 rfl rfl ?_
                        refine v_getfr 84 dX12_draw_81 fl_X12_32 (by first | assumption | rfl) (by rfl) rfl ?_
                        rw [R.1.1.2.2.2.2.2.2]
                        refine v_iload_n 85 dX12_draw_84 rfl rfl ?_
                        refine v_invf (z := ("java/util/ArrayList", TJx4a65c, 3)) (d' := 2) (k' := 0) (n' := 0) (k2 := 129) (n2 := 3137) 90 [_] dX12_draw_85 mf_X12_90 md_Jx4a65c_get_915e3 mi_Jx4a65c_get_915e3 se_Jx4a65c_get_915e3 (by simp [g_fw]; rfl) ⟨by decide, by decide +kernel⟩ (by first | assumption | rfl) (by rfl) rfl rfl (of_decide_eq_true rfl) rfl (by decide) rfl rfl rfl rfl (C_gt (tl := 55) (ta := 61) rfl rfl R.2.1.2.2.2.2.2 a6 ?_)
                        refine v_cast 93 dX12_draw_90 ⟨_, _, rfl, rfl, cl_X12_304⟩ rfl ?_
                        refine v_getfr 96 dX12_draw_93 fl_X12_314 (by first | assumption | rfl) (by rfl) rfl ?_
                        rw [R.vr (t := 44) (by decide)]
                        refine v_ifnull 103 99 dX12_draw_96 (by decide) rfl (fun c96 => ?_) (fun c96 => ?_)
                        · refine v_iconstv (v := 0) 104 dX12_draw_103 (by decide) rfl ?_
                          refine v_iconstv (v := 3) 105 dX12_draw_104 (by decide) rfl ?_
                          refine v_invv (d' := 0) (k' := 0) (n' := 0) (k2 := 129) (n2 := 3137) 108 [_, _] dX12_draw_105 mt_X12_67 mi_X12_fails me_X12_fails (by first | assumption | rfl) (by rfl) rfl rfl (of_decide_eq_true rfl) rfl (by decide) rfl rfl rfl rfl (C_f0 e0 ?_)
                          refine v_if_eq 113 111 dX12_draw_108 (by decide) rfl (fun c108 => ?_) (fun c108 => ?_)
                          · refine v_iload_n 114 dX12_draw_113 rfl rfl ?_
                            refine v_istore 116 dX12_draw_114 (by decide) rfl rfl ?_
                            dsimp only [List.set]
                            have hc := a6.cl (by omega)
                            obtain ⟨⟨i1, i2, i3, i4, i5, i6, i7⟩, -⟩ := I.2.2.2.2.1 _ hc.1
                            have ev : op_draw S x a b m c pp ii = (0, nI pp, dw_ S (cl_ x) (cl_ (a * 8 + b)) (cl_ m) (c - 97) pp ii) := by unfold op_draw; simp only [eq_true a6, eq_true a22, eq_true a99, eq_true a34, eq_true a46, eq_true a61, c96, ↓reduceIte, and_self, and_true, true_and, and_false, false_and, not_true_eq_false, not_false_eq_true]
                            rw [ev] at hq
                            obtain ⟨s9, hs9, ek, ec⟩ := pl_ ⟨a34, a46⟩
                            obtain ⟨b9, hb9, rfl⟩ := i8_ a46
                            obtain ⟨d9, hd9, rfl⟩ := i8_ a34
                            have m8 := (m8_ a46).mpr a61
                            obtain ⟨m9, hm9, rfl⟩ := nx_of (x := m) (n := 8) m8.1.1 m8.1.2
                            have hbm : b9 + m9 ≤ 8 := by
                              have h1 := m8.2
                              rw [nI_add] at h1
                              exact (nI_leI (a := b9 + m9) (b := 8) (by omega) (by decide)).mp h1
                            have hsm : s9 + m9 ≤ 64 := by
                              have h1 := ek
                              rw [show nI d9 * 8 = nI (d9 * 8) from pk_mul d9 8, nI_add] at h1
                              have h3 := (nI_eq (by omega) (by omega)).mp h1
                              omega
                            have em : cl_ (nI m9) = m9 := nI_clamp (by omega)
                            rw [ec, em] at hq hpc
                            refine L_X12_draw (h0 := h0) I a6 i4 i6 hbm hsm ek (fun h R e9 ke9 => ?_) (m9 + 1) 0 h0 (Nat.zero_le _) (by omega) R e0 ke_.rf
                            refine v_aload_n 161 dX12_draw_160 rfl rfl ?_
                            refine v_getfr 164 dX12_draw_161 fl_X12_32 (by first | assumption | rfl) (by rfl) rfl ?_
                            rw [R.1.1.2.2.2.2.2.2]
                            refine v_iload_n 165 dX12_draw_164 rfl rfl ?_
                            refine v_invf (z := ("java/util/ArrayList", TJx4a65c, 3)) (d' := 2) (k' := 0) (n' := 0) (k2 := 129) (n2 := 3137) 170 [_] dX12_draw_165 mf_X12_90 md_Jx4a65c_get_915e3 mi_Jx4a65c_get_915e3 se_Jx4a65c_get_915e3 (by simp [g_fw]; rfl) ⟨by decide, by decide +kernel⟩ (by first | assumption | rfl) (by rfl) rfl rfl (of_decide_eq_true rfl) rfl (by decide) rfl rfl rfl rfl (C_gt (tl := 55) (ta := 61) rfl rfl R.2.1.2.2.2.2.2 a6 ?_)
                            refine v_cast 173 dX12_draw_170 ⟨_, _, rfl, rfl, cl_X12_304⟩ rfl ?_
                            refine v_invv (d' := 8) (k' := 129) (n' := 3137) (k2 := 0) (n2 := 0) 176 [] dX12_draw_173 mt_X12_320 mi_X11_pieces me_X11_pieces (by first | assumption | rfl) (by rfl) rfl rfl (of_decide_eq_true rfl) rfl (by decide) rfl rfl rfl rfl (C_X11_pieces R (by rw [(dp_al S.1 (cl_ x) s9 (c - 97) m9).2.2]; exact i4) (by rw [(dp_al S.1 (cl_ x) s9 (c - 97) m9).2.1]; exact i6) (ke9.2 (ke0.2 Fr)) (fun A9 h9 p9 f9 => ?_))
                            rw [pt_fn] at p9
                            refine v_invs (d' := 1) (k' := 0) (n' := 0) (k2 := 0) (n2 := 0) 179 [_] dX12_draw_176 mt_X12_324 ms_X12_most rfl rfl (of_decide_eq_true rfl) rfl (by decide) rfl rfl rfl rfl (C_X12_most rfl p9.1 ?_)
                            rw [pr_mo p9 64 (Nat.le_refl _) hpc.1]
                            refine v_ireturn dX12_draw_179 rfl ?_
                            exact hq _ _ (fun _ => rfl) ((f9.R R).cu z2 (fun j hj => (c_ne (by omega)).trans (c_ne (by omega)))) (by rw [(f9.1 40 (by decide) (by decide) (by decide)).2.2.1]; exact e9) ((ke0.tr ke9).tr f9.ke)
                          · first | exact absurd c108 (by decide) | exact absurd rfl c108 | exact absurd (of_decide_eq_true rfl) c108
                        · refine v_iconstv (v := 1) 100 dX12_draw_99 (by decide) rfl ?_
                          refine v_goto 104 dX12_draw_100 (by decide) ?_
                          refine v_iconstv (v := 3) 105 dX12_draw_104 (by decide) rfl ?_
                          refine v_invv (d' := 0) (k' := 0) (n' := 0) (k2 := 129) (n2 := 3137) 108 [_, _] dX12_draw_105 mt_X12_67 mi_X12_fails me_X12_fails (by first | assumption | rfl) (by rfl) rfl rfl (of_decide_eq_true rfl) rfl (by decide) rfl rfl rfl rfl (C_f1 e0 (by decide) ?_)
                          refine v_if_eq 113 111 dX12_draw_108 (by decide) rfl (fun c108 => ?_) (fun c108 => ?_)
                          · first | exact absurd c108 (by decide) | exact absurd rfl c108 | exact absurd (of_decide_eq_true rfl) c108
                          · refine v_iconstv (v := -1) 112 dX12_draw_111 (by decide) rfl ?_
                            refine v_ireturn dX12_draw_112 rfl ?_
                            have ev : op_draw S x a b m c pp ii = (3, 0, S) := by unfold op_draw; simp only [eq_true a6, eq_true a22, eq_true a99, eq_true a34, eq_true a46, eq_true a61, c96, ↓reduceIte, and_self, and_true, true_and, and_false, false_and, not_true_eq_false, not_false_eq_true]
                            rw [ev] at hq
                            exact hq _ _ (fun e => absurd e (Nat.succ_ne_zero _)) R.th hp_seti_at (ke0.tr (ke_.i (by decide) (by decide)))
                    · first | exact absurd c64 (by decide) | exact absurd rfl c64 | exact absurd (of_decide_eq_true rfl) c64
                  · refine v_if_ne 71 67 dX12_draw_64 (by decide) rfl (fun c64 => ?_) (fun c64 => ?_)
                    · first | exact absurd c64 (by decide) | exact absurd rfl c64 | exact absurd (of_decide_eq_true rfl) c64
                    · refine v_iconstv (v := 1) 68 dX12_draw_67 (by decide) rfl ?_
                      refine v_goto 72 dX12_draw_68 (by decide) ?_
                      refine v_iconstv (v := 2) 73 dX12_draw_72 (by decide) rfl ?_
                      refine v_invv (d' := 0) (k' := 0) (n' := 0) (k2 := 129) (n2 := 3137) 76 [_, _] dX12_draw_73 mt_X12_67 mi_X12_fails me_X12_fails (by first | assumption | rfl) (by rfl) rfl rfl (of_decide_eq_true rfl) rfl (by decide) rfl rfl rfl rfl (C_f1 e0 (by decide) ?_)
                      refine v_if_ne 111 79 dX12_draw_76 (by decide) rfl (fun c76 => ?_) (fun c76 => ?_)
                      · refine v_iconstv (v := -1) 112 dX12_draw_111 (by decide) rfl ?_
                        refine v_ireturn dX12_draw_112 rfl ?_
                        have ev : op_draw S x a b m c pp ii = (2, 0, S) := by unfold op_draw; simp only [eq_true a6, eq_true a22, eq_true a99, eq_true a34, eq_true a46, b61, ↓reduceIte, and_self, and_true, true_and, and_false, false_and, not_true_eq_false, not_false_eq_true]
                        rw [ev] at hq
                        exact hq _ _ (fun e => absurd e (Nat.succ_ne_zero _)) R.th hp_seti_at (ke0.tr (ke_.i (by decide) (by decide)))
                      · first | exact absurd c76 (by decide) | exact absurd rfl c76 | exact absurd (of_decide_eq_true rfl) c76
              · refine v_if_eq 67 52 dX12_draw_49 (by decide) rfl (fun c49 => ?_) (fun c49 => ?_)
                · refine v_iconstv (v := 1) 68 dX12_draw_67 (by decide) rfl ?_
                  refine v_goto 72 dX12_draw_68 (by decide) ?_
                  refine v_iconstv (v := 2) 73 dX12_draw_72 (by decide) rfl ?_
                  refine v_invv (d' := 0) (k' := 0) (n' := 0) (k2 := 129) (n2 := 3137) 76 [_, _] dX12_draw_73 mt_X12_67 mi_X12_fails me_X12_fails (by first | assumption | rfl) (by rfl) rfl rfl (of_decide_eq_true rfl) rfl (by decide) rfl rfl rfl rfl (C_f1 e0 (by decide) ?_)
                  refine v_if_ne 111 79 dX12_draw_76 (by decide) rfl (fun c76 => ?_) (fun c76 => ?_)
                  · refine v_iconstv (v := -1) 112 dX12_draw_111 (by decide) rfl ?_
                    refine v_ireturn dX12_draw_112 rfl ?_
                    have ev : op_draw S x a b m c pp ii = (2, 0, S) := by unfold op_draw; simp only [eq_true a6, eq_true a22, eq_true a99, eq_true a34, b46, ↓reduceIte, and_self, and_true, true_and, and_false, false_and, not_true_eq_false, not_false_eq_true]
                    rw [ev] at hq
                    exact hq _ _ (fun e => absurd e (Nat.succ_ne_zero _)) R.th hp_seti_at (ke0.tr (ke_.i (by decide) (by decide)))
                  · first | exact absurd c76 (by decide) | exact absurd rfl c76 | exact absurd (of_decide_eq_true rfl) c76
                · first | exact absurd c49 (by decide) | exact absurd rfl c49 | exact absurd (of_decide_eq_true rfl) c49
          · refine v_if_eq 67 40 dX12_draw_37 (by decide) rfl (fun c37 => ?_) (fun c37 => ?_)
            · refine v_iconstv (v := 1) 68 dX12_draw_67 (by decide) rfl ?_
              refine v_goto 72 dX12_draw_68 (by decide) ?_
              refine v_iconstv (v := 2) 73 dX12_draw_72 (by decide) rfl ?_
              refine v_invv (d' := 0) (k' := 0) (n' := 0) (k2 := 129) (n2 := 3137) 76 [_, _] dX12_draw_73 mt_X12_67 mi_X12_fails me_X12_fails (by first | assumption | rfl) (by rfl) rfl rfl (of_decide_eq_true rfl) rfl (by decide) rfl rfl rfl rfl (C_f1 e0 (by decide) ?_)
              refine v_if_ne 111 79 dX12_draw_76 (by decide) rfl (fun c76 => ?_) (fun c76 => ?_)
              · refine v_iconstv (v := -1) 112 dX12_draw_111 (by decide) rfl ?_
                refine v_ireturn dX12_draw_112 rfl ?_
                have ev : op_draw S x a b m c pp ii = (2, 0, S) := by unfold op_draw; simp only [eq_true a6, eq_true a22, eq_true a99, b34, ↓reduceIte, and_self, and_true, true_and, and_false, false_and, not_true_eq_false, not_false_eq_true]
                rw [ev] at hq
                exact hq _ _ (fun e => absurd e (Nat.succ_ne_zero _)) R.th hp_seti_at (ke0.tr (ke_.i (by decide) (by decide)))
              · first | exact absurd c76 (by decide) | exact absurd rfl c76 | exact absurd (of_decide_eq_true rfl) c76
            · first | exact absurd c37 (by decide) | exact absurd rfl c37 | exact absurd (of_decide_eq_true rfl) c37
      · have b99 : ¬ (0 ≤ c - 97 ∧ c - 97 ≤ 7) := fun q => b22 ((fd_ hfd).mpr q)
        refine v_if_eq 67 28 dX12_draw_25 (by decide) rfl (fun c25 => ?_) (fun c25 => ?_)
        · refine v_iconstv (v := 1) 68 dX12_draw_67 (by decide) rfl ?_
          refine v_goto 72 dX12_draw_68 (by decide) ?_
          refine v_iconstv (v := 2) 73 dX12_draw_72 (by decide) rfl ?_
          refine v_invv (d' := 0) (k' := 0) (n' := 0) (k2 := 129) (n2 := 3137) 76 [_, _] dX12_draw_73 mt_X12_67 mi_X12_fails me_X12_fails (by first | assumption | rfl) (by rfl) rfl rfl (of_decide_eq_true rfl) rfl (by decide) rfl rfl rfl rfl (C_f1 e0 (by decide) ?_)
          refine v_if_ne 111 79 dX12_draw_76 (by decide) rfl (fun c76 => ?_) (fun c76 => ?_)
          · refine v_iconstv (v := -1) 112 dX12_draw_111 (by decide) rfl ?_
            refine v_ireturn dX12_draw_112 rfl ?_
            have ev : op_draw S x a b m c pp ii = (2, 0, S) := by unfold op_draw; simp only [eq_true a6, b22, b99, ↓reduceIte, and_self, and_true, true_and, and_false, false_and, not_true_eq_false, not_false_eq_true]
            rw [ev] at hq
            exact hq _ _ (fun e => absurd e (Nat.succ_ne_zero _)) R.th hp_seti_at (ke0.tr (ke_.i (by decide) (by decide)))
          · first | exact absurd c76 (by decide) | exact absurd rfl c76 | exact absurd (of_decide_eq_true rfl) c76
        · first | exact absurd c25 (by decide) | exact absurd rfl c25 | exact absurd (of_decide_eq_true rfl) c25
  · refine v_if_ne 111 12 dX12_draw_9 (by decide) rfl (fun c9 => ?_) (fun c9 => ?_)
    · refine v_iconstv (v := -1) 112 dX12_draw_111 (by decide) rfl ?_
      refine v_ireturn dX12_draw_112 rfl ?_
      have ev : op_draw S x a b m c pp ii = (1, 0, S) := by unfold op_draw; simp only [b6, ↓reduceIte, and_self, and_true, true_and, and_false, false_and, not_true_eq_false, not_false_eq_true]
      rw [ev] at hq
      exact hq _ _ (fun e => absurd e (Nat.succ_ne_zero _)) R.th hp_seti_at (ke0.tr (ke_.i (by decide) (by decide)))
    · first | exact absurd c9 (by decide) | exact absurd rfl c9 | exact absurd (of_decide_eq_true rfl) c9
section VVQ3
variable {F : Nat → Int32} {h : PH} {A : Nat}
/-- places of the t-th piece -/
theorem pr_cn (p9 : pr_ F h A) {a t : Nat} (ha : st_ F a) (hct : ct_ (st_ F) a t) (ha6 : a < 64) {z : Nat} (hz : z < 64) : hp_vi h 72 A z = nI t ↔ cn_ F a z := by
  obtain ⟨b, u, h1, h2, h3, h4, h5⟩ := p9.2 z hz
  have hu := ct_le b h3
  have ht := ct_le a hct
  rw [h5]
  constructor
  · intro e
    have e9 : u = t := (nI_eq (by omega) (by omega)).mp e
    subst e9
    have hab : a = b := by
      rcases Nat.lt_trichotomy a b with w | w | w
      · have := ct_up (a := a + 1) (t := u + 1) ⟨u, hct, Or.inl ⟨ha, rfl⟩⟩ b (by omega) h3
        omega
      · exact w
      · have := ct_up (a := b + 1) (t := u + 1) ⟨u, h3, Or.inl ⟨h2, rfl⟩⟩ a (by omega) hct
        omega
    rw [hab]
    exact h4
  · intro hc
    have h7 := cn_tr hc (cn_sy h4)
    have hab : a = b := Nat.le_antisymm (st_le ha h7) (st_le h2 (cn_sy h7))
    subst hab
    rw [ct_fn a hct h3]
theorem ct_nx {P : Nat → Prop} : ∀ n {k t r : Nat}, k ≤ n → ct_ P k t → ct_ P n r → t < r → ∃ a, k ≤ a ∧ a < n ∧ P a ∧ ct_ P a t ∧ ∀ j, k ≤ j → j < a → ¬ P j
  | 0, k, t, r, hk, h1, h2, h3 => by
    obtain rfl : k = 0 := by omega
    have := ct_fn 0 h1 h2
    omega
  | n + 1, k, t, r, hk, h1, ⟨b, hb, hx⟩, h3 => by
    by_cases e : k = n + 1
    · subst e
      have := ct_fn _ h1 ⟨b, hb, hx⟩
      omega
    · rcases Nat.lt_or_ge t b with w | w
      · obtain ⟨a, a1, a2, a3⟩ := ct_nx n (by omega) h1 hb w
        exact ⟨a, a1, by omega, a3⟩
      · have h4 := ct_up h1 n (by omega) hb
        have e9 : b = t := by omega
        subst e9
        rcases hx with ⟨x, y⟩ | ⟨x, y⟩
        · refine ⟨n, by omega, by omega, x, hb, fun j j1 j2 pj => ?_⟩
          have h5 := ct_up h1 j j1 (Classical.choose_spec (ct_ex P j))
          have h6 := ct_up (a := j + 1) ⟨_, Classical.choose_spec (ct_ex P j), Or.inl ⟨pj, rfl⟩⟩ n (by omega) hb
          omega
        · omega
theorem ct_sk {P : Nat → Prop} {k t : Nat} (h : ct_ P k t) : ∀ d, (∀ j, k ≤ j → j < k + d → ¬ P j) → ct_ P (k + d) t
  | 0, _ => h
  | d + 1, hn => ⟨t, ct_sk h d (fun j j1 j2 => hn j j1 (by omega)), Or.inr ⟨hn (k + d) (by omega) (by omega), rfl⟩⟩
/-- pieces looked at, and islands among them -/
def pq_s (F : Nat → Int32) (t n : Nat) : Prop := ∃ k, k ≤ 64 ∧ ct_ (st_ F) k t ∧ ct_ (fun z => st_ F z ∧ is_l F z) k n
theorem pq_s.e {t n pp ii : Nat} (h : pq_s F t n) (hp : pc_ F pp ii) (e : t = pp) : n = ii := by
  subst e
  obtain ⟨k, hk, h1, h2⟩ := h
  have hno : ∀ j, k ≤ j → j < k + (64 - k) → ¬ st_ F j := fun j j1 j2 pj => by
    have h5 := ct_up h1 j j1 (Classical.choose_spec (ct_ex (st_ F) j))
    have h6 := ct_up (a := j + 1) ⟨_, Classical.choose_spec (ct_ex (st_ F) j), Or.inl ⟨pj, rfl⟩⟩ 64 (by omega) hp.1
    omega
  have h3 := ct_sk h2 (64 - k) (fun j j1 j2 q => hno j j1 j2 q.1)
  rw [show k + (64 - k) = 64 by omega] at h3
  exact ct_fn 64 h3 hp.2
theorem pq_s.nx {t n pp ii : Nat} (h : pq_s F t n) (hp : pc_ F pp ii) (e : t < pp) : ∃ a, a < 64 ∧ st_ F a ∧ ct_ (st_ F) a t ∧ (is_l F a → pq_s F (t + 1) (n + 1)) ∧ (¬ is_l F a → pq_s F (t + 1) n) := by
  obtain ⟨k, hk, h1, h2⟩ := h
  obtain ⟨a, a1, a2, a3, a4, a5⟩ := ct_nx 64 hk h1 hp.1 e
  have h3 := ct_sk h2 (a - k) (fun j j1 j2 q => a5 j j1 (by omega) q.1)
  rw [show k + (a - k) = a by omega] at h3
  exact ⟨a, a2, a3, a4, fun w => ⟨a + 1, by omega, ⟨t, a4, Or.inl ⟨a3, rfl⟩⟩, ⟨n, h3, Or.inl ⟨⟨a3, w⟩, rfl⟩⟩⟩, fun w => ⟨a + 1, by omega, ⟨t, a4, Or.inl ⟨a3, rfl⟩⟩, ⟨n, h3, Or.inr ⟨fun y => w y.2, rfl⟩⟩⟩⟩
/-- the pairs looked at -/
def dm_ (F : Nat → Int32) (a k d : Nat) (k' d' : Nat) : Prop := cn_ F a k' ∧ d' < 4 ∧ (k' < k ∨ (k' = k ∧ d' < d))
theorem dm_s {a k d : Nat} (hc : cn_ F a k) (hd : d < 4) (k' d' : Nat) : (dm_ F a k d k' d' ∨ (k' = k ∧ d' = d)) ↔ dm_ F a k (d + 1) k' d' := by
  constructor
  · rintro (⟨h1, h2, h3⟩ | ⟨rfl, rfl⟩)
    · exact ⟨h1, h2, by omega⟩
    · exact ⟨hc, hd, by omega⟩
  · rintro ⟨h1, h2, h3⟩
    by_cases w : k' = k ∧ d' = d
    · exact Or.inr w
    · exact Or.inl ⟨h1, h2, by omega⟩
theorem dm_n {a k : Nat} (k' d' : Nat) : dm_ F a k 4 k' d' ↔ dm_ F a (k + 1) 0 k' d' := by
  constructor
  · rintro ⟨h1, h2, h3⟩; exact ⟨h1, h2, by omega⟩
  · rintro ⟨h1, h2, h3⟩; exact ⟨h1, h2, by omega⟩
theorem dm_o {a k d : Nat} (hc : ¬ cn_ F a k) (k' d' : Nat) : dm_ F a k d k' d' ↔ dm_ F a (k + 1) 0 k' d' := by
  constructor
  · rintro ⟨h1, h2, h3⟩
    rcases h3 with h3 | ⟨rfl, h3⟩
    · exact ⟨h1, h2, by omega⟩
    · exact absurd h1 hc
  · rintro ⟨h1, h2, h3⟩
    refine ⟨h1, h2, Or.inl ?_⟩
    rcases Nat.lt_or_ge k' k with w | w
    · exact w
    · obtain rfl : k' = k := by omega
      exact absurd h1 hc
theorem dm_e {a : Nat} (ha : a < 64) (k' d' : Nat) : dm_ F a 64 0 k' d' ↔ (cn_ F a k' ∧ d' < 4) := by
  constructor
  · rintro ⟨h1, h2, h3⟩; exact ⟨h1, h2⟩
  · rintro ⟨h1, h2⟩; exact ⟨h1, h2, Or.inl (cn_64 h1 ha)⟩
/-- an island so far, or none -/
def iw_ (F : Nat → Int32) (a k d : Nat) (is : Int32) (ar : Int32) : Prop := (is = 1 ∧ ip_ F nr_ a (dm_ F a k d) ar) ∨ (is = 0 ∧ ¬ is_l F a)
end VVQ3
