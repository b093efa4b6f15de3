section VVR9
/-- a laid packet made -/
def ld_ (S : SP) (u p f : Nat) (a m : Int32) : SP := (hp_seti (hp_seti (hp_setr (hp_new S.1 u p 0) u p 0 (42, f)) u p 1 a) u p 2 m, S.2)
theorem ld_te (S : SP) (u p f : Nat) (a m : Int32) {t : Nat} (ht : ¬ t = u) : hp_te S.1 (ld_ S u p f a m).1 t := (((hp_te.n ht).tr (hp_te.r ht)).tr (hp_te.i ht)).tr (hp_te.i ht)
theorem ld_v (S : SP) (u p f : Nat) (a m : Int32) : hp_vr (ld_ S u p f a m).1 u p 0 = (42, f) ∧ hp_vi (ld_ S u p f a m).1 u p 1 = a ∧ hp_vi (ld_ S u p f a m).1 u p 2 = m := ⟨hp_setr_at, (hp_seti_ne (by simp)).trans hp_seti_at, hp_seti_at⟩
/-- a face's fields put -/
def gf_ (S : SP) (p : Nat) (j v : Int32) : SP := (hp_seti (hp_seti (hp_setr S.1 43 p 3 (46, p)) 43 p 5 j) 40 0 7 v, S.2)
theorem gf_sv (S : SP) (p f l : Nat) (j v : Int32) : sv_ (gf_ S p j v) f l = gf_ (sv_ S f l) p j v := by
  unfold sv_ gf_
  dsimp only
  rw [hp_ii (t := 40) (t' := 62) (by omega), hp_ii (t := 43) (t' := 62) (by omega), hp_ri]
theorem gf_su (S : SP) (p f a : Nat) (j v : Int32) : ∀ k, su_ (gf_ S p j v) f a k = gf_ (su_ S f a k) p j v
  | 0 => rfl
  | k + 1 => by
    show sv_ (su_ (gf_ S p j v) f a k) f (a + k) = gf_ (sv_ (su_ S f a k) f (a + k)) p j v
    rw [gf_su S p f a j v k, gf_sv]
theorem gf_oc (S : SP) (p : Nat) (j v w d : Int32) : oc_up (gf_ S p j v) w d = gf_ (oc_up S w d) p j v := by
  unfold oc_up gf_ nn_
  dsimp only
  rw [hp_ri, hp_ri, hp_rn (t := 45) (t' := 43) (by omega), hp_ii (t := 45) (t' := 43) (by omega), hp_ii (t := 45) (t' := 43) (by omega), hp_in (t := 45) (t' := 43) (by omega), hp_ii (t := 45) (t' := 40) (by omega), hp_ii (t := 45) (t' := 40) (by omega), hp_in (t := 45) (t' := 40) (by omega)]
theorem gf_te (S : SP) (p : Nat) (j v : Int32) {t : Nat} (h1 : ¬ t = 43) (h2 : ¬ t = 40) : hp_te S.1 (gf_ S p j v).1 t := ((hp_te.r h1).tr (hp_te.i h1)).tr (hp_te.i h2)
theorem gf_ls (S : SP) (p f a : Nat) (j v st ht r0 : Int32) : ∀ k, ls_ (gf_ S p j v) f a st ht r0 k = (gf_ (ls_ S f a st ht r0 k).1 p j v, (ls_ S f a st ht r0 k).2)
  | 0 => rfl
  | k + 1 => by
    have e : s_w (gf_ S p j v) f (nI (a + k)) = s_w S f (nI (a + k)) := (s_w_te (gf_te S p j v (by decide) (by decide)) (gf_te S p j v (by decide) (by decide))).1
    unfold ls_
    rw [e, gf_ls S p f a j v st ht r0 k]
    by_cases q : 50 ≤ s_w S f (nI (a + k)) - st
    · rw [if_pos q, if_pos q, gf_oc]
    · rw [if_neg q, if_neg q]
theorem gf_sm (S : SP) (p f a : Nat) (j v : Int32) : ∀ k, sm_a (gf_ S p j v) f a k = sm_a S f a k
  | 0 => rfl
  | k + 1 => by
    show sm_a (gf_ S p j v) f a k + s_a (gf_ S p j v) f (nI (a + k)) = sm_a S f a k + s_a S f (nI (a + k))
    rw [gf_sm S p f a j v k, (s_w_te (gf_te S p j v (t := 41) (by decide) (by decide)) (gf_te S p j v (t := 42) (by decide) (by decide))).2.2.1]
theorem gf_43 (S : SP) (p : Nat) (j v : Int32) {k : Nat} (hk : ¬ k = 5) : hp_vi (gf_ S p j v).1 43 p k = hp_vi S.1 43 p k := (hp_seti_ne (by simp)).trans (hp_seti_ne (by simp [hk]))
theorem gf_ly (S : SP) (p f a m : Nat) (j v : Int32) : ly_ (gf_ S p j v) p f a m = (gf_ (ly_ S p f a m).1 p j v, (ly_ S p f a m).2) := by
  unfold ly_
  rw [gf_su, gf_sm, gf_43 S p j v (k := 0) (by decide), gf_43 S p j v (k := 1) (by decide), gf_ls]
  unfold s_st
  rw [gf_43 S p j v (k := 0) (by decide)]
theorem gf_ws (S : SP) (p : Nat) (j v x : Int32) : ws_up (gf_ S p j v) x = gf_ (ws_up S x) p j v := by
  have e : hp_vi (gf_ S p j v).1 40 0 10 = hp_vi S.1 40 0 10 := (hp_seti_ne (by simp)).trans (hp_seti_ne (by simp))
  unfold ws_up
  rw [e]
  unfold gf_
  dsimp only
  rw [hp_ii (t := 40) (k := 7) (t' := 40) (k' := 10) (by omega), hp_ii (t := 43) (t' := 40) (k' := 10) (by omega), hp_ri]
theorem fc_gf (S : SP) (p f : Nat) (a m j : Int32) : fc_ S p f a m j = gf_ (ld_ S 46 p f a m) p j (hp_vi S.1 40 0 7 + hp_vi S.1 43 p 0 * hp_vi S.1 43 p 1) := rfl
theorem Rp2.gf {S : SP} {h : PH} {p : Nat} {j v : Int32} (R : Rp2 S h) : Rp2 (gf_ S p j v) (hp_seti (hp_seti (hp_setr h 43 p 3 (46, p)) 43 p 5 j) 40 0 7 v) := Rp2.g' (Rp2.i' (Rp2.r' (A := S.1) (c := S.2) R (by decide)) (by decide)) (by decide)
end VVR9
set_option maxRecDepth 20000 in
theorem C_X12_face {G : GW} {h : PH} {Q : RS → PH → Prop} {S : SP} {N : Nat} (R : Rp2 S h) (I : Iv S N) {x y a m mt : Int32} (Fr : fr_s h) (hmt : 0 ≤ mt ∧ mt ≤ 65535) (hq : ∀ v h', ((op_face S x y a m mt).1 = 0 → v = (op_face S x y a m mt).2.1) → Rp2 (op_face S x y a m mt).2.2 h' → hp_vi h' 40 0 0 = nI (op_face S x y a m mt).1 → ke_ h h' → Q (.inl (some (pv_I v))) h') : VV G 10 30 2100 yX12_face cX12_face 9 (some .int) [] 0 (vv_en 9 [pv_O (40, 0), pv_I x, pv_I y, pv_I a, pv_I m, pv_I mt]) [] h Q := by
  show VV G 10 30 2100 yX12_face cX12_face 9 (some .int) [] 0 [some (pv_O (40, 0)), some (pv_I x), some (pv_I y), some (pv_I a), some (pv_I m), some (pv_I mt), none, none, none] [] h Q
  obtain ⟨z0, z1, z2, z3, z4, z5⟩ := I.cs
  refine v_aload_n 1 dX12_face_0 rfl rfl ?_
  refine v_invv (d' := 0) (k' := 0) (n' := 0) (k2 := 30) (n2 := 2100) 4 [] dX12_face_1 mt_X12_48 mi_X12_begins me_X12_begins (by first | assumption | rfl) (by rfl) rfl rfl (of_decide_eq_true rfl) rfl (by decide) rfl rfl rfl rfl (C2_begins R (fun h0 R e0 ke0 => ?_))
  have Fr := ke0.2 Fr
  refine v_aload_n 5 dX12_face_4 rfl rfl ?_
  refine v_iload_n 6 dX12_face_5 rfl rfl ?_
  refine v_invv (d' := 4) (k' := 0) (n' := 0) (k2 := 30) (n2 := 2100) 9 [_] dX12_face_6 mt_X12_171 mi_X12_noPanel me_X12_noPanel (by first | assumption | rfl) (by rfl) rfl rfl (of_decide_eq_true rfl) rfl (by decide) rfl rfl rfl rfl (C_X12_noPanel R e0 (fun a6 => ?_) (fun b6 => ?_))
  · refine v_if_ne 59 12 dX12_face_9 (by decide) rfl (fun c9 => ?_) (fun c9 => ?_)
    · first | exact absurd c9 (by decide) | exact absurd rfl c9 | exact absurd (of_decide_eq_true rfl) c9
    · refine v_aload_n 13 dX12_face_12 rfl rfl ?_
      refine v_iload_n 14 dX12_face_13 rfl rfl ?_
      refine v_iload_n 15 dX12_face_14 rfl rfl ?_
      refine v_iload 17 dX12_face_15 rfl rfl ?_
      refine v_invv (d' := 5) (k' := 0) (n' := 0) (k2 := 30) (n2 := 2100) 20 [_, _, _] dX12_face_17 mt_X12_175 mi_X12_noRow me_X12_noRow (by first | assumption | rfl) (by rfl) rfl rfl (of_decide_eq_true rfl) rfl (by decide) rfl rfl rfl rfl (C_X12_noRow R I e0 (fun a17 => ?_) (fun b17 => ?_))
      · refine v_if_ne 59 23 dX12_face_20 (by decide) rfl (fun c20 => ?_) (fun c20 => ?_)
        · first | exact absurd c20 (by decide) | exact absurd rfl c20 | exact absurd (of_decide_eq_true rfl) c20
        · refine v_aload_n 24 dX12_face_23 rfl rfl ?_
          refine v_ldcs (i := 9) (tx := "bsr") 26 dX12_face_24 (by first | (simp [g_sx]; done) | (simp [g_sx]; rfl)) (by decide) rfl ?_
          refine v_iload 28 dX12_face_26 rfl rfl ?_
          refine v_invv (d' := 3) (k' := 0) (n' := 0) (k2 := 30) (n2 := 2100) 31 [_] dX12_face_28 mt_X12_53 mi_J0_indexOf_0f7a4 me_J0_indexOf_0f7a4 (by first | assumption | rfl) (by rfl) rfl rfl (of_decide_eq_true rfl) rfl (by decide) rfl rfl rfl rfl (C_ixf (by decide) hmt.1 ?_)
          refine v_if_lt 47 34 dX12_face_31 (by decide) rfl (fun c31 => ?_) (fun c31 => ?_)
          · have c31 : ixf_ mt tx_m 0 < 0 := c31
            refine v_iconstv (v := 1) 48 dX12_face_47 (by decide) rfl ?_
            refine v_goto 52 dX12_face_48 (by decide) ?_
            refine v_iconstv (v := 2) 53 dX12_face_52 (by decide) rfl ?_
            refine v_invv (d' := 0) (k' := 0) (n' := 0) (k2 := 30) (n2 := 2100) 56 [_, _] dX12_face_53 mt_X12_67 mi_X12_fails me_X12_fails (by first | assumption | rfl) (by rfl) rfl rfl (of_decide_eq_true rfl) rfl (by decide) rfl rfl rfl rfl (C_f1 e0 (by decide) ?_)
            refine v_if_eq 61 59 dX12_face_56 (by decide) rfl (fun c56 => ?_) (fun c56 => ?_)
            · first | exact absurd c56 (by decide) | exact absurd rfl c56 | exact absurd (of_decide_eq_true rfl) c56
            · refine v_iconstv (v := -1) 60 dX12_face_59 (by decide) rfl ?_
              refine v_ireturn dX12_face_60 rfl ?_
              have ev : op_face S x y a m mt = (2, 0, S) := by unfold op_face; simp only [eq_true a6, eq_true a17, c31, ↓reduceIte, and_self, and_true, true_and, and_false, false_and, not_true_eq_false, not_false_eq_true]
              rw [ev] at hq
              exact hq _ _ (fun e => absurd e (Nat.succ_ne_zero _)) R.th hp_seti_at (ke0.tr (ke_.i (by decide) (by decide)))
          · have c31 : ¬ ixf_ mt tx_m 0 < 0 := c31
            refine v_iload 36 dX12_face_34 rfl rfl ?_
            refine v_i2l 37 dX12_face_36 rfl ?_
            refine v_lconst (v := 1) 38 dX12_face_37 (by decide) rfl ?_
            refine v_ldc2 41 dX12_face_38 cn_X12_181 rfl rfl ?_
            refine v_invs (d' := 0) (k' := 0) (n' := 0) (k2 := 30) (n2 := 2100) 44 [_, _, _] dX12_face_41 mt_X12_44 ms_X12_in rfl rfl (of_decide_eq_true rfl) rfl (by decide) rfl rfl rfl rfl (C_in2 (lo := 1) (hi := 8) rfl (by decide) (by decide) (fun a41 => ?_) (fun b41 => ?_))
            · refine v_if_ne 51 47 dX12_face_44 (by decide) rfl (fun c44 => ?_) (fun c44 => ?_)
              · refine v_iconstv (v := 0) 52 dX12_face_51 (by decide) rfl ?_
                refine v_iconstv (v := 2) 53 dX12_face_52 (by decide) rfl ?_
                refine v_invv (d' := 0) (k' := 0) (n' := 0) (k2 := 30) (n2 := 2100) 56 [_, _] dX12_face_53 mt_X12_67 mi_X12_fails me_X12_fails (by first | assumption | rfl) (by rfl) rfl rfl (of_decide_eq_true rfl) rfl (by decide) rfl rfl rfl rfl (C_f0 e0 ?_)
                refine v_if_eq 61 59 dX12_face_56 (by decide) rfl (fun c56 => ?_) (fun c56 => ?_)
                · refine v_aload_n 62 dX12_face_61 rfl rfl ?_
                  refine v_getfr 65 dX12_face_62 fl_X12_19 (by first | assumption | rfl) (by rfl) rfl ?_
                  rw [R.1.1.2.2.2.1]
                  refine v_iload_n 66 dX12_face_65 rfl rfl ?_
                  refine v_invf (z := ("java/util/ArrayList", TJx4a65c, 3)) (d' := 2) (k' := 0) (n' := 0) (k2 := 30) (n2 := 2100) 71 [_] dX12_face_66 mf_X12_90 md_Jx4a65c_get_915e3 mi_Jx4a65c_get_915e3 se_Jx4a65c_get_915e3 (by simp [g_fw]; rfl) ⟨by decide, by decide +kernel⟩ (by first | assumption | rfl) (by rfl) rfl rfl (of_decide_eq_true rfl) rfl (by decide) rfl rfl rfl rfl (C_gt (tl := 52) (ta := 58) rfl rfl R.2.1.2.2.1 (by assumption) ?_)
                  refine v_cast 74 dX12_face_71 ⟨_, _, rfl, rfl, cl_X12_129⟩ rfl ?_
                  refine v_astore 76 dX12_face_74 (by decide) rfl rfl ?_
                  dsimp only [List.set]
                  have hc := a6.cl (by omega)
                  have hc2 := a17.1.cl (by omega)
                  have h24 := I.n24 hc2.1
                  obtain ⟨a9, ha9, ea⟩ := a17.2.1.nat (by omega)
                  obtain ⟨m9, m1, m2, em⟩ := a_nat (lo := 1) (hi := 8) a41 (by decide) (by decide)
                  subst ea
                  subst em
                  have ham : a9 + m9 ≤ s_n S (cl_ y) := by
                    have q := (row_le (n := s_n S (cl_ y)) (by omega) a17.2.1).mp a17.2.2
                    rw [nI_toInt (by omega), nI_toInt (by omega)] at q
                    omega
                  have ec1 : cl_ (nI a9) = a9 := nI_clamp (by omega)
                  have ec2 : cl_ (nI m9) = m9 := nI_clamp (by omega)
                  have Rb := R
                  by_cases nac : (s_fa S (cl_ x)).1 = 0 ∧ cv_ S (cl_ x) (cl_ y) a9 m9
                  · obtain ⟨w3, w4⟩ := nac
                    refine v_new (k1 := 29) (n1 := 2097) 79 46 (cl_ x) dX12_face_76 nw_X12_157 (by rfl) (by decide) (by rw [R.al (t := 46) (by decide)]; rcases (I.2.2.2.1 _ hc.1).2.1 with q | q; exact q.2; exact absurd w3 (by rw [q.1]; exact (by decide : ¬ (46 : Nat) = 0))) rfl rfl rfl ?_
                    have R : Rp2 (hp_new S.1 46 (cl_ x) 0, S.2) _ := R.n (by decide)
                    refine v_dup 80 dX12_face_79 rfl rfl ?_
                    refine v_aload_n 81 dX12_face_80 rfl rfl ?_
                    refine v_getfr 84 dX12_face_81 fl_X12_16 (by first | assumption | rfl) (by rfl) rfl ?_
                    rw [R.1.1.2.2.1]
                    refine v_iload_n 85 dX12_face_84 rfl rfl ?_
                    refine v_invf (z := ("java/util/ArrayList", TJx4a65c, 3)) (d' := 2) (k' := 0) (n' := 0) (k2 := 29) (n2 := 2097) 90 [_] dX12_face_85 mf_X12_90 md_Jx4a65c_get_915e3 mi_Jx4a65c_get_915e3 se_Jx4a65c_get_915e3 (by simp [g_fw]; rfl) ⟨by decide, by decide +kernel⟩ (by first | assumption | rfl) (by rfl) rfl rfl (of_decide_eq_true rfl) rfl (by decide) rfl rfl rfl rfl (C_gt (tl := 51) (ta := 57) rfl rfl R.2.1.2.1 a17.1 ?_)
                    refine v_cast 93 dX12_face_90 ⟨_, _, rfl, rfl, cl_X12_98⟩ rfl ?_
                    refine v_iload_n 94 dX12_face_93 rfl rfl ?_
                    refine v_iload 96 dX12_face_94 rfl rfl ?_
                    refine v_invi (d' := 1) (k' := 0) (n' := 0) (k2 := 29) (n2 := 2097) 99 [_, _, _] dX12_face_96 mt_X12_183 mi_X8_init rfl rfl (by first | assumption | rfl) rfl rfl (of_decide_eq_true rfl) rfl (by decide) rfl rfl rfl rfl (C_X8_init rfl (by decide) ?_)
                    have R : Rp2 (ld_ S 46 (cl_ x) (cl_ y) (nI a9) (nI m9)) (hp_seti (hp_seti (hp_setr (hp_new h0 46 (cl_ x) 0) 46 (cl_ x) 0 (42, cl_ y)) 46 (cl_ x) 1 (nI a9)) 46 (cl_ x) 2 (nI m9)) := (by unfold ld_; repeat' first | refine Rp2.i' ?_ (by decide) | refine Rp2.r' ?_ (by decide) | refine Rp2.n' ?_ (by decide) | refine Rp2.g' ?_ (by decide) | exact Rb | exact R)
                    have e0 : hp_vi (hp_seti (hp_seti (hp_setr (hp_new h0 46 (cl_ x) 0) 46 (cl_ x) 0 (42, cl_ y)) 46 (cl_ x) 1 (nI a9)) 46 (cl_ x) 2 (nI m9)) 40 0 0 = 0 := e0
                    refine v_astore 101 dX12_face_99 (by decide) rfl rfl ?_
                    dsimp only [List.set]
                    refine v_aload_n 102 dX12_face_101 rfl rfl ?_
                    refine v_aload 104 dX12_face_102 rfl rfl ?_
                    refine v_getfr 107 dX12_face_104 fl_X12_186 (by first | assumption | rfl) (by rfl) rfl ?_
                    rw [R.vr (t := 43) (by decide)]
                    refine v_ifnonnull 126 110 dX12_face_107 (by decide) rfl (fun c107 => ?_) (fun c107 => ?_)
                    · exact absurd w3 c107
                    · refine v_aload 112 dX12_face_110 rfl rfl ?_
                      refine v_aload 114 dX12_face_112 rfl rfl ?_
                      refine v_getfr 117 dX12_face_114 fl_X12_164 (by first | assumption | rfl) (by rfl) rfl ?_
                      rw [show hp_vr (hp_seti (hp_seti (hp_setr (hp_new h0 46 (cl_ x) 0) 46 (cl_ x) 0 (42, cl_ y)) 46 (cl_ x) 1 (nI a9)) 46 (cl_ x) 2 (nI m9)) 46 (cl_ x) 0 = (42, cl_ y) from hp_setr_at]
                      refine v_iload_n 118 dX12_face_117 rfl rfl ?_
                      refine v_iload 120 dX12_face_118 rfl rfl ?_
                      refine v_invs (d' := 2) (k' := 0) (n' := 0) (k2 := 29) (n2 := 2097) 123 [_, _, _, _] dX12_face_120 mt_X12_190 ms_X12_canLie rfl rfl (of_decide_eq_true rfl) rfl (by decide) rfl rfl rfl rfl (C_X12_canLie (S := S) ((Rb.tg (t := 41) (by decide)).tr (by repeat' first | exact hp_te.rf | refine hp_te.tr ?_ (hp_te.i (by first | decide | omega)) | refine hp_te.tr ?_ (hp_te.r (by first | decide | omega)) | refine hp_te.tr ?_ (hp_te.n (by first | decide | omega)))) ((Rb.tg (t := 42) (by decide)).tr (by repeat' first | exact hp_te.rf | refine hp_te.tr ?_ (hp_te.i (by first | decide | omega)) | refine hp_te.tr ?_ (hp_te.r (by first | decide | omega)) | refine hp_te.tr ?_ (hp_te.n (by first | decide | omega)))) ((Rb.tg (t := 43) (by decide)).tr (by repeat' first | exact hp_te.rf | refine hp_te.tr ?_ (hp_te.i (by first | decide | omega)) | refine hp_te.tr ?_ (hp_te.r (by first | decide | omega)) | refine hp_te.tr ?_ (hp_te.n (by first | decide | omega)))) ((Rb.tg (t := 62) (by decide)).tr (by repeat' first | exact hp_te.rf | refine hp_te.tr ?_ (hp_te.i (by first | decide | omega)) | refine hp_te.tr ?_ (hp_te.r (by first | decide | omega)) | refine hp_te.tr ?_ (hp_te.n (by first | decide | omega)))) I hc2.1 ham m1 (fun g9 => ?_) (fun g9 => ?_))
                      · refine v_if_ne 130 126 dX12_face_123 (by decide) rfl (fun c123 => ?_) (fun c123 => ?_)
                        · refine v_iconstv (v := 0) 131 dX12_face_130 (by decide) rfl ?_
                          refine v_iconstv (v := 3) 132 dX12_face_131 (by decide) rfl ?_
                          refine v_invv (d' := 0) (k' := 0) (n' := 0) (k2 := 29) (n2 := 2097) 135 [_, _] dX12_face_132 mt_X12_67 mi_X12_fails me_X12_fails (by first | assumption | rfl) (by rfl) rfl rfl (of_decide_eq_true rfl) rfl (by decide) rfl rfl rfl rfl (C_f0 e0 ?_)
                          refine v_if_eq 140 138 dX12_face_135 (by decide) rfl (fun c135 => ?_) (fun c135 => ?_)
                          · refine v_aload_n 141 dX12_face_140 rfl rfl ?_
                            refine v_aload 143 dX12_face_141 rfl rfl ?_
                            refine v_aload 145 dX12_face_143 rfl rfl ?_
                            refine v_invv (d' := 9) (k' := 20) (n' := 2000) (k2 := 9) (n2 := 97) 148 [_, _] dX12_face_145 mt_X12_194 mi_X12_lays me_X12_lays (by first | assumption | rfl) (by rfl) rfl rfl (of_decide_eq_true rfl) rfl (by decide) rfl rfl rfl rfl (C_X12_lays (S0 := S) (S := (ld_ S 46 (cl_ x) (cl_ y) (nI a9) (nI m9))) (u := 46) (p := cl_ x) (f := cl_ y) (a := a9) (m := m9) I (ld_te S 46 (cl_ x) (cl_ y) (nI a9) (nI m9) (by decide)) (ld_te S 46 (cl_ x) (cl_ y) (nI a9) (nI m9) (by decide)) rfl rfl (Or.inl rfl) (ld_v ..).1 (ld_v ..).2.1 (ld_v ..).2.2 hc2.1 ham m1 m2 (fun i hi => by show (if 45 = 46 ∧ i = cl_ x then true else hp_al S.1 45 i) = false; rw [if_neg (by omega)]; exact I.2.2.2.2.2.1.2.2.2.2.1 i hi) (fun h8 R8 e8 ke8 => ?_) R e0)
                            have EL : ∀ t, rt_ t → ¬ t = 62 → ¬ t = 45 → hp_te (ld_ S 46 (cl_ x) (cl_ y) (nI a9) (nI m9)).1 h8 t := fun t ht n1 n2 => ((lr_te (ld_ S 46 (cl_ x) (cl_ y) (nI a9) (nI m9)) (cl_ x) (cl_ y) a9 m9 m9 n1 n2).tr (hp_te.i (by omega))).tr (R8.tg ht)
                            have LDT : ∀ t, ¬ t = 46 → hp_te S.1 (ld_ S 46 (cl_ x) (cl_ y) (nI a9) (nI m9)).1 t := fun t ht => ld_te S 46 (cl_ x) (cl_ y) (nI a9) (nI m9) ht
                            refine v_istore 150 dX12_face_148 (by decide) rfl rfl ?_
                            dsimp only [List.set]
                            refine v_aload 152 dX12_face_150 rfl rfl ?_
                            refine v_aload 154 dX12_face_152 rfl rfl ?_
                            refine v_putfr 157 dX12_face_154 pf_X12_face_186 (by first | assumption | rfl) (by first | assumption | decide) (by rfl) rfl ?_
                            refine v_aload 159 dX12_face_157 rfl rfl ?_
                            refine v_aload 161 dX12_face_159 rfl rfl ?_
                            refine v_iload 163 dX12_face_161 rfl rfl ?_
                            refine v_invv (d' := 2) (k' := 0) (n' := 0) (k2 := 9) (n2 := 97) 166 [_] dX12_face_163 mt_X12_198 mi_X8_jump me_X8_jump (by first | assumption | rfl) (by rfl) rfl rfl (of_decide_eq_true rfl) rfl (by decide) rfl rfl rfl rfl (C_X8_jump (f := cl_ y) (a := a9) (m := m9) (((LDT 41 (by decide)).tr (EL 41 (by decide) (by decide) (by decide))).tr (hp_te.r (by decide))) (((LDT 42 (by decide)).tr (EL 42 (by decide) (by decide) (by decide))).tr (hp_te.r (by decide))) I hc2.1 rfl ((hp_setr_ne (by simp)).trans (by rw [(EL 46 (by decide) (by decide) (by decide)).2.2.2.1]; exact (ld_v ..).1)) (by show hp_vi h8 46 (cl_ x) 1 = _; rw [(EL 46 (by decide) (by decide) (by decide)).2.2.1]; exact (ld_v ..).2.1) (by show hp_vi h8 46 (cl_ x) 2 = _; rw [(EL 46 (by decide) (by decide) (by decide)).2.2.1]; exact (ld_v ..).2.2) (by omega) m1 ?_)
                            refine v_putfi 169 dX12_face_166 pf_X12_face_202 (by first | assumption | rfl) (by first | assumption | decide) (by rfl) rfl rfl rfl ?_
                            refine v_aload_n 170 dX12_face_169 rfl rfl ?_
                            refine v_dup 171 dX12_face_170 rfl rfl ?_
                            refine v_getfi 174 dX12_face_171 fl_X12_204 (by first | assumption | rfl) (by rfl) rfl ?_
                            rw [show hp_vi (hp_seti (hp_setr h8 43 (cl_ x) 3 (46, cl_ x)) 43 (cl_ x) 5 (s_jp S (cl_ y) a9 m9 mt)) 40 0 7 = hp_vi S.1 40 0 7 from (hp_seti_ne (by simp)).trans ((R8.1.2 7 (by decide) (by decide)).trans ((hp_seti_ne (by simp)).trans (by rw [show hp_vi (ly_ (ld_ S 46 (cl_ x) (cl_ y) (nI a9) (nI m9)) (cl_ x) (cl_ y) a9 m9).1.1 40 = hp_vi (ld_ S 46 (cl_ x) (cl_ y) (nI a9) (nI m9)).1 40 from (lr_te (ld_ S 46 (cl_ x) (cl_ y) (nI a9) (nI m9)) (cl_ x) (cl_ y) a9 m9 m9 (t := 40) (by decide) (by decide)).2.2.1, (LDT 40 (by decide)).2.2.1])))]
                            refine v_aload 176 dX12_face_174 rfl rfl ?_
                            refine v_getfi 179 dX12_face_176 fl_X12_140 (by first | assumption | rfl) (by rfl) rfl ?_
                            rw [hp_seti_ne (by simp), show ∀ z, hp_vi (hp_setr h8 43 (cl_ x) 3 (46, cl_ x)) 43 (cl_ x) z = hp_vi S.1 43 (cl_ x) z from fun z => by show hp_vi h8 43 (cl_ x) z = _; rw [(EL 43 (by decide) (by decide) (by decide)).2.2.1, (LDT 43 (by decide)).2.2.1]]
                            refine v_aload 181 dX12_face_179 rfl rfl ?_
                            refine v_getfi 184 dX12_face_181 fl_X12_149 (by first | assumption | rfl) (by rfl) rfl ?_
                            rw [hp_seti_ne (by simp), show ∀ z, hp_vi (hp_setr h8 43 (cl_ x) 3 (46, cl_ x)) 43 (cl_ x) z = hp_vi S.1 43 (cl_ x) z from fun z => by show hp_vi h8 43 (cl_ x) z = _; rw [(EL 43 (by decide) (by decide) (by decide)).2.2.1, (LDT 43 (by decide)).2.2.1]]
                            refine v_imul 185 dX12_face_184 rfl ?_
                            refine v_iadd 186 dX12_face_185 rfl ?_
                            refine v_putfi 189 dX12_face_186 pf_X12_face_204 (by first | assumption | rfl) (by first | assumption | decide) (by rfl) rfl rfl rfl ?_
                            refine v_aload 191 dX12_face_189 rfl rfl ?_
                            refine v_getfi 194 dX12_face_191 fl_X12_202 (by first | assumption | rfl) (by rfl) rfl ?_
                            rw [hp_seti_ne (by simp), hp_seti_at]
                            refine v_ireturn dX12_face_194 rfl ?_
                            have ev : op_face S x y (nI a9) (nI m9) mt = (0, (s_jp S (cl_ y) a9 m9 mt), ws_up (ly_ (fc_ S (cl_ x) (cl_ y) (nI a9) (nI m9) (s_jp S (cl_ y) a9 m9 mt)) (cl_ x) (cl_ y) a9 m9).1 (ly_ (fc_ S (cl_ x) (cl_ y) (nI a9) (nI m9) (s_jp S (cl_ y) a9 m9 mt)) (cl_ x) (cl_ y) a9 m9).2) := by unfold op_face; rw [if_pos a6, if_pos a17, if_pos ⟨c31, a41⟩, ec1, ec2, if_pos w3, if_pos w4]
                            rw [ev, fc_gf, gf_ly, gf_ws] at hq
                            refine hq _ _ (fun _ => rfl) R8.gf ((hp_seti_ne (by simp)).trans ((hp_seti_ne (by simp)).trans e8)) ?_
                            exact ((ke0.tr (h1 := h0) ((((ke_.n (by decide) (by decide)).tr (ke_.r (by decide) (by decide))).tr (ke_.i (by decide) (by decide))).tr (ke_.i (by decide) (by decide)))).tr ke8).tr (((ke_.r (by decide) (by decide)).tr (ke_.i (by decide) (by decide))).tr (ke_.i (by decide) (by decide)))
                          · first | exact absurd c135 (by decide) | exact absurd rfl c135 | exact absurd (of_decide_eq_true rfl) c135
                        · first | exact absurd c123 (by decide) | exact absurd rfl c123 | exact absurd (of_decide_eq_true rfl) c123
                      · exact absurd w4 g9
                  · obtain ⟨g, hg⟩ := Fr 70 (by decide) (by decide)
                    refine v_new (k1 := 29) (n1 := 2097) 79 70 g dX12_face_76 nw_X12_157 (by rfl) (by decide) (hg g (Nat.le_refl _)) rfl rfl rfl ?_
                    have R : Rp2 S (hp_new h0 70 g 0) := R.te (fun u hu => hp_te.n (by omega))
                    refine v_dup 80 dX12_face_79 rfl rfl ?_
                    refine v_aload_n 81 dX12_face_80 rfl rfl ?_
                    refine v_getfr 84 dX12_face_81 fl_X12_16 (by first | assumption | rfl) (by rfl) rfl ?_
                    rw [R.1.1.2.2.1]
                    refine v_iload_n 85 dX12_face_84 rfl rfl ?_
                    refine v_invf (z := ("java/util/ArrayList", TJx4a65c, 3)) (d' := 2) (k' := 0) (n' := 0) (k2 := 29) (n2 := 2097) 90 [_] dX12_face_85 mf_X12_90 md_Jx4a65c_get_915e3 mi_Jx4a65c_get_915e3 se_Jx4a65c_get_915e3 (by simp [g_fw]; rfl) ⟨by decide, by decide +kernel⟩ (by first | assumption | rfl) (by rfl) rfl rfl (of_decide_eq_true rfl) rfl (by decide) rfl rfl rfl rfl (C_gt (tl := 51) (ta := 57) rfl rfl R.2.1.2.1 a17.1 ?_)
                    refine v_cast 93 dX12_face_90 ⟨_, _, rfl, rfl, cl_X12_98⟩ rfl ?_
                    refine v_iload_n 94 dX12_face_93 rfl rfl ?_
                    refine v_iload 96 dX12_face_94 rfl rfl ?_
                    refine v_invi (d' := 1) (k' := 0) (n' := 0) (k2 := 29) (n2 := 2097) 99 [_, _, _] dX12_face_96 mt_X12_183 mi_X8_init rfl rfl (by first | assumption | rfl) rfl rfl (of_decide_eq_true rfl) rfl (by decide) rfl rfl rfl rfl (C_X8_init rfl (by decide) ?_)
                    have R : Rp2 S (hp_seti (hp_seti (hp_setr (hp_new h0 70 g 0) 70 g 0 (42, cl_ y)) 70 g 1 (nI a9)) 70 g 2 (nI m9)) := Rb.tmp (by decide)
                    have e0 : hp_vi (hp_seti (hp_seti (hp_setr (hp_new h0 70 g 0) 70 g 0 (42, cl_ y)) 70 g 1 (nI a9)) 70 g 2 (nI m9)) 40 0 0 = 0 := e0
                    refine v_astore 101 dX12_face_99 (by decide) rfl rfl ?_
                    dsimp only [List.set]
                    refine v_aload_n 102 dX12_face_101 rfl rfl ?_
                    refine v_aload 104 dX12_face_102 rfl rfl ?_
                    refine v_getfr 107 dX12_face_104 fl_X12_186 (by first | assumption | rfl) (by rfl) rfl ?_
                    rw [R.vr (t := 43) (by decide)]
                    refine v_ifnonnull 126 110 dX12_face_107 (by decide) rfl (fun c107 => ?_) (fun c107 => ?_)
                    · refine v_iconstv (v := 1) 127 dX12_face_126 (by decide) rfl ?_
                      refine v_goto 131 dX12_face_127 (by decide) ?_
                      refine v_iconstv (v := 3) 132 dX12_face_131 (by decide) rfl ?_
                      refine v_invv (d' := 0) (k' := 0) (n' := 0) (k2 := 29) (n2 := 2097) 135 [_, _] dX12_face_132 mt_X12_67 mi_X12_fails me_X12_fails (by first | assumption | rfl) (by rfl) rfl rfl (of_decide_eq_true rfl) rfl (by decide) rfl rfl rfl rfl (C_f1 e0 (by decide) ?_)
                      refine v_if_eq 140 138 dX12_face_135 (by decide) rfl (fun c135 => ?_) (fun c135 => ?_)
                      · first | exact absurd c135 (by decide) | exact absurd rfl c135 | exact absurd (of_decide_eq_true rfl) c135
                      · refine v_iconstv (v := -1) 139 dX12_face_138 (by decide) rfl ?_
                        refine v_ireturn dX12_face_139 rfl ?_
                        have ev : op_face S x y (nI a9) (nI m9) mt = (3, 0, S) := by
                          unfold op_face
                          rw [if_pos a6, if_pos a17, if_pos ⟨c31, a41⟩, ec1, ec2]
                          by_cases q : (s_fa S (cl_ x)).1 = 0
                          · rw [if_pos q, if_neg (fun w => nac ⟨q, w⟩)]
                          · rw [if_neg q]
                        rw [ev] at hq
                        exact hq _ _ (fun e => absurd e (Nat.succ_ne_zero _)) R.th hp_seti_at ((ke0.tr ((((ke_.n (by decide) (by decide)).tr (ke_.r (by decide) (by decide))).tr (ke_.i (by decide) (by decide))).tr (ke_.i (by decide) (by decide)))).tr (ke_.i (by decide) (by decide)))
                    · refine v_aload 112 dX12_face_110 rfl rfl ?_
                      refine v_aload 114 dX12_face_112 rfl rfl ?_
                      refine v_getfr 117 dX12_face_114 fl_X12_164 (by first | assumption | rfl) (by rfl) rfl ?_
                      rw [show hp_vr (hp_seti (hp_seti (hp_setr (hp_new h0 70 g 0) 70 g 0 (42, cl_ y)) 70 g 1 (nI a9)) 70 g 2 (nI m9)) 70 g 0 = (42, cl_ y) from hp_setr_at]
                      refine v_iload_n 118 dX12_face_117 rfl rfl ?_
                      refine v_iload 120 dX12_face_118 rfl rfl ?_
                      refine v_invs (d' := 2) (k' := 0) (n' := 0) (k2 := 29) (n2 := 2097) 123 [_, _, _, _] dX12_face_120 mt_X12_190 ms_X12_canLie rfl rfl (of_decide_eq_true rfl) rfl (by decide) rfl rfl rfl rfl (C_X12_canLie (S := S) (R.tg (t := 41) (by decide)) (R.tg (t := 42) (by decide)) (R.tg (t := 43) (by decide)) (R.tg (t := 62) (by decide)) I hc2.1 ham m1 (fun g9 => ?_) (fun g9 => ?_))
                      · exact absurd ⟨c107, g9⟩ nac
                      · refine v_if_ne 130 126 dX12_face_123 (by decide) rfl (fun c123 => ?_) (fun c123 => ?_)
                        · first | exact absurd c123 (by decide) | exact absurd rfl c123 | exact absurd (of_decide_eq_true rfl) c123
                        · refine v_iconstv (v := 1) 127 dX12_face_126 (by decide) rfl ?_
                          refine v_goto 131 dX12_face_127 (by decide) ?_
                          refine v_iconstv (v := 3) 132 dX12_face_131 (by decide) rfl ?_
                          refine v_invv (d' := 0) (k' := 0) (n' := 0) (k2 := 29) (n2 := 2097) 135 [_, _] dX12_face_132 mt_X12_67 mi_X12_fails me_X12_fails (by first | assumption | rfl) (by rfl) rfl rfl (of_decide_eq_true rfl) rfl (by decide) rfl rfl rfl rfl (C_f1 e0 (by decide) ?_)
                          refine v_if_eq 140 138 dX12_face_135 (by decide) rfl (fun c135 => ?_) (fun c135 => ?_)
                          · first | exact absurd c135 (by decide) | exact absurd rfl c135 | exact absurd (of_decide_eq_true rfl) c135
                          · refine v_iconstv (v := -1) 139 dX12_face_138 (by decide) rfl ?_
                            refine v_ireturn dX12_face_139 rfl ?_
                            have ev : op_face S x y (nI a9) (nI m9) mt = (3, 0, S) := by
                              unfold op_face
                              rw [if_pos a6, if_pos a17, if_pos ⟨c31, a41⟩, ec1, ec2]
                              by_cases q : (s_fa S (cl_ x)).1 = 0
                              · rw [if_pos q, if_neg (fun w => nac ⟨q, w⟩)]
                              · rw [if_neg q]
                            rw [ev] at hq
                            exact hq _ _ (fun e => absurd e (Nat.succ_ne_zero _)) R.th hp_seti_at ((ke0.tr ((((ke_.n (by decide) (by decide)).tr (ke_.r (by decide) (by decide))).tr (ke_.i (by decide) (by decide))).tr (ke_.i (by decide) (by decide)))).tr (ke_.i (by decide) (by decide)))
                · first | exact absurd c56 (by decide) | exact absurd rfl c56 | exact absurd (of_decide_eq_true rfl) c56
              · first | exact absurd c44 (by decide) | exact absurd rfl c44 | exact absurd (of_decide_eq_true rfl) c44
            · refine v_if_ne 51 47 dX12_face_44 (by decide) rfl (fun c44 => ?_) (fun c44 => ?_)
              · first | exact absurd c44 (by decide) | exact absurd rfl c44 | exact absurd (of_decide_eq_true rfl) c44
              · refine v_iconstv (v := 1) 48 dX12_face_47 (by decide) rfl ?_
                refine v_goto 52 dX12_face_48 (by decide) ?_
                refine v_iconstv (v := 2) 53 dX12_face_52 (by decide) rfl ?_
                refine v_invv (d' := 0) (k' := 0) (n' := 0) (k2 := 30) (n2 := 2100) 56 [_, _] dX12_face_53 mt_X12_67 mi_X12_fails me_X12_fails (by first | assumption | rfl) (by rfl) rfl rfl (of_decide_eq_true rfl) rfl (by decide) rfl rfl rfl rfl (C_f1 e0 (by decide) ?_)
                refine v_if_eq 61 59 dX12_face_56 (by decide) rfl (fun c56 => ?_) (fun c56 => ?_)
                · first | exact absurd c56 (by decide) | exact absurd rfl c56 | exact absurd (of_decide_eq_true rfl) c56
                · refine v_iconstv (v := -1) 60 dX12_face_59 (by decide) rfl ?_
                  refine v_ireturn dX12_face_60 rfl ?_
                  have ev : op_face S x y a m mt = (2, 0, S) := by unfold op_face; simp only [eq_true a6, eq_true a17, c31, b41, ↓reduceIte, and_self, and_true, true_and, and_false, false_and, not_true_eq_false, not_false_eq_true]
                  rw [ev] at hq
                  exact hq _ _ (fun e => absurd e (Nat.succ_ne_zero _)) R.th hp_seti_at (ke0.tr (ke_.i (by decide) (by decide)))
      · refine v_if_ne 59 23 dX12_face_20 (by decide) rfl (fun c20 => ?_) (fun c20 => ?_)
        · refine v_iconstv (v := -1) 60 dX12_face_59 (by decide) rfl ?_
          refine v_ireturn dX12_face_60 rfl ?_
          have ev : op_face S x y a m mt = (1, 0, S) := by unfold op_face; simp only [eq_true a6, b17, ↓reduceIte, and_self, and_true, true_and, and_false, false_and, not_true_eq_false, not_false_eq_true]
          rw [ev] at hq
          exact hq _ _ (fun e => absurd e (Nat.succ_ne_zero _)) R.th hp_seti_at (ke0.tr (ke_.i (by decide) (by decide)))
        · first | exact absurd c20 (by decide) | exact absurd rfl c20 | exact absurd (of_decide_eq_true rfl) c20
  · refine v_if_ne 59 12 dX12_face_9 (by decide) rfl (fun c9 => ?_) (fun c9 => ?_)
    · refine v_iconstv (v := -1) 60 dX12_face_59 (by decide) rfl ?_
      refine v_ireturn dX12_face_60 rfl ?_
      have ev : op_face S x y a m mt = (1, 0, S) := by unfold op_face; simp only [b6, ↓reduceIte, and_self, and_true, true_and, and_false, false_and, not_true_eq_false, not_false_eq_true]
      rw [ev] at hq
      exact hq _ _ (fun e => absurd e (Nat.succ_ne_zero _)) R.th hp_seti_at (ke0.tr (ke_.i (by decide) (by decide)))
    · first | exact absurd c9 (by decide) | exact absurd rfl c9 | exact absurd (of_decide_eq_true rfl) c9
set_option maxRecDepth 20000 in
theorem C_X12_back {G : GW} {h : PH} {Q : RS → PH → Prop} {S : SP} {N : Nat} (R : Rp2 S h) (I : Iv S N) {x y a m : Int32} (Fr : fr_s h) (hq : ∀ v h', ((op_back S x y a m).1 = 0 → v = (op_back S x y a m).2.1) → Rp2 (op_back S x y a m).2.2 h' → hp_vi h' 40 0 0 = nI (op_back S x y a m).1 → ke_ h h' → Q (.inl (some (pv_I v))) h') : VV G 10 30 2100 yX12_back cX12_back 7 (some .int) [] 0 (vv_en 7 [pv_O (40, 0), pv_I x, pv_I y, pv_I a, pv_I m]) [] h Q := by
  show VV G 10 30 2100 yX12_back cX12_back 7 (some .int) [] 0 [some (pv_O (40, 0)), some (pv_I x), some (pv_I y), some (pv_I a), some (pv_I m), none, none] [] h Q
  obtain ⟨z0, z1, z2, z3, z4, z5⟩ := I.cs
  refine v_aload_n 1 dX12_back_0 rfl rfl ?_
  refine v_invv (d' := 0) (k' := 0) (n' := 0) (k2 := 30) (n2 := 2100) 4 [] dX12_back_1 mt_X12_48 mi_X12_begins me_X12_begins (by first | assumption | rfl) (by rfl) rfl rfl (of_decide_eq_true rfl) rfl (by decide) rfl rfl rfl rfl (C2_begins R (fun h0 R e0 ke0 => ?_))
  have Fr := ke0.2 Fr
  refine v_aload_n 5 dX12_back_4 rfl rfl ?_
  refine v_iload_n 6 dX12_back_5 rfl rfl ?_
  refine v_invv (d' := 4) (k' := 0) (n' := 0) (k2 := 30) (n2 := 2100) 9 [_] dX12_back_6 mt_X12_171 mi_X12_noPanel me_X12_noPanel (by first | assumption | rfl) (by rfl) rfl rfl (of_decide_eq_true rfl) rfl (by decide) rfl rfl rfl rfl (C_X12_noPanel R e0 (fun a6 => ?_) (fun b6 => ?_))
  · refine v_if_ne 49 12 dX12_back_9 (by decide) rfl (fun c9 => ?_) (fun c9 => ?_)
    · first | exact absurd c9 (by decide) | exact absurd rfl c9 | exact absurd (of_decide_eq_true rfl) c9
    · refine v_aload_n 13 dX12_back_12 rfl rfl ?_
      refine v_iload_n 14 dX12_back_13 rfl rfl ?_
      refine v_iload_n 15 dX12_back_14 rfl rfl ?_
      refine v_iload 17 dX12_back_15 rfl rfl ?_
      refine v_invv (d' := 5) (k' := 0) (n' := 0) (k2 := 30) (n2 := 2100) 20 [_, _, _] dX12_back_17 mt_X12_175 mi_X12_noRow me_X12_noRow (by first | assumption | rfl) (by rfl) rfl rfl (of_decide_eq_true rfl) rfl (by decide) rfl rfl rfl rfl (C_X12_noRow R I e0 (fun a17 => ?_) (fun b17 => ?_))
      · refine v_if_ne 49 23 dX12_back_20 (by decide) rfl (fun c20 => ?_) (fun c20 => ?_)
        · first | exact absurd c20 (by decide) | exact absurd rfl c20 | exact absurd (of_decide_eq_true rfl) c20
        · refine v_aload_n 24 dX12_back_23 rfl rfl ?_
          refine v_iload 26 dX12_back_24 rfl rfl ?_
          refine v_i2l 27 dX12_back_26 rfl ?_
          refine v_lconst (v := 1) 28 dX12_back_27 (by decide) rfl ?_
          refine v_ldc2 31 dX12_back_28 cn_X12_181 rfl rfl ?_
          refine v_invs (d' := 0) (k' := 0) (n' := 0) (k2 := 30) (n2 := 2100) 34 [_, _, _] dX12_back_31 mt_X12_44 ms_X12_in rfl rfl (of_decide_eq_true rfl) rfl (by decide) rfl rfl rfl rfl (C_in2 (lo := 1) (hi := 8) rfl (by decide) (by decide) (fun a31 => ?_) (fun b31 => ?_))
          · refine v_if_ne 41 37 dX12_back_34 (by decide) rfl (fun c34 => ?_) (fun c34 => ?_)
            · refine v_iconstv (v := 0) 42 dX12_back_41 (by decide) rfl ?_
              refine v_iconstv (v := 2) 43 dX12_back_42 (by decide) rfl ?_
              refine v_invv (d' := 0) (k' := 0) (n' := 0) (k2 := 30) (n2 := 2100) 46 [_, _] dX12_back_43 mt_X12_67 mi_X12_fails me_X12_fails (by first | assumption | rfl) (by rfl) rfl rfl (of_decide_eq_true rfl) rfl (by decide) rfl rfl rfl rfl (C_f0 e0 ?_)
              refine v_if_eq 51 49 dX12_back_46 (by decide) rfl (fun c46 => ?_) (fun c46 => ?_)
              · refine v_aload_n 52 dX12_back_51 rfl rfl ?_
                refine v_getfr 55 dX12_back_52 fl_X12_19 (by first | assumption | rfl) (by rfl) rfl ?_
                rw [R.1.1.2.2.2.1]
                refine v_iload_n 56 dX12_back_55 rfl rfl ?_
                refine v_invf (z := ("java/util/ArrayList", TJx4a65c, 3)) (d' := 2) (k' := 0) (n' := 0) (k2 := 30) (n2 := 2100) 61 [_] dX12_back_56 mf_X12_90 md_Jx4a65c_get_915e3 mi_Jx4a65c_get_915e3 se_Jx4a65c_get_915e3 (by simp [g_fw]; rfl) ⟨by decide, by decide +kernel⟩ (by first | assumption | rfl) (by rfl) rfl rfl (of_decide_eq_true rfl) rfl (by decide) rfl rfl rfl rfl (C_gt (tl := 52) (ta := 58) rfl rfl R.2.1.2.2.1 (by assumption) ?_)
                refine v_cast 64 dX12_back_61 ⟨_, _, rfl, rfl, cl_X12_129⟩ rfl ?_
                refine v_astore 66 dX12_back_64 (by decide) rfl rfl ?_
                dsimp only [List.set]
                have hc := a6.cl (by omega)
                have hc2 := a17.1.cl (by omega)
                have h24 := I.n24 hc2.1
                obtain ⟨a9, ha9, ea⟩ := a17.2.1.nat (by omega)
                obtain ⟨m9, m1, m2, em⟩ := a_nat (lo := 1) (hi := 8) a31 (by decide) (by decide)
                subst ea
                subst em
                have ham : a9 + m9 ≤ s_n S (cl_ y) := by
                  have q := (row_le (n := s_n S (cl_ y)) (by omega) a17.2.1).mp a17.2.2
                  rw [nI_toInt (by omega), nI_toInt (by omega)] at q
                  omega
                have ec1 : cl_ (nI a9) = a9 := nI_clamp (by omega)
                have ec2 : cl_ (nI m9) = m9 := nI_clamp (by omega)
                have Rb := R
                by_cases nac : (s_ba S (cl_ x)).1 = 0 ∧ hp_vi S.1 43 (cl_ x) 6 = 0 ∧ cv_ S (cl_ x) (cl_ y) a9 m9
                · obtain ⟨w3, w5, w4⟩ := nac
                  refine v_new (k1 := 29) (n1 := 2097) 69 47 (cl_ x) dX12_back_66 nw_X12_157 (by rfl) (by decide) (by rw [R.al (t := 47) (by decide)]; rcases (I.2.2.2.1 _ hc.1).2.2.1 with q | q; exact q.2; exact absurd w3 (by rw [q.1]; exact (by decide : ¬ (47 : Nat) = 0))) rfl rfl rfl ?_
                  have R : Rp2 (hp_new S.1 47 (cl_ x) 0, S.2) _ := R.n (by decide)
                  refine v_dup 70 dX12_back_69 rfl rfl ?_
                  refine v_aload_n 71 dX12_back_70 rfl rfl ?_
                  refine v_getfr 74 dX12_back_71 fl_X12_16 (by first | assumption | rfl) (by rfl) rfl ?_
                  rw [R.1.1.2.2.1]
                  refine v_iload_n 75 dX12_back_74 rfl rfl ?_
                  refine v_invf (z := ("java/util/ArrayList", TJx4a65c, 3)) (d' := 2) (k' := 0) (n' := 0) (k2 := 29) (n2 := 2097) 80 [_] dX12_back_75 mf_X12_90 md_Jx4a65c_get_915e3 mi_Jx4a65c_get_915e3 se_Jx4a65c_get_915e3 (by simp [g_fw]; rfl) ⟨by decide, by decide +kernel⟩ (by first | assumption | rfl) (by rfl) rfl rfl (of_decide_eq_true rfl) rfl (by decide) rfl rfl rfl rfl (C_gt (tl := 51) (ta := 57) rfl rfl R.2.1.2.1 a17.1 ?_)
                  refine v_cast 83 dX12_back_80 ⟨_, _, rfl, rfl, cl_X12_98⟩ rfl ?_
                  refine v_iload_n 84 dX12_back_83 rfl rfl ?_
                  refine v_iload 86 dX12_back_84 rfl rfl ?_
                  refine v_invi (d' := 1) (k' := 0) (n' := 0) (k2 := 29) (n2 := 2097) 89 [_, _, _] dX12_back_86 mt_X12_183 mi_X8_init rfl rfl (by first | assumption | rfl) rfl rfl (of_decide_eq_true rfl) rfl (by decide) rfl rfl rfl rfl (C_X8_init rfl (by decide) ?_)
                  have R : Rp2 (ld_ S 47 (cl_ x) (cl_ y) (nI a9) (nI m9)) (hp_seti (hp_seti (hp_setr (hp_new h0 47 (cl_ x) 0) 47 (cl_ x) 0 (42, cl_ y)) 47 (cl_ x) 1 (nI a9)) 47 (cl_ x) 2 (nI m9)) := (by unfold ld_; repeat' first | refine Rp2.i' ?_ (by decide) | refine Rp2.r' ?_ (by decide) | refine Rp2.n' ?_ (by decide) | refine Rp2.g' ?_ (by decide) | exact Rb | exact R)
                  have e0 : hp_vi (hp_seti (hp_seti (hp_setr (hp_new h0 47 (cl_ x) 0) 47 (cl_ x) 0 (42, cl_ y)) 47 (cl_ x) 1 (nI a9)) 47 (cl_ x) 2 (nI m9)) 40 0 0 = 0 := e0
                  refine v_astore 91 dX12_back_89 (by decide) rfl rfl ?_
                  dsimp only [List.set]
                  refine v_aload_n 92 dX12_back_91 rfl rfl ?_
                  refine v_aload 94 dX12_back_92 rfl rfl ?_
                  refine v_getfr 97 dX12_back_94 fl_X12_207 (by first | assumption | rfl) (by rfl) rfl ?_
                  rw [R.vr (t := 43) (by decide)]
                  refine v_ifnonnull 124 100 dX12_back_97 (by decide) rfl (fun c97 => ?_) (fun c97 => ?_)
                  · exact absurd w3 c97
                  · refine v_aload 102 dX12_back_100 rfl rfl ?_
                    refine v_getfi 105 dX12_back_102 fl_X12_210 (by first | assumption | rfl) (by rfl) rfl ?_
                    rw [R.vi (t := 43) (by decide)]
                    refine v_if_ne 124 108 dX12_back_105 (by decide) rfl (fun c105 => ?_) (fun c105 => ?_)
                    · exact absurd ((ld_te S 47 (cl_ x) (cl_ y) (nI a9) (nI m9) (t := 43) (by decide)).2.2.1 ▸ w5 : hp_vi (ld_ S 47 (cl_ x) (cl_ y) (nI a9) (nI m9)).1 43 (cl_ x) 6 = 0) c105
                    · refine v_aload 110 dX12_back_108 rfl rfl ?_
                      refine v_aload 112 dX12_back_110 rfl rfl ?_
                      refine v_getfr 115 dX12_back_112 fl_X12_164 (by first | assumption | rfl) (by rfl) rfl ?_
                      rw [show hp_vr (hp_seti (hp_seti (hp_setr (hp_new h0 47 (cl_ x) 0) 47 (cl_ x) 0 (42, cl_ y)) 47 (cl_ x) 1 (nI a9)) 47 (cl_ x) 2 (nI m9)) 47 (cl_ x) 0 = (42, cl_ y) from hp_setr_at]
                      refine v_iload_n 116 dX12_back_115 rfl rfl ?_
                      refine v_iload 118 dX12_back_116 rfl rfl ?_
                      refine v_invs (d' := 2) (k' := 0) (n' := 0) (k2 := 29) (n2 := 2097) 121 [_, _, _, _] dX12_back_118 mt_X12_190 ms_X12_canLie rfl rfl (of_decide_eq_true rfl) rfl (by decide) rfl rfl rfl rfl (C_X12_canLie (S := S) ((Rb.tg (t := 41) (by decide)).tr (by repeat' first | exact hp_te.rf | refine hp_te.tr ?_ (hp_te.i (by first | decide | omega)) | refine hp_te.tr ?_ (hp_te.r (by first | decide | omega)) | refine hp_te.tr ?_ (hp_te.n (by first | decide | omega)))) ((Rb.tg (t := 42) (by decide)).tr (by repeat' first | exact hp_te.rf | refine hp_te.tr ?_ (hp_te.i (by first | decide | omega)) | refine hp_te.tr ?_ (hp_te.r (by first | decide | omega)) | refine hp_te.tr ?_ (hp_te.n (by first | decide | omega)))) ((Rb.tg (t := 43) (by decide)).tr (by repeat' first | exact hp_te.rf | refine hp_te.tr ?_ (hp_te.i (by first | decide | omega)) | refine hp_te.tr ?_ (hp_te.r (by first | decide | omega)) | refine hp_te.tr ?_ (hp_te.n (by first | decide | omega)))) ((Rb.tg (t := 62) (by decide)).tr (by repeat' first | exact hp_te.rf | refine hp_te.tr ?_ (hp_te.i (by first | decide | omega)) | refine hp_te.tr ?_ (hp_te.r (by first | decide | omega)) | refine hp_te.tr ?_ (hp_te.n (by first | decide | omega)))) I hc2.1 ham m1 (fun g9 => ?_) (fun g9 => ?_))
                      · refine v_if_ne 128 124 dX12_back_121 (by decide) rfl (fun c121 => ?_) (fun c121 => ?_)
                        · refine v_iconstv (v := 0) 129 dX12_back_128 (by decide) rfl ?_
                          refine v_iconstv (v := 3) 130 dX12_back_129 (by decide) rfl ?_
                          refine v_invv (d' := 0) (k' := 0) (n' := 0) (k2 := 29) (n2 := 2097) 133 [_, _] dX12_back_130 mt_X12_67 mi_X12_fails me_X12_fails (by first | assumption | rfl) (by rfl) rfl rfl (of_decide_eq_true rfl) rfl (by decide) rfl rfl rfl rfl (C_f0 e0 ?_)
                          refine v_if_eq 138 136 dX12_back_133 (by decide) rfl (fun c133 => ?_) (fun c133 => ?_)
                          · refine v_aload 140 dX12_back_138 rfl rfl ?_
                            refine v_aload 142 dX12_back_140 rfl rfl ?_
                            refine v_putfr 145 dX12_back_142 pf_X12_back_207 (by first | assumption | rfl) (by first | assumption | decide) (by rfl) rfl ?_
                            refine v_aload_n 146 dX12_back_145 rfl rfl ?_
                            refine v_dup 147 dX12_back_146 rfl rfl ?_
                            refine v_getfi 150 dX12_back_147 fl_X12_213 (by first | assumption | rfl) (by rfl) rfl ?_
                            rw [show hp_vi (hp_setr (hp_seti (hp_seti (hp_setr (hp_new h0 47 (cl_ x) 0) 47 (cl_ x) 0 (42, cl_ y)) 47 (cl_ x) 1 (nI a9)) 47 (cl_ x) 2 (nI m9)) 43 (cl_ x) 4 (47, cl_ x)) 40 0 8 = hp_vi S.1 40 0 8 from by show hp_vi (hp_seti (hp_seti (hp_setr (hp_new h0 47 (cl_ x) 0) 47 (cl_ x) 0 (42, cl_ y)) 47 (cl_ x) 1 (nI a9)) 47 (cl_ x) 2 (nI m9)) 40 0 8 = _; rw [R.1.2 8 (by decide) (by decide), (ld_te S 47 (cl_ x) (cl_ y) (nI a9) (nI m9) (t := 40) (by decide)).2.2.1]]
                            refine v_aload 152 dX12_back_150 rfl rfl ?_
                            refine v_getfi 155 dX12_back_152 fl_X12_140 (by first | assumption | rfl) (by rfl) rfl ?_
                            rw [show ∀ z, hp_vi (hp_setr (hp_seti (hp_seti (hp_setr (hp_new h0 47 (cl_ x) 0) 47 (cl_ x) 0 (42, cl_ y)) 47 (cl_ x) 1 (nI a9)) 47 (cl_ x) 2 (nI m9)) 43 (cl_ x) 4 (47, cl_ x)) 43 (cl_ x) z = hp_vi S.1 43 (cl_ x) z from fun z => by show hp_vi (hp_seti (hp_seti (hp_setr (hp_new h0 47 (cl_ x) 0) 47 (cl_ x) 0 (42, cl_ y)) 47 (cl_ x) 1 (nI a9)) 47 (cl_ x) 2 (nI m9)) 43 (cl_ x) z = _; rw [R.vi (t := 43) (by decide), (ld_te S 47 (cl_ x) (cl_ y) (nI a9) (nI m9) (t := 43) (by decide)).2.2.1]]
                            refine v_aload 157 dX12_back_155 rfl rfl ?_
                            refine v_getfi 160 dX12_back_157 fl_X12_149 (by first | assumption | rfl) (by rfl) rfl ?_
                            rw [show ∀ z, hp_vi (hp_setr (hp_seti (hp_seti (hp_setr (hp_new h0 47 (cl_ x) 0) 47 (cl_ x) 0 (42, cl_ y)) 47 (cl_ x) 1 (nI a9)) 47 (cl_ x) 2 (nI m9)) 43 (cl_ x) 4 (47, cl_ x)) 43 (cl_ x) z = hp_vi S.1 43 (cl_ x) z from fun z => by show hp_vi (hp_seti (hp_seti (hp_setr (hp_new h0 47 (cl_ x) 0) 47 (cl_ x) 0 (42, cl_ y)) 47 (cl_ x) 1 (nI a9)) 47 (cl_ x) 2 (nI m9)) 43 (cl_ x) z = _; rw [R.vi (t := 43) (by decide), (ld_te S 47 (cl_ x) (cl_ y) (nI a9) (nI m9) (t := 43) (by decide)).2.2.1]]
                            refine v_imul 161 dX12_back_160 rfl ?_
                            refine v_iadd 162 dX12_back_161 rfl ?_
                            refine v_putfi 165 dX12_back_162 pf_X12_back_213 (by first | assumption | rfl) (by first | assumption | decide) (by rfl) rfl rfl rfl ?_
                            have R : Rp2 (bc_ S (cl_ x) (cl_ y) (nI a9) (nI m9)) (hp_seti (hp_setr (hp_seti (hp_seti (hp_setr (hp_new h0 47 (cl_ x) 0) 47 (cl_ x) 0 (42, cl_ y)) 47 (cl_ x) 1 (nI a9)) 47 (cl_ x) 2 (nI m9)) 43 (cl_ x) 4 (47, cl_ x)) 40 0 8 (hp_vi S.1 40 0 8 + hp_vi S.1 43 (cl_ x) 0 * hp_vi S.1 43 (cl_ x) 1)) := (R.r (t := 43) (i := cl_ x) (k := 4) (x := (47, cl_ x)) (by decide)).g (k := 8) (x := hp_vi S.1 40 0 8 + hp_vi S.1 43 (cl_ x) 0 * hp_vi S.1 43 (cl_ x) 1) (by decide)
                            have BT : ∀ t, ¬ t = 47 → ¬ t = 43 → ¬ t = 40 → hp_te S.1 (bc_ S (cl_ x) (cl_ y) (nI a9) (nI m9)).1 t := fun t n1 n2 n3 => ((ld_te S 47 (cl_ x) (cl_ y) (nI a9) (nI m9) n1).tr (hp_te.r n2)).tr (hp_te.i n3)
                            have BV : hp_vr (bc_ S (cl_ x) (cl_ y) (nI a9) (nI m9)).1 47 (cl_ x) 0 = (42, cl_ y) ∧ hp_vi (bc_ S (cl_ x) (cl_ y) (nI a9) (nI m9)).1 47 (cl_ x) 1 = nI a9 ∧ hp_vi (bc_ S (cl_ x) (cl_ y) (nI a9) (nI m9)).1 47 (cl_ x) 2 = nI m9 := ⟨(hp_setr_ne (by simp)).trans (ld_v S 47 (cl_ x) (cl_ y) (nI a9) (nI m9)).1, (hp_seti_ne (by simp)).trans (ld_v S 47 (cl_ x) (cl_ y) (nI a9) (nI m9)).2.1, (hp_seti_ne (by simp)).trans (ld_v S 47 (cl_ x) (cl_ y) (nI a9) (nI m9)).2.2⟩
                            refine v_aload_n 166 dX12_back_165 rfl rfl ?_
                            refine v_aload 168 dX12_back_166 rfl rfl ?_
                            refine v_aload 170 dX12_back_168 rfl rfl ?_
                            refine v_invv (d' := 9) (k' := 20) (n' := 2000) (k2 := 9) (n2 := 97) 173 [_, _] dX12_back_170 mt_X12_194 mi_X12_lays me_X12_lays (by first | assumption | rfl) (by rfl) rfl rfl (of_decide_eq_true rfl) rfl (by decide) rfl rfl rfl rfl (C_X12_lays (S0 := S) (S := (bc_ S (cl_ x) (cl_ y) (nI a9) (nI m9))) (u := 47) (p := cl_ x) (f := cl_ y) (a := a9) (m := m9) I (BT 41 (by decide) (by decide) (by decide)) (BT 42 (by decide) (by decide) (by decide)) rfl rfl (Or.inr rfl) BV.1 BV.2.1 BV.2.2 hc2.1 ham m1 m2 (fun i hi => by show (if 45 = 47 ∧ i = cl_ x then true else hp_al S.1 45 i) = false; rw [if_neg (by omega)]; exact I.2.2.2.2.2.1.2.2.2.2.1 i hi) (fun h8 R8 e8 ke8 => ?_) R ((hp_seti_ne (by simp)).trans e0))
                            refine v_ireturn dX12_back_173 rfl ?_
                            have ev : op_back S x y (nI a9) (nI m9) = (0, (ly_ (bc_ S (cl_ x) (cl_ y) (nI a9) (nI m9)) (cl_ x) (cl_ y) a9 m9).2, ws_up (ly_ (bc_ S (cl_ x) (cl_ y) (nI a9) (nI m9)) (cl_ x) (cl_ y) a9 m9).1 (ly_ (bc_ S (cl_ x) (cl_ y) (nI a9) (nI m9)) (cl_ x) (cl_ y) a9 m9).2) := by unfold op_back; rw [if_pos a6, if_pos a17, if_pos a31, ec1, ec2, if_pos w3, if_pos w5, if_pos w4]
                            rw [ev] at hq
                            exact hq _ _ (fun _ => rfl) R8 e8 ((ke0.tr ((((((ke_.n (by decide) (by decide)).tr (ke_.r (by decide) (by decide))).tr (ke_.i (by decide) (by decide))).tr (ke_.i (by decide) (by decide))).tr (ke_.r (by decide) (by decide))).tr (ke_.i (by decide) (by decide)))).tr ke8)
                          · first | exact absurd c133 (by decide) | exact absurd rfl c133 | exact absurd (of_decide_eq_true rfl) c133
                        · first | exact absurd c121 (by decide) | exact absurd rfl c121 | exact absurd (of_decide_eq_true rfl) c121
                      · exact absurd w4 g9
                · obtain ⟨g, hg⟩ := Fr 70 (by decide) (by decide)
                  refine v_new (k1 := 29) (n1 := 2097) 69 70 g dX12_back_66 nw_X12_157 (by rfl) (by decide) (hg g (Nat.le_refl _)) rfl rfl rfl ?_
                  have R : Rp2 S (hp_new h0 70 g 0) := R.te (fun u hu => hp_te.n (by omega))
                  refine v_dup 70 dX12_back_69 rfl rfl ?_
                  refine v_aload_n 71 dX12_back_70 rfl rfl ?_
                  refine v_getfr 74 dX12_back_71 fl_X12_16 (by first | assumption | rfl) (by rfl) rfl ?_
                  rw [R.1.1.2.2.1]
                  refine v_iload_n 75 dX12_back_74 rfl rfl ?_
                  refine v_invf (z := ("java/util/ArrayList", TJx4a65c, 3)) (d' := 2) (k' := 0) (n' := 0) (k2 := 29) (n2 := 2097) 80 [_] dX12_back_75 mf_X12_90 md_Jx4a65c_get_915e3 mi_Jx4a65c_get_915e3 se_Jx4a65c_get_915e3 (by simp [g_fw]; rfl) ⟨by decide, by decide +kernel⟩ (by first | assumption | rfl) (by rfl) rfl rfl (of_decide_eq_true rfl) rfl (by decide) rfl rfl rfl rfl (C_gt (tl := 51) (ta := 57) rfl rfl R.2.1.2.1 a17.1 ?_)
                  refine v_cast 83 dX12_back_80 ⟨_, _, rfl, rfl, cl_X12_98⟩ rfl ?_
                  refine v_iload_n 84 dX12_back_83 rfl rfl ?_
                  refine v_iload 86 dX12_back_84 rfl rfl ?_
                  refine v_invi (d' := 1) (k' := 0) (n' := 0) (k2 := 29) (n2 := 2097) 89 [_, _, _] dX12_back_86 mt_X12_183 mi_X8_init rfl rfl (by first | assumption | rfl) rfl rfl (of_decide_eq_true rfl) rfl (by decide) rfl rfl rfl rfl (C_X8_init rfl (by decide) ?_)
                  have R : Rp2 S (hp_seti (hp_seti (hp_setr (hp_new h0 70 g 0) 70 g 0 (42, cl_ y)) 70 g 1 (nI a9)) 70 g 2 (nI m9)) := Rb.tmp (by decide)
                  have e0 : hp_vi (hp_seti (hp_seti (hp_setr (hp_new h0 70 g 0) 70 g 0 (42, cl_ y)) 70 g 1 (nI a9)) 70 g 2 (nI m9)) 40 0 0 = 0 := e0
                  refine v_astore 91 dX12_back_89 (by decide) rfl rfl ?_
                  dsimp only [List.set]
                  refine v_aload_n 92 dX12_back_91 rfl rfl ?_
                  refine v_aload 94 dX12_back_92 rfl rfl ?_
                  refine v_getfr 97 dX12_back_94 fl_X12_207 (by first | assumption | rfl) (by rfl) rfl ?_
                  rw [R.vr (t := 43) (by decide)]
                  refine v_ifnonnull 124 100 dX12_back_97 (by decide) rfl (fun c97 => ?_) (fun c97 => ?_)
                  · refine v_iconstv (v := 1) 125 dX12_back_124 (by decide) rfl ?_
                    refine v_goto 129 dX12_back_125 (by decide) ?_
                    refine v_iconstv (v := 3) 130 dX12_back_129 (by decide) rfl ?_
                    refine v_invv (d' := 0) (k' := 0) (n' := 0) (k2 := 29) (n2 := 2097) 133 [_, _] dX12_back_130 mt_X12_67 mi_X12_fails me_X12_fails (by first | assumption | rfl) (by rfl) rfl rfl (of_decide_eq_true rfl) rfl (by decide) rfl rfl rfl rfl (C_f1 e0 (by decide) ?_)
                    refine v_if_eq 138 136 dX12_back_133 (by decide) rfl (fun c133 => ?_) (fun c133 => ?_)
                    · first | exact absurd c133 (by decide) | exact absurd rfl c133 | exact absurd (of_decide_eq_true rfl) c133
                    · refine v_iconstv (v := -1) 137 dX12_back_136 (by decide) rfl ?_
                      refine v_ireturn dX12_back_137 rfl ?_
                      have ev : op_back S x y (nI a9) (nI m9) = (3, 0, S) := by
                        unfold op_back
                        rw [if_pos a6, if_pos a17, if_pos a31, ec1, ec2]
                        by_cases q : (s_ba S (cl_ x)).1 = 0
                        · rw [if_pos q]
                          by_cases q2 : hp_vi S.1 43 (cl_ x) 6 = 0
                          · rw [if_pos q2, if_neg (fun w => nac ⟨q, q2, w⟩)]
                          · rw [if_neg q2]
                        · rw [if_neg q]
                      rw [ev] at hq
                      exact hq _ _ (fun e => absurd e (Nat.succ_ne_zero _)) R.th hp_seti_at ((ke0.tr ((((ke_.n (by decide) (by decide)).tr (ke_.r (by decide) (by decide))).tr (ke_.i (by decide) (by decide))).tr (ke_.i (by decide) (by decide)))).tr (ke_.i (by decide) (by decide)))
                  · refine v_aload 102 dX12_back_100 rfl rfl ?_
                    refine v_getfi 105 dX12_back_102 fl_X12_210 (by first | assumption | rfl) (by rfl) rfl ?_
                    rw [R.vi (t := 43) (by decide)]
                    refine v_if_ne 124 108 dX12_back_105 (by decide) rfl (fun c105 => ?_) (fun c105 => ?_)
                    · refine v_iconstv (v := 1) 125 dX12_back_124 (by decide) rfl ?_
                      refine v_goto 129 dX12_back_125 (by decide) ?_
                      refine v_iconstv (v := 3) 130 dX12_back_129 (by decide) rfl ?_
                      refine v_invv (d' := 0) (k' := 0) (n' := 0) (k2 := 29) (n2 := 2097) 133 [_, _] dX12_back_130 mt_X12_67 mi_X12_fails me_X12_fails (by first | assumption | rfl) (by rfl) rfl rfl (of_decide_eq_true rfl) rfl (by decide) rfl rfl rfl rfl (C_f1 e0 (by decide) ?_)
                      refine v_if_eq 138 136 dX12_back_133 (by decide) rfl (fun c133 => ?_) (fun c133 => ?_)
                      · first | exact absurd c133 (by decide) | exact absurd rfl c133 | exact absurd (of_decide_eq_true rfl) c133
                      · refine v_iconstv (v := -1) 137 dX12_back_136 (by decide) rfl ?_
                        refine v_ireturn dX12_back_137 rfl ?_
                        have ev : op_back S x y (nI a9) (nI m9) = (3, 0, S) := by
                          unfold op_back
                          rw [if_pos a6, if_pos a17, if_pos a31, ec1, ec2]
                          by_cases q : (s_ba S (cl_ x)).1 = 0
                          · rw [if_pos q]
                            by_cases q2 : hp_vi S.1 43 (cl_ x) 6 = 0
                            · rw [if_pos q2, if_neg (fun w => nac ⟨q, q2, w⟩)]
                            · rw [if_neg q2]
                          · rw [if_neg q]
                        rw [ev] at hq
                        exact hq _ _ (fun e => absurd e (Nat.succ_ne_zero _)) R.th hp_seti_at ((ke0.tr ((((ke_.n (by decide) (by decide)).tr (ke_.r (by decide) (by decide))).tr (ke_.i (by decide) (by decide))).tr (ke_.i (by decide) (by decide)))).tr (ke_.i (by decide) (by decide)))
                    · refine v_aload 110 dX12_back_108 rfl rfl ?_
                      refine v_aload 112 dX12_back_110 rfl rfl ?_
                      refine v_getfr 115 dX12_back_112 fl_X12_164 (by first | assumption | rfl) (by rfl) rfl ?_
                      rw [show hp_vr (hp_seti (hp_seti (hp_setr (hp_new h0 70 g 0) 70 g 0 (42, cl_ y)) 70 g 1 (nI a9)) 70 g 2 (nI m9)) 70 g 0 = (42, cl_ y) from hp_setr_at]
                      refine v_iload_n 116 dX12_back_115 rfl rfl ?_
                      refine v_iload 118 dX12_back_116 rfl rfl ?_
                      refine v_invs (d' := 2) (k' := 0) (n' := 0) (k2 := 29) (n2 := 2097) 121 [_, _, _, _] dX12_back_118 mt_X12_190 ms_X12_canLie rfl rfl (of_decide_eq_true rfl) rfl (by decide) rfl rfl rfl rfl (C_X12_canLie (S := S) (R.tg (t := 41) (by decide)) (R.tg (t := 42) (by decide)) (R.tg (t := 43) (by decide)) (R.tg (t := 62) (by decide)) I hc2.1 ham m1 (fun g9 => ?_) (fun g9 => ?_))
                      · exact absurd ⟨c97, c105, g9⟩ nac
                      · refine v_if_ne 128 124 dX12_back_121 (by decide) rfl (fun c121 => ?_) (fun c121 => ?_)
                        · first | exact absurd c121 (by decide) | exact absurd rfl c121 | exact absurd (of_decide_eq_true rfl) c121
                        · refine v_iconstv (v := 1) 125 dX12_back_124 (by decide) rfl ?_
                          refine v_goto 129 dX12_back_125 (by decide) ?_
                          refine v_iconstv (v := 3) 130 dX12_back_129 (by decide) rfl ?_
                          refine v_invv (d' := 0) (k' := 0) (n' := 0) (k2 := 29) (n2 := 2097) 133 [_, _] dX12_back_130 mt_X12_67 mi_X12_fails me_X12_fails (by first | assumption | rfl) (by rfl) rfl rfl (of_decide_eq_true rfl) rfl (by decide) rfl rfl rfl rfl (C_f1 e0 (by decide) ?_)
                          refine v_if_eq 138 136 dX12_back_133 (by decide) rfl (fun c133 => ?_) (fun c133 => ?_)
                          · first | exact absurd c133 (by decide) | exact absurd rfl c133 | exact absurd (of_decide_eq_true rfl) c133
                          · refine v_iconstv (v := -1) 137 dX12_back_136 (by decide) rfl ?_
                            refine v_ireturn dX12_back_137 rfl ?_
                            have ev : op_back S x y (nI a9) (nI m9) = (3, 0, S) := by
                              unfold op_back
                              rw [if_pos a6, if_pos a17, if_pos a31, ec1, ec2]
                              by_cases q : (s_ba S (cl_ x)).1 = 0
                              · rw [if_pos q]
                                by_cases q2 : hp_vi S.1 43 (cl_ x) 6 = 0
                                · rw [if_pos q2, if_neg (fun w => nac ⟨q, q2, w⟩)]
                                · rw [if_neg q2]
                              · rw [if_neg q]
                            rw [ev] at hq
                            exact hq _ _ (fun e => absurd e (Nat.succ_ne_zero _)) R.th hp_seti_at ((ke0.tr ((((ke_.n (by decide) (by decide)).tr (ke_.r (by decide) (by decide))).tr (ke_.i (by decide) (by decide))).tr (ke_.i (by decide) (by decide)))).tr (ke_.i (by decide) (by decide)))
              · first | exact absurd c46 (by decide) | exact absurd rfl c46 | exact absurd (of_decide_eq_true rfl) c46
            · first | exact absurd c34 (by decide) | exact absurd rfl c34 | exact absurd (of_decide_eq_true rfl) c34
          · refine v_if_ne 41 37 dX12_back_34 (by decide) rfl (fun c34 => ?_) (fun c34 => ?_)
            · first | exact absurd c34 (by decide) | exact absurd rfl c34 | exact absurd (of_decide_eq_true rfl) c34
            · refine v_iconstv (v := 1) 38 dX12_back_37 (by decide) rfl ?_
              refine v_goto 42 dX12_back_38 (by decide) ?_
              refine v_iconstv (v := 2) 43 dX12_back_42 (by decide) rfl ?_
              refine v_invv (d' := 0) (k' := 0) (n' := 0) (k2 := 30) (n2 := 2100) 46 [_, _] dX12_back_43 mt_X12_67 mi_X12_fails me_X12_fails (by first | assumption | rfl) (by rfl) rfl rfl (of_decide_eq_true rfl) rfl (by decide) rfl rfl rfl rfl (C_f1 e0 (by decide) ?_)
              refine v_if_eq 51 49 dX12_back_46 (by decide) rfl (fun c46 => ?_) (fun c46 => ?_)
              · first | exact absurd c46 (by decide) | exact absurd rfl c46 | exact absurd (of_decide_eq_true rfl) c46
              · refine v_iconstv (v := -1) 50 dX12_back_49 (by decide) rfl ?_
                refine v_ireturn dX12_back_50 rfl ?_
                have ev : op_back S x y a m = (2, 0, S) := by unfold op_back; simp only [eq_true a6, eq_true a17, b31, ↓reduceIte, and_self, and_true, true_and, and_false, false_and, not_true_eq_false, not_false_eq_true]
                rw [ev] at hq
                exact hq _ _ (fun e => absurd e (Nat.succ_ne_zero _)) R.th hp_seti_at (ke0.tr (ke_.i (by decide) (by decide)))
      · refine v_if_ne 49 23 dX12_back_20 (by decide) rfl (fun c20 => ?_) (fun c20 => ?_)
        · refine v_iconstv (v := -1) 50 dX12_back_49 (by decide) rfl ?_
          refine v_ireturn dX12_back_50 rfl ?_
          have ev : op_back S x y a m = (1, 0, S) := by unfold op_back; simp only [eq_true a6, b17, ↓reduceIte, and_self, and_true, true_and, and_false, false_and, not_true_eq_false, not_false_eq_true]
          rw [ev] at hq
          exact hq _ _ (fun e => absurd e (Nat.succ_ne_zero _)) R.th hp_seti_at (ke0.tr (ke_.i (by decide) (by decide)))
        · first | exact absurd c20 (by decide) | exact absurd rfl c20 | exact absurd (of_decide_eq_true rfl) c20
  · refine v_if_ne 49 12 dX12_back_9 (by decide) rfl (fun c9 => ?_) (fun c9 => ?_)
    · refine v_iconstv (v := -1) 50 dX12_back_49 (by decide) rfl ?_
      refine v_ireturn dX12_back_50 rfl ?_
      have ev : op_back S x y a m = (1, 0, S) := by unfold op_back; simp only [b6, ↓reduceIte, and_self, and_true, true_and, and_false, false_and, not_true_eq_false, not_false_eq_true]
      rw [ev] at hq
      exact hq _ _ (fun e => absurd e (Nat.succ_ne_zero _)) R.th hp_seti_at (ke0.tr (ke_.i (by decide) (by decide)))
    · first | exact absurd c9 (by decide) | exact absurd rfl c9 | exact absurd (of_decide_eq_true rfl) c9
