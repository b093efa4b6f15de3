set_option maxRecDepth 20000 in
theorem C0_X4_surface {G : GW} {h : PH} {Q : RS → PH → Prop} {p : Nat} (hq : Q (.inl (some (pv_I (hp_vi h 13 p 0 * hp_vi h 13 p 1)))) h) : VV G 0 0 0 yX4_surface cX4_surface 1 (some .int) [] 0 (vv_en 1 [pv_O (13, p)]) [] h Q := by
  show VV G 0 0 0 yX4_surface cX4_surface 1 (some .int) [] 0 [some (pv_O (13, p))] [] h Q
  refine v_aload_n 1 dX4_surface_0 rfl rfl ?_
  refine v_getfi 4 dX4_surface_1 fl_X4_9 (by first | assumption | rfl) (by rfl) rfl ?_
  refine v_aload_n 5 dX4_surface_4 rfl rfl ?_
  refine v_getfi 8 dX4_surface_5 fl_X4_15 (by first | assumption | rfl) (by rfl) rfl ?_
  refine v_imul 9 dX4_surface_8 rfl ?_
  refine v_ireturn dX4_surface_9 rfl ?_
  exact hq
def op_face (S : SP) (x y a m mt : Int32) : Nat × Int32 × SP := if ok_i x (nn_ S 2) then (if ok_r_ S y a m then (if ¬ ixf_ mt tx_m 0 < 0 ∧ (1 ≤ m ∧ m ≤ 8) then (if (s_fa S (cl_ x)).1 = 0 then (if cv_ S (cl_ x) (cl_ y) (cl_ a) (cl_ m) then (0, s_jp S (cl_ y) (cl_ a) (cl_ m) mt, ws_up (ly_ (fc_ S (cl_ x) (cl_ y) a m (s_jp S (cl_ y) (cl_ a) (cl_ m) mt)) (cl_ x) (cl_ y) (cl_ a) (cl_ m)).1 (ly_ (fc_ S (cl_ x) (cl_ y) a m (s_jp S (cl_ y) (cl_ a) (cl_ m) mt)) (cl_ x) (cl_ y) (cl_ a) (cl_ m)).2) else (3, 0, S)) else (3, 0, S)) else (2, 0, S)) else (1, 0, S)) else (1, 0, S)
set_option maxRecDepth 20000 in
theorem C_X6_face {G : GW} {h : PH} {Q : RS → PH → Prop} {S : SP} {N : Nat} (R : Rp1 S h) (I : Iv S N) {x y a m mt : Int32} (hmt : 0 ≤ mt ∧ mt ≤ 65535) (hq : ∀ h', Rp1 (op_face S x y a m mt).2.2 h' → (∀ t, t < 10 ∨ 40 ≤ t → hp_te h h' t) → Q (an_ "java/lang/IndexOutOfBoundsException" "java/lang/IllegalArgumentException" "java/lang/UnsupportedOperationException" ((op_face S x y a m mt).1, (op_face S x y a m mt).2.1)) h') : VV G 11 26 2060 yX6_face cX6_face 8 (some .int) [] 0 (vv_en 8 [pv_O (10, 0), pv_I x, pv_I y, pv_I a, pv_I m, pv_I mt]) [] h Q := by
  show VV G 11 26 2060 yX6_face cX6_face 8 (some .int) [] 0 [some (pv_O (10, 0)), some (pv_I x), some (pv_I y), some (pv_I a), some (pv_I m), some (pv_I mt), none, none] [] h Q
  obtain ⟨R0, RL, R1, R2, R3, R4, R5⟩ := id R
  obtain ⟨z0, z1, z2, z3, z4, z5⟩ := I.cs
  unfold op_face at hq
  refine v_aload_n 1 dX6_face_0 rfl rfl ?_
  refine v_iload_n 2 dX6_face_1 rfl rfl ?_
  refine v_invv (d' := 6) (k' := 1) (n' := 6) (k2 := 25) (n2 := 2054) 5 [_] dX6_face_2 mt_X6_113 mi_X6_panelOf me_X6_panelOf (by first | assumption | rfl) (by rfl) rfl rfl (of_decide_eq_true rfl) rfl (by decide) rfl rfl rfl rfl (C_X6_panelOf R0 RL (fun e => ?_) (fun ho => ?_))
  · rw [if_neg e] at hq
    exact vv_out (hq h R (fun _ _ => hp_te.rf))
  rw [if_pos ho] at hq
  have hc := ho.cl (by omega)
  have F := R3.1 _ hc.1
  have hfa := fun w => R2.1 _ (I.fa hc.1 w).2.2.2.1
  have hba := fun w => R2.1 _ (I.ba hc.1 w).2.2.2.1
  obtain ⟨j0, j1, j2, j3, j4, j5, j6, j7, j8, j9, j10, j11⟩ := I.2.2.2.1 _ hc.1
  refine v_astore 7 dX6_face_5 (by decide) rfl rfl ?_
  dsimp only [List.set]
  refine v_aload_n 8 dX6_face_7 rfl rfl ?_
  refine v_iload_n 9 dX6_face_8 rfl rfl ?_
  refine v_iload_n 10 dX6_face_9 rfl rfl ?_
  refine v_iload 12 dX6_face_10 rfl rfl ?_
  refine v_invv (d' := 7) (k' := 2) (n' := 12) (k2 := 23) (n2 := 2042) 15 [_, _, _] dX6_face_12 mt_X6_117 mi_X6_flitchWithLeaves me_X6_flitchWithLeaves (by first | assumption | rfl) (by rfl) rfl rfl (of_decide_eq_true rfl) rfl (by decide) rfl rfl rfl rfl (C_X6_flitchWithLeaves R0 RL R2 (fun e => ?_) (fun hy => ?_))
  · rw [if_neg e] at hq
    exact vv_out (hq h R (fun _ _ => hp_te.rf))
  rw [if_pos hy] at hq
  have hcy := hy.1.cl (by omega)
  have F2 := R2.1 _ hcy.1
  have n24 := I.n24 hcy.1
  obtain ⟨a9, ha9, rfl⟩ := hy.2.1.nat (by omega)
  refine v_astore 17 dX6_face_15 (by decide) rfl rfl ?_
  dsimp only [List.set]
  refine v_ldcs (i := 4) (tx := "bsr") 19 dX6_face_17 (by first | (simp [g_sx]; done) | (simp [g_sx]; rfl)) (by decide) rfl ?_
  refine v_iload 21 dX6_face_19 rfl rfl ?_
  refine v_invs (d' := 4) (k' := 0) (n' := 0) (k2 := 23) (n2 := 2042) 24 [_, _] dX6_face_21 mt_X6_34 ms_X6_isOneOf rfl rfl (of_decide_eq_true rfl) rfl (by decide) rfl rfl rfl rfl (C_X6_isOneOf (i0 := 4) (by decide) hmt.1 ?_)
  refine v_if_eq 38 27 dX6_face_24 (by decide) rfl (fun c24 => ?_) (fun c24 => ?_)
  · have c24 := f0_0.mp c24
    rw [if_neg (fun q => by first | exact q.1 c24 | exact c35 q.2)] at hq
    refine v_throw dX6_face_38 dX6_face_41 dX6_face_42 dX6_face_45 rfl th_X6_44_46 rfl (by decide) (by decide) (by decide) ?_
    exact hq h R (fun _ _ => hp_te.rf)
  · have c24 := fun q => c24 (f0_0.mpr q)
    refine v_iload 29 dX6_face_27 rfl rfl ?_
    refine v_iconstv (v := 1) 30 dX6_face_29 (by decide) rfl ?_
    refine v_bipushv (v := 8) 32 dX6_face_30 (by decide) rfl ?_
    refine v_invs (d' := 0) (k' := 0) (n' := 0) (k2 := 23) (n2 := 2042) 35 [_, _, _] dX6_face_32 mt_X6_40 ms_X6_isIn rfl rfl (of_decide_eq_true rfl) rfl (by decide) rfl rfl rfl rfl (C_X6_isIn ?_)
    refine v_if_ne 46 38 dX6_face_35 (by decide) rfl (fun c35 => ?_) (fun c35 => ?_)
    · have c35 := Decidable.not_not.mp (fun q => c35 (f1_0.mpr q))
      rw [if_pos ⟨c24, c35⟩] at hq
      obtain ⟨m9, hm1, hm8, rfl⟩ := a_nat (lo := 1) (hi := 8) c35 (by decide) (by decide)
      have ham : a9 + m9 ≤ s_n S (cl_ y) := by
        have q := hy.2.2
        rw [pk_sub (by omega)] at q
        rcases Nat.lt_or_ge (s_n S (cl_ y) - a9) m9 with z | z
        · exact absurd q (nI_ge z (by omega))
        · omega
      have eca : cl_ (nI a9) = a9 := nI_clamp (by omega)
      have ecm : cl_ (nI m9) = m9 := nI_clamp (by omega)
      rw [eca, ecm] at hq
      refine v_aload 48 dX6_face_46 rfl rfl ?_
      refine v_getfr 51 dX6_face_48 fl_X6_123 (by first | assumption | rfl) (by rfl) rfl ?_
      refine v_ifnonnull 67 54 dX6_face_51 (by decide) rfl (fun c51 => ?_) (fun c51 => ?_)
      · have w := ((rr_0 (by decide) F.1.2.1).2 c51).1
        rw [if_neg w] at hq
        refine v_throw dX6_face_67 dX6_face_70 dX6_face_71 dX6_face_74 rfl th_X6_73_75 rfl (by decide) (by decide) (by decide) ?_
        exact hq h R (fun _ _ => hp_te.rf)
      · have w := ((rr_0 (by decide) F.1.2.1).1 c51).1
        rw [if_pos w] at hq
        refine v_aload 56 dX6_face_54 rfl rfl ?_
        refine v_aload 58 dX6_face_56 rfl rfl ?_
        refine v_iload_n 59 dX6_face_58 rfl rfl ?_
        refine v_iload 61 dX6_face_59 rfl rfl ?_
        refine v_invs (d' := 2) (k' := 0) (n' := 0) (k2 := 23) (n2 := 2042) 64 [_, _, _, _] dX6_face_61 mt_X6_127 ms_X6_canCover rfl rfl (of_decide_eq_true rfl) rfl (by decide) rfl rfl rfl rfl (C_X6_canCover F F2 n24 (I.u01 hcy.1) ham hm1 ?_)
        refine v_if_ne 75 67 dX6_face_64 (by decide) rfl (fun c64 => ?_) (fun c64 => ?_)
        · have c64 := Decidable.not_not.mp (fun q => c64 (f1_0.mpr q))
          rw [if_pos c64] at hq
          refine v_aload 77 dX6_face_75 rfl rfl ?_
          refine v_new (k1 := 22) (n1 := 2039) 80 16 (cl_ x) dX6_face_77 nw_X6_131 (by rfl) (by decide) (F.2.2.2.1 w) rfl rfl rfl ?_
          refine v_dup 81 dX6_face_80 rfl rfl ?_
          refine v_aload 83 dX6_face_81 rfl rfl ?_
          refine v_iload_n 84 dX6_face_83 rfl rfl ?_
          refine v_iload 86 dX6_face_84 rfl rfl ?_
          refine v_invi (d' := 1) (k' := 0) (n' := 0) (k2 := 22) (n2 := 2039) 89 [_, _, _] dX6_face_86 mt_X6_133 mi_X3_init rfl rfl (by first | assumption | rfl) rfl rfl (of_decide_eq_true rfl) rfl (by decide) rfl rfl rfl rfl (C_X3_init rfl (by decide) ?_)
          refine v_putfr 92 dX6_face_89 pf_X6_face_123 (by first | assumption | rfl) (by first | assumption | decide) (by rfl) rfl ?_
          refine v_aload 94 dX6_face_92 rfl rfl ?_
          refine v_aload 96 dX6_face_94 rfl rfl ?_
          refine v_iload_n 97 dX6_face_96 rfl rfl ?_
          refine v_iload 99 dX6_face_97 rfl rfl ?_
          refine v_iload 101 dX6_face_99 rfl rfl ?_
          refine v_invs (d' := 2) (k' := 0) (n' := 0) (k2 := 22) (n2 := 2039) 104 [_, _, _, _] dX6_face_101 mt_X6_136 ms_X6_jumpOf rfl rfl (of_decide_eq_true rfl) rfl (by decide) rfl rfl rfl rfl (C_X6_jumpOf (F2.te (by repeat' first | exact hp_te.rf | refine hp_te.tr ?_ (hp_te.i (by first | decide | omega)) | refine hp_te.tr ?_ (hp_te.r (by first | decide | omega)) | refine hp_te.tr ?_ (hp_te.n (by first | decide | omega))) (by repeat' first | exact hp_te.rf | refine hp_te.tr ?_ (hp_te.i (by first | decide | omega)) | refine hp_te.tr ?_ (hp_te.r (by first | decide | omega)) | refine hp_te.tr ?_ (hp_te.n (by first | decide | omega))) (by repeat' first | exact hp_te.rf | refine hp_te.tr ?_ (hp_te.i (by first | decide | omega)) | refine hp_te.tr ?_ (hp_te.r (by first | decide | omega)) | refine hp_te.tr ?_ (hp_te.n (by first | decide | omega))) (by repeat' first | exact hp_te.rf | refine hp_te.tr ?_ (hp_te.i (by first | decide | omega)) | refine hp_te.tr ?_ (hp_te.r (by first | decide | omega)) | refine hp_te.tr ?_ (hp_te.n (by first | decide | omega))) hp_te.rf hp_te.rf hp_te.rf) n24 ham hm1 ?_)
          refine v_putfi 107 dX6_face_104 pf_X6_face_140 (by first | assumption | rfl) (by first | assumption | decide) (by rfl) rfl rfl rfl ?_
          refine v_aload 109 dX6_face_107 rfl rfl ?_
          refine v_bipushv (v := 10) 111 dX6_face_109 (by decide) rfl ?_
          refine v_aload 113 dX6_face_111 rfl rfl ?_
          refine v_getfi 116 dX6_face_113 fl_X6_143 (by first | assumption | rfl) (by rfl) rfl ?_
          rw [show hp_vi (hp_seti (hp_setr (hp_seti (hp_seti (hp_setr (hp_new h 16 (cl_ x) 0) 16 (cl_ x) 0 (12, cl_ y)) 16 (cl_ x) 1 (nI a9)) 16 (cl_ x) 2 (nI m9)) 13 (cl_ x) 4 (16, cl_ x)) 13 (cl_ x) 6 (s_jp S (cl_ y) a9 m9 mt)) 12 (cl_ y) 0 = hp_vi S.1 42 (cl_ y) 2 from F2.2.1.1]
          refine v_imul 117 dX6_face_116 rfl ?_
          refine v_putfi 120 dX6_face_117 pf_X6_face_146 (by first | assumption | rfl) (by first | assumption | decide) (by rfl) rfl rfl rfl ?_
          refine v_aload_n 121 dX6_face_120 rfl rfl ?_
          refine v_dup 122 dX6_face_121 rfl rfl ?_
          refine v_getfi 125 dX6_face_122 fl_X6_149 (by first | assumption | rfl) (by rfl) rfl ?_
          rw [show hp_vi (hp_seti (hp_seti (hp_setr (hp_seti (hp_seti (hp_setr (hp_new h 16 (cl_ x) 0) 16 (cl_ x) 0 (12, cl_ y)) 16 (cl_ x) 1 (nI a9)) 16 (cl_ x) 2 (nI m9)) 13 (cl_ x) 4 (16, cl_ x)) 13 (cl_ x) 6 (s_jp S (cl_ y) a9 m9 mt)) 13 (cl_ x) 10 (10 * hp_vi S.1 42 (cl_ y) 2)) 10 0 6 = hp_vi S.1 40 0 7 from R0.2.2.1]
          refine v_aload 127 dX6_face_125 rfl rfl ?_
          refine v_invv (d' := 0) (k' := 0) (n' := 0) (k2 := 22) (n2 := 2039) 130 [] dX6_face_127 mt_X6_152 mi_X4_surface me_X4_surface (by first | assumption | rfl) (by rfl) rfl rfl (of_decide_eq_true rfl) rfl (by decide) rfl rfl rfl rfl (C0_X4_surface ?_)
          rw [show hp_vi (hp_seti (hp_seti (hp_setr (hp_seti (hp_seti (hp_setr (hp_new h 16 (cl_ x) 0) 16 (cl_ x) 0 (12, cl_ y)) 16 (cl_ x) 1 (nI a9)) 16 (cl_ x) 2 (nI m9)) 13 (cl_ x) 4 (16, cl_ x)) 13 (cl_ x) 6 (s_jp S (cl_ y) a9 m9 mt)) 13 (cl_ x) 10 (10 * hp_vi S.1 42 (cl_ y) 2)) 13 (cl_ x) 0 = hp_vi S.1 43 (cl_ x) 0 from by simp [vi_i, vi_r, vi_n]; exact F.2.1.1, show hp_vi (hp_seti (hp_seti (hp_setr (hp_seti (hp_seti (hp_setr (hp_new h 16 (cl_ x) 0) 16 (cl_ x) 0 (12, cl_ y)) 16 (cl_ x) 1 (nI a9)) 16 (cl_ x) 2 (nI m9)) 13 (cl_ x) 4 (16, cl_ x)) 13 (cl_ x) 6 (s_jp S (cl_ y) a9 m9 mt)) 13 (cl_ x) 10 (10 * hp_vi S.1 42 (cl_ y) 2)) 13 (cl_ x) 1 = hp_vi S.1 43 (cl_ x) 1 from by simp [vi_i, vi_r, vi_n]; exact F.2.1.2.1]
          refine v_iadd 131 dX6_face_130 rfl ?_
          refine v_putfi 134 dX6_face_131 pf_X6_face_149 (by first | assumption | rfl) (by first | assumption | decide) (by rfl) rfl rfl rfl ?_
          show VV _ _ _ _ _ _ _ _ _ _ _ _ (fh_ S h (cl_ x) (cl_ y) (nI a9) (nI m9) (s_jp S (cl_ y) a9 m9 mt)) _
          have RF := R.fc (a := nI a9) (m := nI m9) (j := (s_jp S (cl_ y) a9 m9 mt)) I hc.1 hcy.1 w
          refine v_aload_n 135 dX6_face_134 rfl rfl ?_
          refine v_aload 137 dX6_face_135 rfl rfl ?_
          refine v_aload 139 dX6_face_137 rfl rfl ?_
          refine v_getfr 142 dX6_face_139 fl_X6_123 (by first | assumption | rfl) (by rfl) rfl ?_
          rw [show hp_vr (fh_ S h (cl_ x) (cl_ y) (nI a9) (nI m9) (s_jp S (cl_ y) a9 m9 mt)) 13 (cl_ x) 4 = (16, cl_ x) from by unfold fh_; simp [vr_i, vr_r]]
          refine v_invv (d' := 9) (k' := 20) (n' := 2000) (k2 := 2) (n2 := 39) 145 [_, _] dX6_face_142 mt_X6_155 mi_X6_layOn me_X6_layOn (by first | assumption | rfl) (by rfl) rfl rfl (of_decide_eq_true rfl) rfl (by decide) rfl rfl rfl rfl (C_X6_layOn (S := (fc_ S (cl_ x) (cl_ y) (nI a9) (nI m9) (s_jp S (cl_ y) a9 m9 mt))) (f := cl_ y) (a := a9) (m := m9) RF hc.1 ⟨by decide, by decide⟩ rfl (by unfold fh_; simp [vr_i, vr_r, vr_n]) (by unfold fh_; simp [vi_i, vi_r, vi_n]) (by unfold fh_; simp [vi_i, vi_r, vi_n]) hcy.1 n24 ham hm1 hm8 (fun k hk => (c64.2 k hk).1) I.1.2.2.2.2.2 z4 (fun i hi => (I.2.2.2.2.2.1.2.2.2.2.2 i hi).1) (fun h' R9 te9 => ?_))
          refine v_pop 146 dX6_face_145 rfl rfl ?_
          refine v_aload 148 dX6_face_146 rfl rfl ?_
          refine v_getfi 151 dX6_face_148 fl_X6_140 (by first | assumption | rfl) (by rfl) rfl ?_
          rw [show hp_vi h' 13 (cl_ x) 6 = (s_jp S (cl_ y) a9 m9 mt) from by rw [(te9 13 (by omega)).2.2.1]; unfold fh_; simp [vi_i, vi_r, vi_n]]
          refine v_ireturn dX6_face_151 rfl ?_
          refine hq h' R9 (fun t ht => hp_te.tr ?_ (te9 t (by omega)))
          unfold fh_
          exact (by repeat' first | exact hp_te.rf | refine hp_te.tr ?_ (hp_te.i (by first | decide | omega)) | refine hp_te.tr ?_ (hp_te.r (by first | decide | omega)) | refine hp_te.tr ?_ (hp_te.n (by first | decide | omega)))
        · have c64 := f1_0.mp c64
          rw [if_neg c64] at hq
          refine v_throw dX6_face_67 dX6_face_70 dX6_face_71 dX6_face_74 rfl th_X6_73_75 rfl (by decide) (by decide) (by decide) ?_
          exact hq h R (fun _ _ => hp_te.rf)
    · have c35 := f1_0.mp c35
      rw [if_neg (fun q => by first | exact q.1 c24 | exact c35 q.2)] at hq
      refine v_throw dX6_face_38 dX6_face_41 dX6_face_42 dX6_face_45 rfl th_X6_44_46 rfl (by decide) (by decide) (by decide) ?_
      exact hq h R (fun _ _ => hp_te.rf)
