def bc_ (S : SP) (p f : Nat) (a m : Int32) : SP := (hp_seti (hp_setr (hp_seti (hp_seti (hp_setr (hp_new S.1 47 p 0) 47 p 0 (42, f)) 47 p 1 a) 47 p 2 m) 43 p 4 (47, p)) 40 0 8 (hp_vi S.1 40 0 8 + hp_vi S.1 43 p 0 * hp_vi S.1 43 p 1), S.2)
def bh_ (S : SP) (h : PH) (p f : Nat) (a m : Int32) : PH := hp_seti (hp_setr (hp_seti (hp_seti (hp_setr (hp_new h 17 p 0) 17 p 0 (12, f)) 17 p 1 a) 17 p 2 m) 13 p 5 (17, p)) 10 0 7 (hp_vi S.1 40 0 8 + hp_vi S.1 43 p 0 * hp_vi S.1 43 p 1)
theorem Rp1.bc {S : SP} {h : PH} {p f : Nat} {a m : Int32} (R : Rp1 S h) (hp : p < nn_ S 2) : Rp1 (bc_ S p f a m) (bh_ S h p f a m) := by
  obtain ⟨R0, RL, R1, R2, R3, R4, R5⟩ := R
  have T : ∀ t, ¬ t = 10 ∧ ¬ t = 13 ∧ ¬ t = 17 → hp_te h (bh_ S h p f a m) t := fun t q => (by repeat' first | exact hp_te.rf | refine hp_te.tr ?_ (hp_te.i (by first | decide | omega)) | refine hp_te.tr ?_ (hp_te.r (by first | decide | omega)) | refine hp_te.tr ?_ (hp_te.n (by first | decide | omega)))
  have F : ∀ t, ¬ t = 40 ∧ ¬ t = 43 ∧ ¬ t = 47 → hp_te S.1 (bc_ S p f a m).1 t := fun t q => (by repeat' first | exact hp_te.rf | refine hp_te.tr ?_ (hp_te.i (by first | decide | omega)) | refine hp_te.tr ?_ (hp_te.r (by first | decide | omega)) | refine hp_te.tr ?_ (hp_te.n (by first | decide | omega)))
  refine ⟨?_, RL.te (fun t ht => T t (by omega)) rfl, R1.te (T _ (by decide)) (F _ (by decide)) rfl, R2.te (T _ (by decide)) (T _ (by decide)) (T _ (by decide)) (T _ (by decide)) (F _ (by decide)) (F _ (by decide)) (F _ (by decide)) rfl, R3.ux (p := p) (fun i hi => ⟨(by repeat' first | exact hp_tx.rf | refine hp_tx.tr ?_ (hp_tx.i (by omega)) | refine hp_tx.tr ?_ (hp_tx.r (by omega)) | refine hp_tx.tr ?_ (hp_tx.n (by omega))), (T 16 (by decide)).x i, (by repeat' first | exact hp_tx.rf | refine hp_tx.tr ?_ (hp_tx.i (by omega)) | refine hp_tx.tr ?_ (hp_tx.r (by omega)) | refine hp_tx.tr ?_ (hp_tx.n (by omega)))⟩) (fun i hi => ⟨(by repeat' first | exact hp_tx.rf | refine hp_tx.tr ?_ (hp_tx.i (by omega)) | refine hp_tx.tr ?_ (hp_tx.r (by omega)) | refine hp_tx.tr ?_ (hp_tx.n (by omega))), (F 46 (by decide)).x i, (by repeat' first | exact hp_tx.rf | refine hp_tx.tr ?_ (hp_tx.i (by omega)) | refine hp_tx.tr ?_ (hp_tx.r (by omega)) | refine hp_tx.tr ?_ (hp_tx.n (by omega)))⟩) (F _ (by decide)) rfl hp ?_, R4.te (T _ (by decide)) (T _ (by decide)) (T _ (by decide)) (T _ (by decide)) (T _ (by decide)) (T _ (by decide)) (F _ (by decide)) (F _ (by decide)) (F _ (by decide)) (F _ (by decide)) rfl (fun _ _ => ⟨rfl, rfl⟩), R5.te (T _ (by decide)) (F _ (by decide)) rfl⟩
  · obtain ⟨⟨r0, r01⟩, r1, r2, r3, r4, r5, r6⟩ := R0
    unfold bc_ bh_
    exact ⟨⟨r0, r01⟩, r1, r2, hp_seti_at.trans hp_seti_at.symm, r4, r5, r6⟩
  · obtain ⟨⟨a1, a2, a3⟩, ⟨b1, b2, b3, b4⟩, ⟨d1, d2, d3, d4, d5, d6, d7, d8⟩, e1, e2, e3, e4⟩ := R3.1 p hp
    have hba : s_ba (bc_ S p f a m) p = (47, p) := by show hp_vr (bc_ S p f a m).1 43 p 4 = _; unfold bc_; simp [vr_i, vr_r]
    have hfa : s_fa (bc_ S p f a m) p = s_fa S p := by show hp_vr (bc_ S p f a m).1 43 p 3 = _; unfold bc_; simp [vr_i, vr_r, vr_n]
    have h47 : hp_vr (bc_ S p f a m).1 47 p 0 = (42, f) := by unfold bc_; simp [vr_i, vr_r, vr_n]
    have hlf : s_lf (bc_ S p f a m) p = s_lf S p := s_lf_te (by unfold bc_; simp [vi_i, vi_r, vi_n]) hfa (F 42 (by decide)) (F 46 (by decide))
    have hN : nn_ (bc_ S p f a m) (10 + p) = nn_ S (10 + p) := rfl
    refine ⟨⟨a1, ?_, ?_⟩, ⟨b1, b2, b3, b4⟩, ⟨d1, d2, d3, d4, ?_, d6, d7, d8⟩, fun q => ?_, fun q => ?_, fun q => ?_, fun _ => ⟨hp_new_al0 (n := 0), ?_, ?_, ?_⟩⟩
    · rw [hfa]; unfold bh_; simp only [vr_i, vr_r, vr_n]; simp; exact a2
    · rw [hba, if_neg (show ¬ (47 : Nat) = 0 by decide)]; unfold bh_; simp [vr_i, vr_r]
    · rw [hlf]; exact d5
    · rw [hfa] at q; exact e1 q
    · rw [hfa] at q; exact e2 q
    · rw [hba] at q; exact absurd q (show ¬ (47 : Nat) = 0 by decide)
    · rw [h47]; unfold bh_; simp [vr_i, vr_r, vr_n]
    · unfold bh_ bc_; simp [vi_i, vi_r, vi_n]
    · unfold bh_ bc_; simp [vi_i, vi_r, vi_n]
def op_back (S : SP) (x y a m : Int32) : Nat × Int32 × SP := if ok_i x (nn_ S 2) then (if ok_r_ S y a m then (if 1 ≤ m ∧ m ≤ 8 then (if (s_ba S (cl_ x)).1 = 0 then (if hp_vi S.1 43 (cl_ x) 6 = 0 then (if cv_ S (cl_ x) (cl_ y) (cl_ a) (cl_ m) then (0, (ly_ (bc_ S (cl_ x) (cl_ y) a m) (cl_ x) (cl_ y) (cl_ a) (cl_ m)).2, ws_up (ly_ (bc_ S (cl_ x) (cl_ y) a m) (cl_ x) (cl_ y) (cl_ a) (cl_ m)).1 (ly_ (bc_ S (cl_ x) (cl_ y) a m) (cl_ x) (cl_ y) (cl_ a) (cl_ m)).2) else (3, 0, S)) else (3, 0, S)) else (3, 0, S)) else (2, 0, S)) else (1, 0, S)) else (1, 0, S)
set_option maxRecDepth 20000 in
theorem C_X6_back {G : GW} {h : PH} {Q : RS → PH → Prop} {S : SP} {N : Nat} (R : Rp1 S h) (I : Iv S N) {x y a m : Int32} (hq : ∀ h', Rp1 (op_back S x y a m).2.2 h' → (∀ t, t < 10 ∨ 40 ≤ t → hp_te h h' t) → Q (an_ "java/lang/IndexOutOfBoundsException" "java/lang/IllegalArgumentException" "java/lang/UnsupportedOperationException" ((op_back S x y a m).1, (op_back S x y a m).2.1)) h') : VV G 11 26 2060 yX6_back cX6_back 7 (some .int) [] 0 (vv_en 7 [pv_O (10, 0), pv_I x, pv_I y, pv_I a, pv_I m]) [] h Q := by
  show VV G 11 26 2060 yX6_back cX6_back 7 (some .int) [] 0 [some (pv_O (10, 0)), some (pv_I x), some (pv_I y), some (pv_I a), some (pv_I m), none, none] [] h Q
  obtain ⟨R0, RL, R1, R2, R3, R4, R5⟩ := id R
  obtain ⟨z0, z1, z2, z3, z4, z5⟩ := I.cs
  unfold op_back at hq
  refine v_aload_n 1 dX6_back_0 rfl rfl ?_
  refine v_iload_n 2 dX6_back_1 rfl rfl ?_
  refine v_invv (d' := 6) (k' := 1) (n' := 6) (k2 := 25) (n2 := 2054) 5 [_] dX6_back_2 mt_X6_113 mi_X6_panelOf me_X6_panelOf (by first | assumption | rfl) (by rfl) rfl rfl (of_decide_eq_true rfl) rfl (by decide) rfl rfl rfl rfl (C_X6_panelOf R0 RL (fun e => ?_) (fun ho => ?_))
  · rw [if_neg e] at hq
    exact vv_out (hq h R (fun _ _ => hp_te.rf))
  rw [if_pos ho] at hq
  have hc := ho.cl (by omega)
  have F := R3.1 _ hc.1
  have hfa := fun w => R2.1 _ (I.fa hc.1 w).2.2.2.1
  have hba := fun w => R2.1 _ (I.ba hc.1 w).2.2.2.1
  obtain ⟨j0, j1, j2, j3, j4, j5, j6, j7, j8, j9, j10, j11⟩ := I.2.2.2.1 _ hc.1
  refine v_astore 7 dX6_back_5 (by decide) rfl rfl ?_
  dsimp only [List.set]
  refine v_aload_n 8 dX6_back_7 rfl rfl ?_
  refine v_iload_n 9 dX6_back_8 rfl rfl ?_
  refine v_iload_n 10 dX6_back_9 rfl rfl ?_
  refine v_iload 12 dX6_back_10 rfl rfl ?_
  refine v_invv (d' := 7) (k' := 2) (n' := 12) (k2 := 23) (n2 := 2042) 15 [_, _, _] dX6_back_12 mt_X6_117 mi_X6_flitchWithLeaves me_X6_flitchWithLeaves (by first | assumption | rfl) (by rfl) rfl rfl (of_decide_eq_true rfl) rfl (by decide) rfl rfl rfl rfl (C_X6_flitchWithLeaves R0 RL R2 (fun e => ?_) (fun hy => ?_))
  · rw [if_neg e] at hq
    exact vv_out (hq h R (fun _ _ => hp_te.rf))
  rw [if_pos hy] at hq
  have hcy := hy.1.cl (by omega)
  have F2 := R2.1 _ hcy.1
  have n24 := I.n24 hcy.1
  obtain ⟨a9, ha9, rfl⟩ := hy.2.1.nat (by omega)
  refine v_astore 17 dX6_back_15 (by decide) rfl rfl ?_
  dsimp only [List.set]
  refine v_iload 19 dX6_back_17 rfl rfl ?_
  refine v_iconstv (v := 1) 20 dX6_back_19 (by decide) rfl ?_
  refine v_bipushv (v := 8) 22 dX6_back_20 (by decide) rfl ?_
  refine v_invs (d' := 0) (k' := 0) (n' := 0) (k2 := 23) (n2 := 2042) 25 [_, _, _] dX6_back_22 mt_X6_40 ms_X6_isIn rfl rfl (of_decide_eq_true rfl) rfl (by decide) rfl rfl rfl rfl (C_X6_isIn ?_)
  refine v_if_ne 36 28 dX6_back_25 (by decide) rfl (fun c25 => ?_) (fun c25 => ?_)
  · have c25 := Decidable.not_not.mp (fun q => c25 (f1_0.mpr q))
    rw [if_pos c25] at hq
    obtain ⟨m9, hm1, hm8, rfl⟩ := a_nat (lo := 1) (hi := 8) c25 (by decide) (by decide)
    have ham : a9 + m9 ≤ s_n S (cl_ y) := by
      have q := hy.2.2
      rw [pk_sub (by omega)] at q
      rcases Nat.lt_or_ge (s_n S (cl_ y) - a9) m9 with z | z
      · exact absurd q (nI_ge z (by omega))
      · omega
    have eca : cl_ (nI a9) = a9 := nI_clamp (by omega)
    have ecm : cl_ (nI m9) = m9 := nI_clamp (by omega)
    rw [eca, ecm] at hq
    refine v_aload 38 dX6_back_36 rfl rfl ?_
    refine v_getfr 41 dX6_back_38 fl_X6_159 (by first | assumption | rfl) (by rfl) rfl ?_
    refine v_ifnonnull 65 44 dX6_back_41 (by decide) rfl (fun c41 => ?_) (fun c41 => ?_)
    · have w := ((rr_0 (by decide) F.1.2.2).2 c41).1
      rw [if_neg w] at hq
      refine v_throw dX6_back_65 dX6_back_68 dX6_back_69 dX6_back_72 rfl th_X6_73_75 rfl (by decide) (by decide) (by decide) ?_
      exact hq h R (fun _ _ => hp_te.rf)
    · have w := ((rr_0 (by decide) F.1.2.2).1 c41).1
      rw [if_pos w] at hq
      refine v_aload 46 dX6_back_44 rfl rfl ?_
      refine v_getfi 49 dX6_back_46 fl_X6_162 (by first | assumption | rfl) (by rfl) rfl ?_
      rw [F.2.2.1.2.1]
      refine v_if_ne 65 52 dX6_back_49 (by decide) rfl (fun c49 => ?_) (fun c49 => ?_)
      · rw [if_neg c49] at hq
        refine v_throw dX6_back_65 dX6_back_68 dX6_back_69 dX6_back_72 rfl th_X6_73_75 rfl (by decide) (by decide) (by decide) ?_
        exact hq h R (fun _ _ => hp_te.rf)
      · rw [if_pos c49] at hq
        refine v_aload 54 dX6_back_52 rfl rfl ?_
        refine v_aload 56 dX6_back_54 rfl rfl ?_
        refine v_iload_n 57 dX6_back_56 rfl rfl ?_
        refine v_iload 59 dX6_back_57 rfl rfl ?_
        refine v_invs (d' := 2) (k' := 0) (n' := 0) (k2 := 23) (n2 := 2042) 62 [_, _, _, _] dX6_back_59 mt_X6_127 ms_X6_canCover rfl rfl (of_decide_eq_true rfl) rfl (by decide) rfl rfl rfl rfl (C_X6_canCover F F2 n24 (I.u01 hcy.1) ham hm1 ?_)
        refine v_if_ne 73 65 dX6_back_62 (by decide) rfl (fun c62 => ?_) (fun c62 => ?_)
        · have c62 := Decidable.not_not.mp (fun q => c62 (f1_0.mpr q))
          rw [if_pos c62] at hq
          refine v_aload 75 dX6_back_73 rfl rfl ?_
          refine v_new (k1 := 22) (n1 := 2039) 78 17 (cl_ x) dX6_back_75 nw_X6_131 (by rfl) (by decide) (F.2.2.2.2.2.1 w) rfl rfl rfl ?_
          refine v_dup 79 dX6_back_78 rfl rfl ?_
          refine v_aload 81 dX6_back_79 rfl rfl ?_
          refine v_iload_n 82 dX6_back_81 rfl rfl ?_
          refine v_iload 84 dX6_back_82 rfl rfl ?_
          refine v_invi (d' := 1) (k' := 0) (n' := 0) (k2 := 22) (n2 := 2039) 87 [_, _, _] dX6_back_84 mt_X6_133 mi_X3_init rfl rfl (by first | assumption | rfl) rfl rfl (of_decide_eq_true rfl) rfl (by decide) rfl rfl rfl rfl (C_X3_init rfl (by decide) ?_)
          refine v_putfr 90 dX6_back_87 pf_X6_back_159 (by first | assumption | rfl) (by first | assumption | decide) (by rfl) rfl ?_
          refine v_aload_n 91 dX6_back_90 rfl rfl ?_
          refine v_dup 92 dX6_back_91 rfl rfl ?_
          refine v_getfi 95 dX6_back_92 fl_X6_165 (by first | assumption | rfl) (by rfl) rfl ?_
          rw [show hp_vi (hp_setr (hp_seti (hp_seti (hp_setr (hp_new h 17 (cl_ x) 0) 17 (cl_ x) 0 (12, cl_ y)) 17 (cl_ x) 1 (nI a9)) 17 (cl_ x) 2 (nI m9)) 13 (cl_ x) 5 (17, cl_ x)) 10 0 7 = hp_vi S.1 40 0 8 from R0.2.2.2.1]
          refine v_aload 97 dX6_back_95 rfl rfl ?_
          refine v_invv (d' := 0) (k' := 0) (n' := 0) (k2 := 22) (n2 := 2039) 100 [] dX6_back_97 mt_X6_152 mi_X4_surface me_X4_surface (by first | assumption | rfl) (by rfl) rfl rfl (of_decide_eq_true rfl) rfl (by decide) rfl rfl rfl rfl (C0_X4_surface ?_)
          rw [show hp_vi (hp_setr (hp_seti (hp_seti (hp_setr (hp_new h 17 (cl_ x) 0) 17 (cl_ x) 0 (12, cl_ y)) 17 (cl_ x) 1 (nI a9)) 17 (cl_ x) 2 (nI m9)) 13 (cl_ x) 5 (17, cl_ x)) 13 (cl_ x) 0 = hp_vi S.1 43 (cl_ x) 0 from F.2.1.1, show hp_vi (hp_setr (hp_seti (hp_seti (hp_setr (hp_new h 17 (cl_ x) 0) 17 (cl_ x) 0 (12, cl_ y)) 17 (cl_ x) 1 (nI a9)) 17 (cl_ x) 2 (nI m9)) 13 (cl_ x) 5 (17, cl_ x)) 13 (cl_ x) 1 = hp_vi S.1 43 (cl_ x) 1 from F.2.1.2.1]
          refine v_iadd 101 dX6_back_100 rfl ?_
          refine v_putfi 104 dX6_back_101 pf_X6_back_165 (by first | assumption | rfl) (by first | assumption | decide) (by rfl) rfl rfl rfl ?_
          show VV _ _ _ _ _ _ _ _ _ _ _ _ (bh_ S h (cl_ x) (cl_ y) (nI a9) (nI m9)) _
          have RF := R.bc (f := cl_ y) (a := nI a9) (m := nI m9) hc.1
          refine v_aload_n 105 dX6_back_104 rfl rfl ?_
          refine v_aload 107 dX6_back_105 rfl rfl ?_
          refine v_aload 109 dX6_back_107 rfl rfl ?_
          refine v_getfr 112 dX6_back_109 fl_X6_159 (by first | assumption | rfl) (by rfl) rfl ?_
          rw [show hp_vr (bh_ S h (cl_ x) (cl_ y) (nI a9) (nI m9)) 13 (cl_ x) 5 = (17, cl_ x) from by unfold bh_; simp [vr_i, vr_r]]
          refine v_invv (d' := 9) (k' := 20) (n' := 2000) (k2 := 2) (n2 := 39) 115 [_, _] dX6_back_112 mt_X6_155 mi_X6_layOn me_X6_layOn (by first | assumption | rfl) (by rfl) rfl rfl (of_decide_eq_true rfl) rfl (by decide) rfl rfl rfl rfl (C_X6_layOn (S := (bc_ S (cl_ x) (cl_ y) (nI a9) (nI m9))) (f := cl_ y) (a := a9) (m := m9) RF hc.1 ⟨by decide, by decide⟩ rfl (by unfold bh_; simp [vr_i, vr_r, vr_n]) (by unfold bh_; simp [vi_i, vi_r, vi_n]) (by unfold bh_; simp [vi_i, vi_r, vi_n]) hcy.1 n24 ham hm1 hm8 (fun k hk => (c62.2 k hk).1) I.1.2.2.2.2.2 z4 (fun i hi => (I.2.2.2.2.2.1.2.2.2.2.2 i hi).1) (fun h' R9 te9 => ?_))
          refine v_ireturn dX6_back_115 rfl ?_
          refine hq h' R9 (fun t ht => hp_te.tr ?_ (te9 t (by omega)))
          unfold bh_
          exact (by repeat' first | exact hp_te.rf | refine hp_te.tr ?_ (hp_te.i (by first | decide | omega)) | refine hp_te.tr ?_ (hp_te.r (by first | decide | omega)) | refine hp_te.tr ?_ (hp_te.n (by first | decide | omega)))
        · have c62 := f1_0.mp c62
          rw [if_neg c62] at hq
          refine v_throw dX6_back_65 dX6_back_68 dX6_back_69 dX6_back_72 rfl th_X6_73_75 rfl (by decide) (by decide) (by decide) ?_
          exact hq h R (fun _ _ => hp_te.rf)
  · have c25 := f1_0.mp c25
    rw [if_neg c25] at hq
    refine v_throw dX6_back_28 dX6_back_31 dX6_back_32 dX6_back_35 rfl th_X6_44_46 rfl (by decide) (by decide) (by decide) ?_
    exact hq h R (fun _ _ => hp_te.rf)
