def pq_ (S : SP) (p f : Nat) (a m : Int32) : SP := (hp_setr (hp_seti (hp_seti (hp_setr (hp_new S.1 48 p 0) 48 p 0 (42, f)) 48 p 1 a) 48 p 2 m) 44 p 1 (48, p), S.2)
def ph_ (h : PH) (p f : Nat) (a m : Int32) : PH := hp_setr (hp_seti (hp_seti (hp_setr (hp_new h 18 p 0) 18 p 0 (12, f)) 18 p 1 a) 18 p 2 m) 14 p 4 (18, p)
theorem Rp1.pq {S : SP} {N : Nat} {h : PH} {p f : Nat} {a m : Int32} (R : Rp1 S h) (I : Iv S N) (hp : p < nn_ S 3) : Rp1 (pq_ S p f a m) (ph_ h p f a m) := by
  have F1 := R.2.2.2.2.2.1.1 p hp
  refine R.pi (p := p) hp (fun t t1 t2 t3 t4 t5 t6 => (by repeat' first | exact hp_te.rf | refine hp_te.tr ?_ (hp_te.i (by first | decide | omega)) | refine hp_te.tr ?_ (hp_te.r (by first | decide | omega)) | refine hp_te.tr ?_ (hp_te.n (by first | decide | omega)))) (fun t t1 t2 t3 t4 => (by repeat' first | exact hp_te.rf | refine hp_te.tr ?_ (hp_te.i (by first | decide | omega)) | refine hp_te.tr ?_ (hp_te.r (by first | decide | omega)) | refine hp_te.tr ?_ (hp_te.n (by first | decide | omega)))) (fun _ _ _ => rfl) rfl (fun j hj => ⟨(by repeat' first | exact hp_tx.rf | refine hp_tx.tr ?_ (hp_tx.i (by omega)) | refine hp_tx.tr ?_ (hp_tx.r (by omega)) | refine hp_tx.tr ?_ (hp_tx.n (by omega))), (by repeat' first | exact hp_tx.rf | refine hp_tx.tr ?_ (hp_tx.i (by omega)) | refine hp_tx.tr ?_ (hp_tx.r (by omega)) | refine hp_tx.tr ?_ (hp_tx.n (by omega))), (by repeat' first | exact hp_tx.rf | refine hp_tx.tr ?_ (hp_tx.i (by omega)) | refine hp_tx.tr ?_ (hp_tx.r (by omega)) | refine hp_tx.tr ?_ (hp_tx.n (by omega))), (by repeat' first | exact hp_tx.rf | refine hp_tx.tr ?_ (hp_tx.i (by omega)) | refine hp_tx.tr ?_ (hp_tx.r (by omega)) | refine hp_tx.tr ?_ (hp_tx.n (by omega))), (by repeat' first | exact hp_tx.rf | refine hp_tx.tr ?_ (hp_tx.i (by omega)) | refine hp_tx.tr ?_ (hp_tx.r (by omega)) | refine hp_tx.tr ?_ (hp_tx.n (by omega))), (by repeat' first | exact hp_tx.rf | refine hp_tx.tr ?_ (hp_tx.i (by omega)) | refine hp_tx.tr ?_ (hp_tx.r (by omega)) | refine hp_tx.tr ?_ (hp_tx.n (by omega)))⟩) (fun j hj => ⟨(by repeat' first | exact hp_tx.rf | refine hp_tx.tr ?_ (hp_tx.i (by omega)) | refine hp_tx.tr ?_ (hp_tx.r (by omega)) | refine hp_tx.tr ?_ (hp_tx.n (by omega))), (by repeat' first | exact hp_tx.rf | refine hp_tx.tr ?_ (hp_tx.i (by omega)) | refine hp_tx.tr ?_ (hp_tx.r (by omega)) | refine hp_tx.tr ?_ (hp_tx.n (by omega))), (by repeat' first | exact hp_tx.rf | refine hp_tx.tr ?_ (hp_tx.i (by omega)) | refine hp_tx.tr ?_ (hp_tx.r (by omega)) | refine hp_tx.tr ?_ (hp_tx.n (by omega))), (by repeat' first | exact hp_tx.rf | refine hp_tx.tr ?_ (hp_tx.i (by omega)) | refine hp_tx.tr ?_ (hp_tx.r (by omega)) | refine hp_tx.tr ?_ (hp_tx.n (by omega)))⟩) I.cs.2.2.2.1 I.cs.2.2.1 ?_
  obtain ⟨⟨a0, a1, a2, a3, a4, a5⟩, b1, b2, b3, b4, e1, e2⟩ := F1
  have hpa : s_pa (pq_ S p f a m) p = (48, p) := by show hp_vr (pq_ S p f a m).1 44 p 1 = _; unfold pq_; simp [vr_r]
  have h48 : hp_vr (pq_ S p f a m).1 48 p 0 = (42, f) := by unfold pq_; simp [vr_i, vr_r, vr_n]
  refine ⟨⟨a0, ?_, ?_, ?_, ?_, ?_⟩, b1, b2, b3, b4, fun q => ?_, fun _ => ⟨hp_new_al0 (n := 0), ?_, ?_, ?_⟩⟩
  · unfold ph_; simp [vr_i, vr_r, vr_n]; exact a1
  · unfold ph_; simp [vr_i, vr_r, vr_n]; exact a2
  · unfold ph_; simp [vr_i, vr_r, vr_n]; exact a3
  · unfold ph_; simp [vr_i, vr_r, vr_n]; exact a4
  · rw [hpa, if_neg (show ¬ (48 : Nat) = 0 by decide)]; unfold ph_; simp [vr_r]
  · rw [hpa] at q; exact absurd q (show ¬ (48 : Nat) = 0 by decide)
  · rw [h48]; unfold ph_; simp [vr_i, vr_r, vr_n]
  · unfold ph_ pq_; simp [vi_i, vi_r, vi_n]
  · unfold ph_ pq_; simp [vi_i, vi_r, vi_n]
def sg_ (S : SP) (c r : Int32) : SP := (hp_seti (hp_seti S.1 40 0 9 (hp_vi S.1 40 0 9 + c)) 40 0 10 (hp_vi S.1 40 0 10 + r), S.2)
def op_saw (S : SP) (x y a m : Int32) : Nat × Int32 × SP := if ok_i x (nn_ S 3) then (if ok_r_ S y a m then (if 2 ≤ m ∧ m ≤ 8 then (if (s_pa S (cl_ x)).1 = 0 then (if fr_ok S (cl_ y) (cl_ a) (cl_ m) 80 then (0, sm_a (pq_ S (cl_ x) (cl_ y) a m) (cl_ y) (cl_ a) (cl_ m) - 64 * m, sg_ (su_ (pq_ S (cl_ x) (cl_ y) a m) (cl_ y) (cl_ a) (cl_ m)) (64 * m) (sm_a (pq_ S (cl_ x) (cl_ y) a m) (cl_ y) (cl_ a) (cl_ m) - 64 * m)) else (3, 0, S)) else (3, 0, S)) else (2, 0, S)) else (1, 0, S)) else (1, 0, S)
set_option maxRecDepth 20000 in
theorem C_X6_saw {G : GW} {h : PH} {Q : RS → PH → Prop} {S : SP} {N : Nat} (R : Rp1 S h) (I : Iv S N) {x y a m : Int32} (hq : ∀ h', Rp1 (op_saw S x y a m).2.2 h' → (∀ t, t < 10 ∨ 40 ≤ t → hp_te h h' t) → Q (an_ "java/lang/IndexOutOfBoundsException" "java/lang/IllegalArgumentException" "java/lang/UnsupportedOperationException" ((op_saw S x y a m).1, (op_saw S x y a m).2.1)) h') : VV G 9 6 40 yX6_saw cX6_saw 9 (some .int) [] 0 (vv_en 9 [pv_O (10, 0), pv_I x, pv_I y, pv_I a, pv_I m]) [] h Q := by
  show VV G 9 6 40 yX6_saw cX6_saw 9 (some .int) [] 0 [some (pv_O (10, 0)), some (pv_I x), some (pv_I y), some (pv_I a), some (pv_I m), none, none, none, none] [] h Q
  obtain ⟨R0, RL, R1, R2, R3, R4, R5⟩ := id R
  obtain ⟨z0, z1, z2, z3, z4, z5⟩ := I.cs
  unfold op_saw at hq
  refine v_aload_n 1 dX6_saw_0 rfl rfl ?_
  refine v_iload_n 2 dX6_saw_1 rfl rfl ?_
  refine v_invv (d' := 6) (k' := 1) (n' := 6) (k2 := 5) (n2 := 34) 5 [_] dX6_saw_2 mt_X6_229 mi_X6_pictureOf me_X6_pictureOf (by first | assumption | rfl) (by rfl) rfl rfl (of_decide_eq_true rfl) rfl (by decide) rfl rfl rfl rfl (C_X6_pictureOf R0 RL (fun e => ?_) (fun ho => ?_))
  · rw [if_neg e] at hq
    exact vv_out (hq h R (fun _ _ => hp_te.rf))
  rw [if_pos ho] at hq
  have hc := ho.cl (by omega)
  have F := R4.1 _ hc.1
  obtain ⟨I0, I1, I2, I3, I4⟩ := I.2.2.2.2.1 _ hc.1
  refine v_astore 7 dX6_saw_5 (by decide) rfl rfl ?_
  dsimp only [List.set]
  refine v_aload_n 8 dX6_saw_7 rfl rfl ?_
  refine v_iload_n 9 dX6_saw_8 rfl rfl ?_
  refine v_iload_n 10 dX6_saw_9 rfl rfl ?_
  refine v_iload 12 dX6_saw_10 rfl rfl ?_
  refine v_invv (d' := 7) (k' := 2) (n' := 12) (k2 := 3) (n2 := 22) 15 [_, _, _] dX6_saw_12 mt_X6_117 mi_X6_flitchWithLeaves me_X6_flitchWithLeaves (by first | assumption | rfl) (by rfl) rfl rfl (of_decide_eq_true rfl) rfl (by decide) rfl rfl rfl rfl (C_X6_flitchWithLeaves R0 RL R2 (fun e => ?_) (fun hy => ?_))
  · rw [if_neg e] at hq
    exact vv_out (hq h R (fun _ _ => hp_te.rf))
  rw [if_pos hy] at hq
  have hcy := hy.1.cl (by omega)
  have F2 := R2.1 _ hcy.1
  have n24 := I.n24 hcy.1
  obtain ⟨a9, ha9, rfl⟩ := hy.2.1.nat (by omega)
  refine v_astore 17 dX6_saw_15 (by decide) rfl rfl ?_
  dsimp only [List.set]
  refine v_iload 19 dX6_saw_17 rfl rfl ?_
  refine v_iconstv (v := 2) 20 dX6_saw_19 (by decide) rfl ?_
  refine v_bipushv (v := 8) 22 dX6_saw_20 (by decide) rfl ?_
  refine v_invs (d' := 0) (k' := 0) (n' := 0) (k2 := 3) (n2 := 22) 25 [_, _, _] dX6_saw_22 mt_X6_40 ms_X6_isIn rfl rfl (of_decide_eq_true rfl) rfl (by decide) rfl rfl rfl rfl (C_X6_isIn ?_)
  refine v_if_ne 36 28 dX6_saw_25 (by decide) rfl (fun c25 => ?_) (fun c25 => ?_)
  · have c25 := Decidable.not_not.mp (fun q => c25 (f1_0.mpr q))
    rw [if_pos c25] at hq
    obtain ⟨m9, hm1, hm8, rfl⟩ := a_nat (lo := 2) (hi := 8) c25 (by decide) (by decide)
    have ham : a9 + m9 ≤ s_n S (cl_ y) := by
      have q := hy.2.2
      rw [pk_sub (by omega)] at q
      rcases Nat.lt_or_ge (s_n S (cl_ y) - a9) m9 with z | z
      · exact absurd q (nI_ge z (by omega))
      · omega
    have eca : cl_ (nI a9) = a9 := nI_clamp (by omega)
    have ecm : cl_ (nI m9) = m9 := nI_clamp (by omega)
    rw [eca, ecm] at hq
    refine v_aload 38 dX6_saw_36 rfl rfl ?_
    refine v_getfr 41 dX6_saw_38 fl_X6_241 (by first | assumption | rfl) (by rfl) rfl ?_
    refine v_ifnonnull 57 44 dX6_saw_41 (by decide) rfl (fun c41 => ?_) (fun c41 => ?_)
    · have w := ((rr_0 (by decide) F.1.2.2.2.2.2).2 c41).1
      rw [if_neg w] at hq
      refine v_throw dX6_saw_57 dX6_saw_60 dX6_saw_61 dX6_saw_64 rfl th_X6_73_75 rfl (by decide) (by decide) (by decide) ?_
      exact hq h R (fun _ _ => hp_te.rf)
    · have w := ((rr_0 (by decide) F.1.2.2.2.2.2).1 c41).1
      rw [if_pos w] at hq
      refine v_aload 46 dX6_saw_44 rfl rfl ?_
      refine v_iload_n 47 dX6_saw_46 rfl rfl ?_
      refine v_iload 49 dX6_saw_47 rfl rfl ?_
      refine v_bipushv (v := 80) 51 dX6_saw_49 (by decide) rfl ?_
      refine v_invv (d' := 1) (k' := 0) (n' := 0) (k2 := 3) (n2 := 22) 54 [_, _, _] dX6_saw_51 mt_X6_261 mi_X0_isFree me_X0_isFree (by first | assumption | rfl) (by rfl) rfl rfl (of_decide_eq_true rfl) rfl (by decide) rfl rfl rfl rfl (C_X0_isFree F2 n24 (I.u01 hcy.1) ham ?_)
      refine v_if_ne 65 57 dX6_saw_54 (by decide) rfl (fun c54 => ?_) (fun c54 => ?_)
      · have c54 := Decidable.not_not.mp (fun q => c54 (f1_0.mpr q))
        rw [if_pos c54] at hq
        refine v_aload 67 dX6_saw_65 rfl rfl ?_
        refine v_new (k1 := 2) (n1 := 19) 70 18 (cl_ x) dX6_saw_67 nw_X6_131 (by rfl) (by decide) (F.2.2.2.2.2.1 w) rfl rfl rfl ?_
        refine v_dup 71 dX6_saw_70 rfl rfl ?_
        refine v_aload 73 dX6_saw_71 rfl rfl ?_
        refine v_iload_n 74 dX6_saw_73 rfl rfl ?_
        refine v_iload 76 dX6_saw_74 rfl rfl ?_
        refine v_invi (d' := 1) (k' := 0) (n' := 0) (k2 := 2) (n2 := 19) 79 [_, _, _] dX6_saw_76 mt_X6_133 mi_X3_init rfl rfl (by first | assumption | rfl) rfl rfl (of_decide_eq_true rfl) rfl (by decide) rfl rfl rfl rfl (C_X3_init rfl (by decide) ?_)
        refine v_putfr 82 dX6_saw_79 pf_X6_saw_241 (by first | assumption | rfl) (by first | assumption | decide) (by rfl) rfl ?_
        show VV _ _ _ _ _ _ _ _ _ _ _ _ (ph_ h (cl_ x) (cl_ y) (nI a9) (nI m9)) _
        have RF := R.pq (f := cl_ y) (a := nI a9) (m := nI m9) I hc.1
        refine v_bipushv (v := 64) 84 dX6_saw_82 (by decide) rfl ?_
        refine v_iload 86 dX6_saw_84 rfl rfl ?_
        refine v_imul 87 dX6_saw_86 rfl ?_
        refine v_istore 89 dX6_saw_87 (by decide) rfl rfl ?_
        dsimp only [List.set]
        refine v_aload 91 dX6_saw_89 rfl rfl ?_
        refine v_iload_n 92 dX6_saw_91 rfl rfl ?_
        refine v_iload 94 dX6_saw_92 rfl rfl ?_
        refine v_invv (d' := 3) (k' := 0) (n' := 0) (k2 := 2) (n2 := 19) 97 [_, _] dX6_saw_94 mt_X6_264 mi_X0_use me_X0_use (by first | assumption | rfl) (by rfl) rfl rfl (of_decide_eq_true rfl) rfl (by decide) rfl rfl rfl rfl (C_X0_use (S := (pq_ S (cl_ x) (cl_ y) (nI a9) (nI m9))) hcy.1 n24 ham (fun k hk => (c54 k hk).1) (fun h2 Q2 te2 => ?_) RF.2.2.2.1)
        have RR := RF.us Q2 te2
        have G0 := RR.1
        refine v_iload 99 dX6_saw_97 rfl rfl ?_
        refine v_isub 100 dX6_saw_99 rfl ?_
        refine v_istore 102 dX6_saw_100 (by decide) rfl rfl ?_
        dsimp only [List.set]
        refine v_aload_n 103 dX6_saw_102 rfl rfl ?_
        refine v_dup 104 dX6_saw_103 rfl rfl ?_
        refine v_getfi 107 dX6_saw_104 fl_X6_267 (by first | assumption | rfl) (by rfl) rfl ?_
        rw [G0.2.2.2.2.1]
        refine v_iload 109 dX6_saw_107 rfl rfl ?_
        refine v_iadd 110 dX6_saw_109 rfl ?_
        refine v_putfi 113 dX6_saw_110 pf_X6_saw_267 (by first | assumption | rfl) (by first | assumption | decide) (by rfl) rfl rfl rfl ?_
        refine v_aload_n 114 dX6_saw_113 rfl rfl ?_
        refine v_dup 115 dX6_saw_114 rfl rfl ?_
        refine v_getfi 118 dX6_saw_115 fl_X6_270 (by first | assumption | rfl) (by rfl) rfl ?_
        rw [show hp_vi (hp_seti h2 10 0 8 (hp_vi (su_ (pq_ S (cl_ x) (cl_ y) (nI a9) (nI m9)) (cl_ y) a9 m9).1 40 0 9 + 64 * nI m9)) 10 0 10 = hp_vi (su_ (pq_ S (cl_ x) (cl_ y) (nI a9) (nI m9)) (cl_ y) a9 m9).1 40 0 10 from (hp_seti_ne (by simp)).trans G0.2.2.2.2.2.2]
        refine v_iload 120 dX6_saw_118 rfl rfl ?_
        refine v_iadd 121 dX6_saw_120 rfl ?_
        refine v_putfi 124 dX6_saw_121 pf_X6_saw_270 (by first | assumption | rfl) (by first | assumption | decide) (by rfl) rfl rfl rfl ?_
        refine v_iload 126 dX6_saw_124 rfl rfl ?_
        refine v_ireturn dX6_saw_126 rfl ?_
        refine hq _ (RR.gl (fun t ht => (by repeat' first | exact hp_te.rf | refine hp_te.tr ?_ (hp_te.i (by first | decide | omega)) | refine hp_te.tr ?_ (hp_te.r (by first | decide | omega)) | refine hp_te.tr ?_ (hp_te.n (by first | decide | omega)))) (fun t ht => (by repeat' first | exact hp_te.rf | refine hp_te.tr ?_ (hp_te.i (by first | decide | omega)) | refine hp_te.tr ?_ (hp_te.r (by first | decide | omega)) | refine hp_te.tr ?_ (hp_te.n (by first | decide | omega)))) rfl ?_) (fun t ht => ?_)
        · obtain ⟨g0, g1, g2, g3, g4, g5, g6⟩ := G0
          refine ⟨g0, ?_, ?_, ?_, ?_, ?_, ?_⟩
          · exact (hp_seti_ne (by simp)).trans ((hp_seti_ne (by simp)).trans (g1.trans ((hp_seti_ne (by simp)).trans (hp_seti_ne (by simp))).symm))
          · exact (hp_seti_ne (by simp)).trans ((hp_seti_ne (by simp)).trans (g2.trans ((hp_seti_ne (by simp)).trans (hp_seti_ne (by simp))).symm))
          · exact (hp_seti_ne (by simp)).trans ((hp_seti_ne (by simp)).trans (g3.trans ((hp_seti_ne (by simp)).trans (hp_seti_ne (by simp))).symm))
          · exact (hp_seti_ne (by simp)).trans (hp_seti_at.trans ((hp_seti_ne (by simp)).trans hp_seti_at).symm)
          · exact (hp_seti_ne (by simp)).trans ((hp_seti_ne (by simp)).trans (g5.trans ((hp_seti_ne (by simp)).trans (hp_seti_ne (by simp))).symm))
          · exact hp_seti_at.trans hp_seti_at.symm
        · refine hp_te.tr (hp_te.tr (h1 := (ph_ h (cl_ x) (cl_ y) (nI a9) (nI m9))) ?_ (te2 t (by omega) (by omega))) (by repeat' first | exact hp_te.rf | refine hp_te.tr ?_ (hp_te.i (by first | decide | omega)) | refine hp_te.tr ?_ (hp_te.r (by first | decide | omega)) | refine hp_te.tr ?_ (hp_te.n (by first | decide | omega)))
          unfold ph_
          exact (by repeat' first | exact hp_te.rf | refine hp_te.tr ?_ (hp_te.i (by first | decide | omega)) | refine hp_te.tr ?_ (hp_te.r (by first | decide | omega)) | refine hp_te.tr ?_ (hp_te.n (by first | decide | omega)))
      · have c54 := f1_0.mp c54
        rw [if_neg c54] at hq
        refine v_throw dX6_saw_57 dX6_saw_60 dX6_saw_61 dX6_saw_64 rfl th_X6_73_75 rfl (by decide) (by decide) (by decide) ?_
        exact hq h R (fun _ _ => hp_te.rf)
  · have c25 := f1_0.mp c25
    rw [if_neg c25] at hq
    refine v_throw dX6_saw_28 dX6_saw_31 dX6_saw_32 dX6_saw_35 rfl th_X6_44_46 rfl (by decide) (by decide) (by decide) ?_
    exact hq h R (fun _ _ => hp_te.rf)
