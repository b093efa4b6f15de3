/-- a picture changed -/
theorem Rp1.pi {S S' : SP} {h h' : PH} {p : Nat} (R : Rp1 S h) (hp : p < nn_ S 3) (te : ∀ t, ¬ t = 14 → ¬ t = 18 → ¬ t = 33 → ¬ t = 34 → ¬ t = 35 → ¬ t = 36 → hp_te h h' t) (fe : ∀ t, ¬ t = 44 → ¬ t = 48 → ¬ t = 63 → ¬ t = 64 → hp_te S.1 S'.1 t) (c : ∀ j, ¬ j = 20 + p → ¬ j = 30 + p → S'.2.1 j = S.2.1 j) (co : S'.2.2 = S.2.2)
    (e : ∀ j, ¬ j = p → hp_tx h h' 14 j ∧ hp_tx h h' 18 j ∧ hp_tx h h' 33 j ∧ hp_tx h h' 34 j ∧ hp_tx h h' 35 j ∧ hp_tx h h' 36 j) (f : ∀ j, ¬ j = p → hp_tx S.1 S'.1 44 j ∧ hp_tx S.1 S'.1 48 j ∧ hp_tx S.1 S'.1 63 j ∧ hp_tx S.1 S'.1 64 j) (h4 : nn_ S 3 ≤ 4) (h2 : nn_ S 2 ≤ 8) (new : pi_1 S' h' p) : Rp1 S' h' := by
  obtain ⟨R0, ⟨L0, L1, L2, L3, L4⟩, R1, R2, R3, R4, R5⟩ := R
  have T : ∀ t, ¬ t = 14 ∧ ¬ t = 18 ∧ ¬ t = 33 ∧ ¬ t = 34 ∧ ¬ t = 35 ∧ ¬ t = 36 → hp_te h h' t := fun t q => te t q.1 q.2.1 q.2.2.1 q.2.2.2.1 q.2.2.2.2.1 q.2.2.2.2.2
  have F : ∀ t, ¬ t = 44 ∧ ¬ t = 48 ∧ ¬ t = 63 ∧ ¬ t = 64 → hp_te S.1 S'.1 t := fun t q => fe t q.1 q.2.1 q.2.2.1 q.2.2.2
  have C : ∀ j, j < 20 → nn_ S' j = nn_ S j := fun j hj => c j (by omega) (by omega)
  refine ⟨R0.te (T _ (by decide)) (F _ (by decide)).2.2.1, ⟨?_, ?_, ?_, ?_, ?_⟩, R1.te (T _ (by decide)) (F _ (by decide)) (C 0 (by decide)), R2.te (T _ (by decide)) (T _ (by decide)) (T _ (by decide)) (T _ (by decide)) (F _ (by decide)) (F _ (by decide)) (F _ (by decide)) (C 1 (by decide)), R3.te (T _ (by decide)) (T _ (by decide)) (T _ (by decide)) (F _ (by decide)) (F _ (by decide)) (F _ (by decide)) (F _ (by decide)) (C 2 (by decide)) (fun q hq => C (10 + q) (by have h9 : q < nn_ S 2 := hq; omega)), ⟨fun j hj => ?_, fun j hj => ?_⟩, ⟨fun k hk => ?_, fun j hj => ?_⟩⟩
  · rw [C 0 (by decide)]; exact L0.te (T _ (by decide)) (T _ (by decide)) (T _ (by decide))
  · rw [C 1 (by decide)]; exact L1.te (T _ (by decide)) (T _ (by decide)) (T _ (by decide))
  · rw [C 2 (by decide)]; exact L2.te (T _ (by decide)) (T _ (by decide)) (T _ (by decide))
  · rw [C 3 (by decide)]; exact L3.te (T _ (by decide)) (T _ (by decide)) (T _ (by decide))
  · rw [C 5 (by decide), co]; exact L4.te (T _ (by decide)) (T _ (by decide)) (T _ (by decide))
  · rw [C 3 (by decide)] at hj
    by_cases q : j = p
    · exact q ▸ new
    · obtain ⟨x1, x2, x3, x4, x5, x6⟩ := e j q
      obtain ⟨y1, y2, y3, y4⟩ := f j q
      exact (R4.1 j hj).tx x1 x2 x3 x4 x5 x6 y1 y2 y3 y4 (c _ (by omega) (by omega)) (c _ (by omega) (by omega))
  · rw [C 3 (by decide)] at hj
    obtain ⟨x1, x2, x3, x4, x5, x6⟩ := e j (by omega)
    rw [x1.1, x2.1, x3.1, x4.1, x5.1, x6.1]
    exact R4.2 j hj
  · rw [C 5 (by decide)] at hk
    rw [co, (T 15 (by decide)).1, (T 15 (by decide)).2.2.1, (F 45 (by decide)).2.2.1]
    exact R5.1 k hk
  · rw [C 4 (by decide)] at hj
    rw [(T 15 (by decide)).1]
    exact R5.2 j hj
def op_sand (S : SP) (x fd dg sc : Int32) : Nat × Int32 × SP := if ok_i x (nn_ S 3) then (if (0 ≤ fd - 97 ∧ fd - 97 ≤ 7) ∧ (100 ≤ dg ∧ dg ≤ 300) ∧ (1 ≤ sc ∧ sc ≤ 60) then (if (s_pa S (cl_ x)).1 = 0 then (3, 0, S) else (0, mn 99 (hp_vi S.1 64 (cl_ x) (cl_ (fd - 97)) + (dg - 100) * sc / 50), (hp_seti S.1 64 (cl_ x) (cl_ (fd - 97)) (mn 99 (hp_vi S.1 64 (cl_ x) (cl_ (fd - 97)) + (dg - 100) * sc / 50)), S.2))) else (2, 0, S)) else (1, 0, S)
set_option maxRecDepth 20000 in
theorem C_X5_darken {G : GW} {h : PH} {Q : RS → PH → Prop} {S : SP} {p k : Nat} {x : Int32} (F : pi_1 S h p) (hk : k < 8) (hq : Q (.inl (some (pv_I (mn 99 (hp_vi S.1 64 p k + x))))) (hp_seti h 34 p k (mn 99 (hp_vi S.1 64 p k + x)))) : VV G 1 0 0 yX5_darken cX5_darken 3 (some .int) [] 0 (vv_en 3 [pv_O (14, p), pv_I (nI k), pv_I x]) [] h Q := by
  show VV G 1 0 0 yX5_darken cX5_darken 3 (some .int) [] 0 [some (pv_O (14, p)), some (pv_I (nI k)), some (pv_I x)] [] h Q
  refine v_iload_n 1 dX5_darken_0 rfl rfl ?_
  refine v_if_lt 10 4 dX5_darken_1 (by decide) rfl (fun c1 => ?_) (fun c1 => ?_)
  · exact absurd c1 (nI_pos (by omega))
  · refine v_iload_n 5 dX5_darken_4 rfl rfl ?_
    refine v_bipushv (v := 8) 7 dX5_darken_5 (by decide) rfl ?_
    refine v_icmp_lt 12 10 dX5_darken_7 (by decide) rfl (fun c7 => ?_) (fun c7 => ?_)
    · refine v_aload_n 13 dX5_darken_12 rfl rfl ?_
      refine v_getfr 16 dX5_darken_13 fl_X5_15 (by first | assumption | rfl) (by rfl) rfl ?_
      rw [F.1.2.2.1]
      refine v_iload_n 17 dX5_darken_16 rfl rfl ?_
      refine v_bipushv (v := 99) 19 dX5_darken_17 (by decide) rfl ?_
      refine v_aload_n 20 dX5_darken_19 rfl rfl ?_
      refine v_getfr 23 dX5_darken_20 fl_X5_15 (by first | assumption | rfl) (by rfl) rfl ?_
      rw [F.1.2.2.1]
      refine v_iload_n 24 dX5_darken_23 rfl rfl ?_
      refine v_iald 25 dX5_darken_24 (by first | assumption | rfl) (by rw [F.2.2.1.2.1]; exact in_nI hk (by omega)) rfl ?_
      rw [nI_clamp (by omega), F.2.2.2.2.1 k hk]
      refine v_iload_n 26 dX5_darken_25 rfl rfl ?_
      refine v_iadd 27 dX5_darken_26 rfl ?_
      refine v_min 30 dX5_darken_27 ma_X5_56 ma_s_min ma_i rfl (by decide) rfl ?_
      refine v_iast 31 dX5_darken_30 (by first | assumption | rfl) (by first | assumption | decide) (by rw [F.2.2.1.2.1]; exact in_nI hk (by omega)) rfl ?_
      rw [nI_clamp (by omega)]
      refine v_aload_n 32 dX5_darken_31 rfl rfl ?_
      refine v_getfr 35 dX5_darken_32 fl_X5_15 (by first | assumption | rfl) (by rfl) rfl ?_
      rw [show hp_vr (hp_seti h 34 p k (mn 99 (hp_vi S.1 64 p k + x))) 14 p 1 = (34, p) from F.1.2.2.1]
      refine v_iload_n 36 dX5_darken_35 rfl rfl ?_
      refine v_iald 37 dX5_darken_36 (by first | assumption | rfl) (by show vp_in _ (hp_ln h 34 p); rw [F.2.2.1.2.1]; exact in_nI hk (by omega)) rfl ?_
      rw [nI_clamp (by omega), hp_seti_at]
      refine v_ireturn dX5_darken_37 rfl ?_
      exact hq
    · exact absurd (nI_lt (b := 8) hk (by decide)) c7
set_option maxRecDepth 20000 in
theorem C_X6_sand {G : GW} {h : PH} {Q : RS → PH → Prop} {S : SP} {N : Nat} (R : Rp1 S h) (I : Iv S N) {x fd dg sc : Int32} (hq : ∀ h', Rp1 (op_sand S x fd dg sc).2.2 h' → (∀ t, t < 10 ∨ 40 ≤ t → hp_te h h' t) → Q (an_ "java/lang/IndexOutOfBoundsException" "java/lang/IllegalArgumentException" "java/lang/UnsupportedOperationException" ((op_sand S x fd dg sc).1, (op_sand S x fd dg sc).2.1)) h') : VV G 7 2 12 yX6_sand cX6_sand 6 (some .int) [] 0 (vv_en 6 [pv_O (10, 0), pv_I x, pv_I fd, pv_I dg, pv_I sc]) [] h Q := by
  show VV G 7 2 12 yX6_sand cX6_sand 6 (some .int) [] 0 [some (pv_O (10, 0)), some (pv_I x), some (pv_I fd), some (pv_I dg), some (pv_I sc), none] [] h Q
  obtain ⟨R0, RL, R1, R2, R3, R4, R5⟩ := id R
  obtain ⟨z0, z1, z2, z3, z4, z5⟩ := I.cs
  unfold op_sand at hq
  refine v_aload_n 1 dX6_sand_0 rfl rfl ?_
  refine v_iload_n 2 dX6_sand_1 rfl rfl ?_
  refine v_invv (d' := 6) (k' := 1) (n' := 6) (k2 := 1) (n2 := 6) 5 [_] dX6_sand_2 mt_X6_229 mi_X6_pictureOf me_X6_pictureOf (by first | assumption | rfl) (by rfl) rfl rfl (of_decide_eq_true rfl) rfl (by decide) rfl rfl rfl rfl (C_X6_pictureOf R0 RL (fun e => ?_) (fun ho => ?_))
  · rw [if_neg e] at hq
    exact vv_out (hq h R (fun _ _ => hp_te.rf))
  rw [if_pos ho] at hq
  have hc := ho.cl (by omega)
  have F := R4.1 _ hc.1
  obtain ⟨I0, I1, I2, I3, I4⟩ := I.2.2.2.2.1 _ hc.1
  refine v_astore 7 dX6_sand_5 (by decide) rfl rfl ?_
  dsimp only [List.set]
  refine v_iload_n 8 dX6_sand_7 rfl rfl ?_
  refine v_invs (d' := 1) (k' := 0) (n' := 0) (k2 := 1) (n2 := 6) 11 [_] dX6_sand_8 mt_X6_237 ms_X6_isField rfl rfl (of_decide_eq_true rfl) rfl (by decide) rfl rfl rfl rfl (C_X6_isField ?_)
  refine v_if_eq 37 14 dX6_sand_11 (by decide) rfl (fun c11 => ?_) (fun c11 => ?_)
  · have c11 := f1_0.mp c11
    rw [if_neg (fun q => by first | exact c11 q.1 | exact c23 q.2.1 | exact c34 q.2.2)] at hq
    refine v_throw dX6_sand_37 dX6_sand_40 dX6_sand_41 dX6_sand_44 rfl th_X6_44_46 rfl (by decide) (by decide) (by decide) ?_
    exact hq h R (fun _ _ => hp_te.rf)
  · have c11 := Decidable.not_not.mp (fun q => c11 (f1_0.mpr q))
    refine v_iload_n 15 dX6_sand_14 rfl rfl ?_
    refine v_bipushv (v := 100) 17 dX6_sand_15 (by decide) rfl ?_
    refine v_sipushv (v := 300) 20 dX6_sand_17 (by decide) rfl ?_
    refine v_invs (d' := 0) (k' := 0) (n' := 0) (k2 := 1) (n2 := 6) 23 [_, _, _] dX6_sand_20 mt_X6_40 ms_X6_isIn rfl rfl (of_decide_eq_true rfl) rfl (by decide) rfl rfl rfl rfl (C_X6_isIn ?_)
    refine v_if_eq 37 26 dX6_sand_23 (by decide) rfl (fun c23 => ?_) (fun c23 => ?_)
    · have c23 := f1_0.mp c23
      rw [if_neg (fun q => by first | exact c11 q.1 | exact c23 q.2.1 | exact c34 q.2.2)] at hq
      refine v_throw dX6_sand_37 dX6_sand_40 dX6_sand_41 dX6_sand_44 rfl th_X6_44_46 rfl (by decide) (by decide) (by decide) ?_
      exact hq h R (fun _ _ => hp_te.rf)
    · have c23 := Decidable.not_not.mp (fun q => c23 (f1_0.mpr q))
      refine v_iload 28 dX6_sand_26 rfl rfl ?_
      refine v_iconstv (v := 1) 29 dX6_sand_28 (by decide) rfl ?_
      refine v_bipushv (v := 60) 31 dX6_sand_29 (by decide) rfl ?_
      refine v_invs (d' := 0) (k' := 0) (n' := 0) (k2 := 1) (n2 := 6) 34 [_, _, _] dX6_sand_31 mt_X6_40 ms_X6_isIn rfl rfl (of_decide_eq_true rfl) rfl (by decide) rfl rfl rfl rfl (C_X6_isIn ?_)
      refine v_if_ne 45 37 dX6_sand_34 (by decide) rfl (fun c34 => ?_) (fun c34 => ?_)
      · have c34 := Decidable.not_not.mp (fun q => c34 (f1_0.mpr q))
        rw [if_pos ⟨c11, c23, c34⟩] at hq
        obtain ⟨k9, hk9, ek⟩ := i8_ c11
        have eck : cl_ (fd - 97) = k9 := by unfold cl_; rw [ek, nI_clamp (by omega)]
        rw [eck] at hq
        refine v_aload 47 dX6_sand_45 rfl rfl ?_
        refine v_getfr 50 dX6_sand_47 fl_X6_241 (by first | assumption | rfl) (by rfl) rfl ?_
        refine v_ifnonnull 61 53 dX6_sand_50 (by decide) rfl (fun c50 => ?_) (fun c50 => ?_)
        · have w := ((rr_0 (by decide) F.1.2.2.2.2.2).2 c50).1
          rw [if_neg w] at hq
          refine v_aload 63 dX6_sand_61 rfl rfl ?_
          refine v_iload_n 64 dX6_sand_63 rfl rfl ?_
          refine v_bipushv (v := 97) 66 dX6_sand_64 (by decide) rfl ?_
          refine v_isub 67 dX6_sand_66 rfl ?_
          rw [ek]
          refine v_iload_n 68 dX6_sand_67 rfl rfl ?_
          refine v_bipushv (v := 100) 70 dX6_sand_68 (by decide) rfl ?_
          refine v_isub 71 dX6_sand_70 rfl ?_
          refine v_iload 73 dX6_sand_71 rfl rfl ?_
          refine v_imul 74 dX6_sand_73 rfl ?_
          refine v_bipushv (v := 50) 76 dX6_sand_74 (by decide) rfl ?_
          refine v_idiv 77 dX6_sand_76 (by decide) rfl ?_
          refine v_invv (d' := 1) (k' := 0) (n' := 0) (k2 := 1) (n2 := 6) 80 [_, _] dX6_sand_77 mt_X6_287 mi_X5_darken me_X5_darken (by first | assumption | rfl) (by rfl) rfl rfl (of_decide_eq_true rfl) rfl (by decide) rfl rfl rfl rfl (C_X5_darken F hk9 ?_)
          refine v_ireturn dX6_sand_80 rfl ?_
          dsimp only at hq
          refine hq _ (R.pi (p := cl_ x) hc.1 (fun t t1 t2 t3 t4 t5 t6 => (by repeat' first | exact hp_te.rf | refine hp_te.tr ?_ (hp_te.i (by first | decide | omega)) | refine hp_te.tr ?_ (hp_te.r (by first | decide | omega)) | refine hp_te.tr ?_ (hp_te.n (by first | decide | omega)))) (fun t t1 t2 t3 t4 => (by repeat' first | exact hp_te.rf | refine hp_te.tr ?_ (hp_te.i (by first | decide | omega)) | refine hp_te.tr ?_ (hp_te.r (by first | decide | omega)) | refine hp_te.tr ?_ (hp_te.n (by first | decide | omega)))) (fun _ _ _ => rfl) rfl (fun j hj => ⟨(by repeat' first | exact hp_tx.rf | refine hp_tx.tr ?_ (hp_tx.i (by omega)) | refine hp_tx.tr ?_ (hp_tx.r (by omega)) | refine hp_tx.tr ?_ (hp_tx.n (by omega))), (by repeat' first | exact hp_tx.rf | refine hp_tx.tr ?_ (hp_tx.i (by omega)) | refine hp_tx.tr ?_ (hp_tx.r (by omega)) | refine hp_tx.tr ?_ (hp_tx.n (by omega))), (by repeat' first | exact hp_tx.rf | refine hp_tx.tr ?_ (hp_tx.i (by omega)) | refine hp_tx.tr ?_ (hp_tx.r (by omega)) | refine hp_tx.tr ?_ (hp_tx.n (by omega))), (by repeat' first | exact hp_tx.rf | refine hp_tx.tr ?_ (hp_tx.i (by omega)) | refine hp_tx.tr ?_ (hp_tx.r (by omega)) | refine hp_tx.tr ?_ (hp_tx.n (by omega))), (by repeat' first | exact hp_tx.rf | refine hp_tx.tr ?_ (hp_tx.i (by omega)) | refine hp_tx.tr ?_ (hp_tx.r (by omega)) | refine hp_tx.tr ?_ (hp_tx.n (by omega))), (by repeat' first | exact hp_tx.rf | refine hp_tx.tr ?_ (hp_tx.i (by omega)) | refine hp_tx.tr ?_ (hp_tx.r (by omega)) | refine hp_tx.tr ?_ (hp_tx.n (by omega)))⟩) (fun j hj => ⟨(by repeat' first | exact hp_tx.rf | refine hp_tx.tr ?_ (hp_tx.i (by omega)) | refine hp_tx.tr ?_ (hp_tx.r (by omega)) | refine hp_tx.tr ?_ (hp_tx.n (by omega))), (by repeat' first | exact hp_tx.rf | refine hp_tx.tr ?_ (hp_tx.i (by omega)) | refine hp_tx.tr ?_ (hp_tx.r (by omega)) | refine hp_tx.tr ?_ (hp_tx.n (by omega))), (by repeat' first | exact hp_tx.rf | refine hp_tx.tr ?_ (hp_tx.i (by omega)) | refine hp_tx.tr ?_ (hp_tx.r (by omega)) | refine hp_tx.tr ?_ (hp_tx.n (by omega))), (by repeat' first | exact hp_tx.rf | refine hp_tx.tr ?_ (hp_tx.i (by omega)) | refine hp_tx.tr ?_ (hp_tx.r (by omega)) | refine hp_tx.tr ?_ (hp_tx.n (by omega)))⟩) z3 z2 ?_) (fun t ht => (by repeat' first | exact hp_te.rf | refine hp_te.tr ?_ (hp_te.i (by first | decide | omega)) | refine hp_te.tr ?_ (hp_te.r (by first | decide | omega)) | refine hp_te.tr ?_ (hp_te.n (by first | decide | omega))))
          obtain ⟨a1, a2, a3, a4, a5, a6, a7⟩ := F
          refine ⟨a1, a2, a3, a4, fun k hk => ?_, a6, a7⟩
          by_cases q : k = k9
          · subst q; exact hp_seti_at.trans hp_seti_at.symm
          · rw [hp_seti_ne (fun w9 => q w9.2.2)]; exact (a5 k hk).trans (hp_seti_ne (fun w9 => q w9.2.2)).symm
        · have w := ((rr_0 (by decide) F.1.2.2.2.2.2).1 c50).1
          rw [if_pos w] at hq
          refine v_throw dX6_sand_53 dX6_sand_56 dX6_sand_57 dX6_sand_60 rfl th_X6_73_75 rfl (by decide) (by decide) (by decide) ?_
          exact hq h R (fun _ _ => hp_te.rf)
      · have c34 := f1_0.mp c34
        rw [if_neg (fun q => by first | exact c11 q.1 | exact c23 q.2.1 | exact c34 q.2.2)] at hq
        refine v_throw dX6_sand_37 dX6_sand_40 dX6_sand_41 dX6_sand_44 rfl th_X6_44_46 rfl (by decide) (by decide) (by decide) ?_
        exact hq h R (fun _ _ => hp_te.rf)
