def nw_pic (S : SP) : SP := (hp_setr (hp_new (hp_setr (hp_new (hp_new S.1 44 (nn_ S 3) 0) 63 (nn_ S 3) 64) 44 (nn_ S 3) 0 (63, nn_ S 3)) 64 (nn_ S 3) 8) 44 (nn_ S 3) 2 (64, nn_ S 3), c_up (c_up (c_up S.2.1 3 (nn_ S 3 + 1)) (20 + nn_ S 3) 1) (30 + nn_ S 3) 0, S.2.2)
def op_picture (S : SP) : Nat × Int32 × SP := if 4 ≤ nn_ S 3 then (1, 0, S) else (0, nI (nn_ S 3), nw_pic S)
theorem nw_pic_te (S : SP) {t : Nat} (h1 : ¬ t = 44) (h2 : ¬ t = 63) (h3 : ¬ t = 64) : hp_te S.1 (nw_pic S).1 t := (by repeat' first | exact hp_te.rf | refine hp_te.tr ?_ (hp_te.i (by first | decide | omega)) | refine hp_te.tr ?_ (hp_te.r (by first | decide | omega)) | refine hp_te.tr ?_ (hp_te.n (by first | decide | omega)))
theorem nw_pic_tx (S : SP) {i : Nat} (hi : ¬ i = nn_ S 3) : hp_tx S.1 (nw_pic S).1 44 i ∧ hp_tx S.1 (nw_pic S).1 63 i ∧ hp_tx S.1 (nw_pic S).1 64 i := ⟨(by repeat' first | exact hp_tx.rf | refine hp_tx.tr ?_ (hp_tx.i (by omega)) | refine hp_tx.tr ?_ (hp_tx.r (by omega)) | refine hp_tx.tr ?_ (hp_tx.n (by omega))), (by repeat' first | exact hp_tx.rf | refine hp_tx.tr ?_ (hp_tx.i (by omega)) | refine hp_tx.tr ?_ (hp_tx.r (by omega)) | refine hp_tx.tr ?_ (hp_tx.n (by omega))), (by repeat' first | exact hp_tx.rf | refine hp_tx.tr ?_ (hp_tx.i (by omega)) | refine hp_tx.tr ?_ (hp_tx.r (by omega)) | refine hp_tx.tr ?_ (hp_tx.n (by omega)))⟩
theorem Rp1.np {S : SP} {N : Nat} {h h' : PH} (R : Rp1 S h) (I : Iv S N) (te : ∀ t, ¬ t = 14 → ¬ t = 33 → ¬ t = 34 → ¬ t = 35 → ¬ t = 36 → ¬ t = 23 → ¬ t = 28 → hp_te h h' t) (L : q_l h' 23 28 (nn_ S 3 + 1) (fun k => (14, k))) (lx : ∀ i, ¬ i = nn_ S 3 → hp_tx h h' 14 i ∧ hp_tx h h' 33 i ∧ hp_tx h h' 34 i ∧ hp_tx h h' 35 i ∧ hp_tx h h' 36 i) (new : pi_1 (nw_pic S) h' (nn_ S 3)) : Rp1 (nw_pic S) h' := by
  obtain ⟨R0, ⟨L0, L1, L2, L3, L4⟩, R1, R2, R3, R4, R5⟩ := R
  obtain ⟨z0, z1, z2, z3, z4, z5⟩ := I.cs
  have F : ∀ t, ¬ t = 44 ∧ ¬ t = 63 ∧ ¬ t = 64 → hp_te S.1 (nw_pic S).1 t := fun t q => nw_pic_te S q.1 q.2.1 q.2.2
  have T : ∀ t, ¬ t = 14 ∧ ¬ t = 33 ∧ ¬ t = 34 ∧ ¬ t = 35 ∧ ¬ t = 36 ∧ ¬ t = 23 ∧ ¬ t = 28 → hp_te h h' t := fun t q => te t q.1 q.2.1 q.2.2.1 q.2.2.2.1 q.2.2.2.2.1 q.2.2.2.2.2.1 q.2.2.2.2.2.2
  have C : ∀ j, ¬ j = 3 → ¬ j = 20 + nn_ S 3 → ¬ j = 30 + nn_ S 3 → nn_ (nw_pic S) j = nn_ S j := fun j q1 q2 q3 => (c_ne q3).trans ((c_ne q2).trans (c_ne q1))
  have C3 : nn_ (nw_pic S) 3 = nn_ S 3 + 1 := (c_ne (by omega)).trans ((c_ne (by omega)).trans c_at)
  refine ⟨R0.te (T _ (by decide)) (F _ (by decide)).2.2.1, ⟨?_, ?_, ?_, ?_, ?_⟩, R1.te (T _ (by decide)) (F _ (by decide)) (C 0 (by decide) (by omega) (by omega)), R2.te (T _ (by decide)) (T _ (by decide)) (T _ (by decide)) (T _ (by decide)) (F _ (by decide)) (F _ (by decide)) (F _ (by decide)) (C 1 (by decide) (by omega) (by omega)), R3.te (T _ (by decide)) (T _ (by decide)) (T _ (by decide)) (F _ (by decide)) (F _ (by decide)) (F _ (by decide)) (F _ (by decide)) (C 2 (by decide) (by omega) (by omega)) (fun q hq => C (10 + q) (by omega) (by have h9 : q < nn_ S 2 := hq; omega) (by have h9 : q < nn_ S 2 := hq; omega)), ⟨fun j hj => ?_, fun j hj => ?_⟩, ⟨fun k hk => ?_, fun j hj => ?_⟩⟩
  · rw [C 0 (by decide) (by omega) (by omega)]; exact L0.te (T _ (by decide)) (T _ (by decide)) (T _ (by decide))
  · rw [C 1 (by decide) (by omega) (by omega)]; exact L1.te (T _ (by decide)) (T _ (by decide)) (T _ (by decide))
  · rw [C 2 (by decide) (by omega) (by omega)]; exact L2.te (T _ (by decide)) (T _ (by decide)) (T _ (by decide))
  · rw [C3]; exact L
  · rw [C 5 (by decide) (by omega) (by omega)]; exact L4.te (T _ (by decide)) (T _ (by decide)) (T _ (by decide))
  · rw [C3] at hj
    by_cases q : j = nn_ S 3
    · exact q ▸ new
    · obtain ⟨x1, x2, x3, x4, x5⟩ := lx j q
      obtain ⟨y1, y2, y3⟩ := nw_pic_tx S q
      exact (R4.1 j (by omega)).tx x1 ((T 18 (by decide)).x j) x2 x3 x4 x5 y1 ((F 48 (by decide)).x j) y2 y3 (C _ (by omega) (by omega) (by omega)) (C _ (by omega) (by omega) (by omega))
  · rw [C3] at hj
    obtain ⟨x1, x2, x3, x4, x5⟩ := lx j (by omega)
    rw [x1.1, (T 18 (by decide)).1, x2.1, x3.1, x4.1, x5.1]
    exact R4.2 j (by omega)
  · rw [C 5 (by decide) (by omega) (by omega)] at hk
    rw [(T 15 (by decide)).1, (T 15 (by decide)).2.2.1, (F 45 (by decide)).2.2.1]
    exact R5.1 k hk
  · rw [C 4 (by decide) (by omega) (by omega)] at hj
    rw [(T 15 (by decide)).1]
    exact R5.2 j hj
set_option maxRecDepth 20000 in
theorem C_X6_picture {G : GW} {h : PH} {Q : RS → PH → Prop} {S : SP} {N : Nat} (R : Rp1 S h) (I : Iv S N) (hq : ∀ h', Rp1 (op_picture S).2.2 h' → (∀ t, t < 10 ∨ 40 ≤ t → hp_te h h' t) → Q (an_ "java/lang/IllegalStateException" "" "" ((op_picture S).1, (op_picture S).2.1)) h') : VV G 8 8 260 yX6_picture cX6_picture 1 (some .int) [] 0 (vv_en 1 [pv_O (10, 0)]) [] h Q := by
  show VV G 8 8 260 yX6_picture cX6_picture 1 (some .int) [] 0 [some (pv_O (10, 0))] [] h Q
  obtain ⟨R0, RL, R1, R2, R3, R4, R5⟩ := id R
  obtain ⟨z0, z1, z2, z3, z4, z5⟩ := I.cs
  unfold op_picture at hq
  obtain ⟨cap, L0⟩ := id RL.2.2.2.1
  refine v_aload_n 1 dX6_picture_0 rfl rfl ?_
  refine v_getfr 4 dX6_picture_1 fl_X6_22 (by first | assumption | rfl) (by rfl) rfl ?_
  rw [R0.1.2.2.2.2.1]
  refine v_invv (d' := 0) (k' := 0) (n' := 0) (k2 := 8) (n2 := 260) 7 [] dX6_picture_4 mt_X6_47 mi_Jx4a65c_size_8abf5 me_Jx4a65c_size_8abf5 (by first | assumption | rfl) (by rfl) rfl rfl (of_decide_eq_true rfl) rfl (by decide) rfl rfl rfl rfl (C_Jx4a65c_size_8abf5 (tl := 23) (ta := 28) rfl rfl L0 ?_)
  refine v_iconstv (v := 4) 8 dX6_picture_7 (by decide) rfl ?_
  refine v_icmp_lt 19 11 dX6_picture_8 (by decide) rfl (fun c8 => ?_) (fun c8 => ?_)
  · have c9 : nn_ S 3 < 4 := Nat.lt_of_not_le (fun q => absurd c8 (nI_nlt (a := nn_ S 3) (b := 4) q (by omega)))
    rw [if_neg (by omega)] at hq
    refine v_aload_n 20 dX6_picture_19 rfl rfl ?_
    refine v_getfr 23 dX6_picture_20 fl_X6_22 (by first | assumption | rfl) (by rfl) rfl ?_
    rw [R0.1.2.2.2.2.1]
    obtain ⟨f1, f2, f3, f4, f5, f6⟩ := R4.2 _ (Nat.le_refl _)
    refine v_new (k1 := 7) (n1 := 252) 26 14 (nn_ S 3) dX6_picture_23 nw_X6_226 (by rfl) (by decide) f1 rfl rfl rfl ?_
    refine v_dup 27 dX6_picture_26 rfl rfl ?_
    refine v_inviN (d' := 1) (k' := 4) (n' := 200) (k2 := 3) (n2 := 52) 30 [] dX6_picture_27 mn_X6_228 md_X5_init mi_X5_init rfl rfl (by first | assumption | rfl) rfl rfl (of_decide_eq_true rfl) rfl (by decide) rfl rfl rfl rfl (C_X5_init (by simp [al_n, f3]) (by simp [al_n, f4]) (by simp [al_n, f5]) (by simp [al_n, f6]) ?_)
    refine v_invv (d' := 6) (k' := 1) (n' := 30) (k2 := 2) (n2 := 22) 33 [_] dX6_picture_30 mt_X6_59 mi_Jx4a65c_add_9ea2d me_Jx4a65c_add_9ea2d (by first | assumption | rfl) (by rfl) rfl rfl (of_decide_eq_true rfl) rfl (by decide) rfl rfl rfl rfl (C_add (tl := 23) (ta := 28) (f := fun k => (14, k)) rfl rfl (L0.te (by repeat' first | exact hp_te.rf | refine hp_te.tr ?_ (hp_te.i (by first | decide | omega)) | refine hp_te.tr ?_ (hp_te.r (by first | decide | omega)) | refine hp_te.tr ?_ (hp_te.n (by first | decide | omega))) (by repeat' first | exact hp_te.rf | refine hp_te.tr ?_ (hp_te.i (by first | decide | omega)) | refine hp_te.tr ?_ (hp_te.r (by first | decide | omega)) | refine hp_te.tr ?_ (hp_te.n (by first | decide | omega))) (by repeat' first | exact hp_te.rf | refine hp_te.tr ?_ (hp_te.i (by first | decide | omega)) | refine hp_te.tr ?_ (hp_te.r (by first | decide | omega)) | refine hp_te.tr ?_ (hp_te.n (by first | decide | omega)))) (by decide) (by decide) (by decide) (by decide) (by decide) ob_14 (by omega) (fun k hk => Or.inr ob_14) (by omega) (fun h' cap' L9 te9 tx9 => ?_))
    refine v_pop 34 dX6_picture_33 rfl rfl ?_
    refine v_aload_n 35 dX6_picture_34 rfl rfl ?_
    refine v_getfr 38 dX6_picture_35 fl_X6_22 (by first | assumption | rfl) (by rfl) rfl ?_
    rw [show hp_vr h' 10 0 3 = (23, 0) from by rw [(te9 10 (by decide) (by decide)).2.2.2.1]; exact R0.1.2.2.2.2.1]
    refine v_invv (d' := 0) (k' := 0) (n' := 0) (k2 := 2) (n2 := 22) 41 [] dX6_picture_38 mt_X6_47 mi_Jx4a65c_size_8abf5 me_Jx4a65c_size_8abf5 (by first | assumption | rfl) (by rfl) rfl rfl (of_decide_eq_true rfl) rfl (by decide) rfl rfl rfl rfl (C_Jx4a65c_size_8abf5 (tl := 23) (ta := 28) rfl rfl L9 ?_)
    refine v_iconstv (v := 1) 42 dX6_picture_41 (by decide) rfl ?_
    refine v_isub 43 dX6_picture_42 rfl ?_
    rw [show nI (nn_ S 3 + 1) - 1 = nI (nn_ S 3) from pk_sub (a := nn_ S 3 + 1) (b := 1) (by omega)]
    refine v_ireturn dX6_picture_43 rfl ?_
    have E := fun t (h1 : t ≠ 23) (h2 : t ≠ 28) => te9 t h1 h2
    refine hq _ (R.np I (fun t t1 t2 t3 t4 t5 t6 t7 => hp_te.tr (by repeat' first | exact hp_te.rf | refine hp_te.tr ?_ (hp_te.i (by first | decide | omega)) | refine hp_te.tr ?_ (hp_te.r (by first | decide | omega)) | refine hp_te.tr ?_ (hp_te.n (by first | decide | omega))) (te9 t t6 t7)) ⟨_, L9.f (fun k hk => ?_)⟩ (fun i hi => ⟨hp_tx.tr (by repeat' first | exact hp_tx.rf | refine hp_tx.tr ?_ (hp_tx.i (by omega)) | refine hp_tx.tr ?_ (hp_tx.r (by omega)) | refine hp_tx.tr ?_ (hp_tx.n (by omega))) ((te9 14 (by decide) (by decide)).x i), hp_tx.tr (by repeat' first | exact hp_tx.rf | refine hp_tx.tr ?_ (hp_tx.i (by omega)) | refine hp_tx.tr ?_ (hp_tx.r (by omega)) | refine hp_tx.tr ?_ (hp_tx.n (by omega))) ((te9 33 (by decide) (by decide)).x i), hp_tx.tr (by repeat' first | exact hp_tx.rf | refine hp_tx.tr ?_ (hp_tx.i (by omega)) | refine hp_tx.tr ?_ (hp_tx.r (by omega)) | refine hp_tx.tr ?_ (hp_tx.n (by omega))) ((te9 34 (by decide) (by decide)).x i), hp_tx.tr (by repeat' first | exact hp_tx.rf | refine hp_tx.tr ?_ (hp_tx.i (by omega)) | refine hp_tx.tr ?_ (hp_tx.r (by omega)) | refine hp_tx.tr ?_ (hp_tx.n (by omega))) ((te9 35 (by decide) (by decide)).x i), hp_tx.tr (by repeat' first | exact hp_tx.rf | refine hp_tx.tr ?_ (hp_tx.i (by omega)) | refine hp_tx.tr ?_ (hp_tx.r (by omega)) | refine hp_tx.tr ?_ (hp_tx.n (by omega))) ((te9 36 (by decide) (by decide)).x i)⟩) ?_) (fun t ht => hp_te.tr (by repeat' first | exact hp_te.rf | refine hp_te.tr ?_ (hp_te.i (by first | decide | omega)) | refine hp_te.tr ?_ (hp_te.r (by first | decide | omega)) | refine hp_te.tr ?_ (hp_te.n (by first | decide | omega))) (te9 t (by omega) (by omega)))
    · by_cases q : k = nn_ S 3
      · rw [if_pos q, q]
      · rw [if_neg q]
    · have hpa : s_pa (nw_pic S) (nn_ S 3) = (0, 0) := by show hp_vr (nw_pic S).1 44 (nn_ S 3) 1 = _; unfold nw_pic; simp [vr_r, vr_n]
      have h20 : nn_ (nw_pic S) (20 + nn_ S 3) = 1 := (c_ne (by omega)).trans c_at
      have h30 : nn_ (nw_pic S) (30 + nn_ S 3) = 0 := c_at
      have E14 := te9 14 (by decide) (by decide)
      have E33 := te9 33 (by decide) (by decide)
      have E34 := te9 34 (by decide) (by decide)
      have E35 := te9 35 (by decide) (by decide)
      have E36 := te9 36 (by decide) (by decide)
      refine ⟨⟨?_, ?_, ?_, ?_, ?_, ?_⟩, ⟨?_, ?_, ?_⟩, ⟨?_, ?_, ?_, ?_⟩, fun k hk => ?_, fun k hk => ?_, fun _ => ?_, fun q => absurd (by rw [hpa]) q⟩
      · rw [E14.1]; simp [al_n, al_r, al_i]
      · rw [E14.2.2.2.1]; simp [vr_i, vr_r, vr_n]
      · rw [E14.2.2.2.1]; simp [vr_i, vr_r, vr_n]
      · rw [E14.2.2.2.1]; simp [vr_i, vr_r, vr_n]
      · rw [E14.2.2.2.1]; simp [vr_i, vr_r, vr_n]
      · rw [E14.2.2.2.1, hpa]; simp [vr_i, vr_r, vr_n]
      · rw [E14.2.2.1, h20]; simp [vi_i, vi_r, vi_n]; rfl
      · rw [E14.2.2.1, h30]; simp [vi_i, vi_r, vi_n]; rfl
      · rw [E14.2.2.1]; simp [vi_i, vi_r, vi_n]
      · rw [E33.2.1]; simp [ln_i, ln_r, ln_n]
      · rw [E34.2.1]; simp [ln_i, ln_r, ln_n]
      · rw [E35.2.1]; simp [ln_i, ln_r, ln_n]
      · rw [E36.2.1]; simp [ln_i, ln_r, ln_n]
      · rw [E33.2.2.1]; unfold nw_pic; simp [vi_i, vi_r, vi_n]
      · rw [E34.2.2.1]; unfold nw_pic; simp [vi_i, vi_r, vi_n]
      · rw [(te9 18 (by decide) (by decide)).1]; exact f2
  · have c9 : 4 ≤ nn_ S 3 := Nat.le_of_not_lt (fun q => c8 (nI_lt (b := 4) q (by omega)))
    rw [if_pos c9] at hq
    refine v_throw dX6_picture_11 dX6_picture_14 dX6_picture_15 dX6_picture_18 rfl th_X6_51_53 rfl (by decide) (by decide) (by decide) ?_
    exact hq h R (fun _ _ => hp_te.rf)
