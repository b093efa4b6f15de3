theorem mn_24 {q : Nat} (hq : q < 2 ^ 31) : mn 24 (nI q) = nI (min 24 q) := by
  rcases Nat.lt_or_ge q 24 with w | w
  · rw [Nat.min_eq_right (by omega)]; exact if_pos (nI_lt (b := 24) w (by decide))
  · rw [Nat.min_eq_left w]; exact if_neg (nI_nlt (b := 24) w hq)
theorem pw_n_ok {dd tt : Nat} (way : Int32) (h1 : 100 ≤ dd) (h2 : dd < 1000) (ht1 : 5 ≤ tt) (ht2 : tt ≤ 30) : ∃ n : Nat, 1 ≤ n ∧ n ≤ 24 ∧ mn 24 (pw_n way (nI dd) (nI tt)) = nI n := by
  have e1 : nI dd / 2 = nI (dd / 2) := pk_div (d := 2) (by omega) (by decide) (by decide)
  have e2 : nI (dd / 2) / 2 = nI (dd / 2 / 2) := pk_div (d := 2) (by omega) (by decide) (by decide)
  unfold pw_n
  rw [e1, e2]
  by_cases q : way = 102
  · have e3 : 10 * nI (dd / 2 / 2) / nI tt + 1 = nI (10 * (dd / 2 / 2) / tt + 1) := by
      rw [show 10 * nI (dd / 2 / 2) = nI (10 * (dd / 2 / 2)) from pk_mul 10 _, pk_div (by omega) (by omega) (by omega), nI_1]
    have e4 : 10 * (dd / 2 / 2) / tt ≤ 10 * (dd / 2 / 2) := Nat.div_le_self _ _
    rw [if_pos q, e3, mn_24 (by omega)]
    generalize 10 * (dd / 2 / 2) / tt = z at e4 ⊢
    exact ⟨_, by omega, by omega, rfl⟩
  · have e3 : 10 * nI (dd / 2) / nI tt = nI (10 * (dd / 2) / tt) := by
      rw [show 10 * nI (dd / 2) = nI (10 * (dd / 2)) from pk_mul 10 _, pk_div (by omega) (by omega) (by omega)]
    have e4 : 10 * (dd / 2) / tt ≤ 10 * (dd / 2) := Nat.div_le_self _ _
    have e5 : 1 ≤ 10 * (dd / 2) / tt := (Nat.le_div_iff_mul_le (by omega)).mpr (by omega)
    rw [if_neg q, e3, mn_24 (by omega)]
    generalize 10 * (dd / 2) / tt = z at e4 e5 ⊢
    exact ⟨_, by omega, by omega, rfl⟩
def nw_fn (S : SP) (lg : Nat) (way t : Int32) : Nat := cl_ (mn 24 (pw_n way (hp_vi S.1 41 lg 1) t))
def nw_fl (S : SP) (lg : Nat) (way t : Int32) : SP := (hp_setr (hp_new (hp_seti (hp_seti (hp_setr (hp_new (hp_seti S.1 41 lg 4 1) 42 (nn_ S 1) 0) 42 (nn_ S 1) 0 (41, lg)) 42 (nn_ S 1) 1 way) 42 (nn_ S 1) 2 t) 62 (nn_ S 1) (nw_fn S lg way t)) 42 (nn_ S 1) 3 (62, nn_ S 1), c_up S.2.1 1 (nn_ S 1 + 1), S.2.2)
def op_slice (S : SP) (x way t : Int32) : Nat × Int32 × SP := if ok_i x (nn_ S 0) then (if ¬ ixf_ way tx_y 0 < 0 ∧ (5 ≤ t ∧ t ≤ 30) then (if hp_vi S.1 41 (cl_ x) 4 = 0 then (0, nI (nn_ S 1), nw_fl S (cl_ x) way t) else (3, 0, S)) else (2, 0, S)) else (1, 0, S)
theorem nw_fl_te (S : SP) (lg : Nat) (way t : Int32) {u : Nat} (h1 : ¬ u = 41) (h2 : ¬ u = 42) (h3 : ¬ u = 62) : hp_te S.1 (nw_fl S lg way t).1 u := (by repeat' first | exact hp_te.rf | refine hp_te.tr ?_ (hp_te.i (by first | decide | omega)) | refine hp_te.tr ?_ (hp_te.r (by first | decide | omega)) | refine hp_te.tr ?_ (hp_te.n (by first | decide | omega)))
theorem nw_fl_tx (S : SP) (lg : Nat) (way t : Int32) {g : Nat} (hg : ¬ g = nn_ S 1) : hp_tx S.1 (nw_fl S lg way t).1 42 g ∧ hp_tx S.1 (nw_fl S lg way t).1 62 g := ⟨(by repeat' first | exact hp_tx.rf | refine hp_tx.tr ?_ (hp_tx.i (by omega)) | refine hp_tx.tr ?_ (hp_tx.r (by omega)) | refine hp_tx.tr ?_ (hp_tx.n (by omega))), (by repeat' first | exact hp_tx.rf | refine hp_tx.tr ?_ (hp_tx.i (by omega)) | refine hp_tx.tr ?_ (hp_tx.r (by omega)) | refine hp_tx.tr ?_ (hp_tx.n (by omega)))⟩
theorem nw_fl_lg (S : SP) (lg : Nat) (way t : Int32) (i k : Nat) : hp_vi (nw_fl S lg way t).1 41 i k = if i = lg ∧ k = 4 then 1 else hp_vi S.1 41 i k := by
  unfold nw_fl
  simp [vi_r, vi_n, vi_i]
theorem nw_fl_l0 (S : SP) (lg : Nat) (way t : Int32) (i : Nat) : hp_vi (nw_fl S lg way t).1 41 i 0 = hp_vi S.1 41 i 0 ∧ hp_vi (nw_fl S lg way t).1 41 i 1 = hp_vi S.1 41 i 1 ∧ hp_vi (nw_fl S lg way t).1 41 i 2 = hp_vi S.1 41 i 2 ∧ hp_vi (nw_fl S lg way t).1 41 i 3 = hp_vi S.1 41 i 3 := by
  refine ⟨?_, ?_, ?_, ?_⟩ <;> rw [nw_fl_lg, if_neg (by omega)]
theorem Rp1.fl {S : SP} {N : Nat} {h h' : PH} {lg : Nat} {way t : Int32} (R : Rp1 S h) (I : Iv S N) (te : ∀ t, ¬ t = 11 → ¬ t = 12 → ¬ t = 30 → ¬ t = 31 → ¬ t = 32 → ¬ t = 21 → ¬ t = 26 → hp_te h h' t) (L : q_l h' 21 26 (nn_ S 1 + 1) (fun k => (12, k))) (gx : ∀ g, ¬ g = nn_ S 1 → hp_tx h h' 12 g ∧ hp_tx h h' 30 g ∧ hp_tx h h' 31 g ∧ hp_tx h h' 32 g)
    (lx : ∀ i, hp_al h' 11 i = hp_al h 11 i ∧ ∀ k, hp_vi h' 11 i k = if i = lg ∧ k = 4 then 1 else hp_vi h 11 i k) (new : fl_1 (nw_fl S lg way t) h' (nn_ S 1)) : Rp1 (nw_fl S lg way t) h' := by
  obtain ⟨R0, ⟨L0, L1, L2, L3, L4⟩, R1, R2, R3, R4, R5⟩ := R
  have F : ∀ {u : Nat}, ¬ u = 41 ∧ ¬ u = 42 ∧ ¬ u = 62 → hp_te S.1 (nw_fl S lg way t).1 u := fun q => nw_fl_te S lg way t q.1 q.2.1 q.2.2
  have T : ∀ t, ¬ t = 11 ∧ ¬ t = 12 ∧ ¬ t = 30 ∧ ¬ t = 31 ∧ ¬ t = 32 ∧ ¬ t = 21 ∧ ¬ t = 26 → hp_te h h' t := fun t q => te t q.1 q.2.1 q.2.2.1 q.2.2.2.1 q.2.2.2.2.1 q.2.2.2.2.2.1 q.2.2.2.2.2.2
  refine ⟨R0.te (T _ (by decide)) (F (by decide)).2.2.1, ⟨L0.te (T _ (by decide)) (T _ (by decide)) (T _ (by decide)), L, L2.te (T _ (by decide)) (T _ (by decide)) (T _ (by decide)), L3.te (T _ (by decide)) (T _ (by decide)) (T _ (by decide)), L4.te (T _ (by decide)) (T _ (by decide)) (T _ (by decide))⟩, ⟨fun i hi => ?_, fun i hi => ?_⟩, ⟨fun g hg => ?_, fun g hg => ?_⟩, ⟨fun p hp => ?_, fun p hp => ?_⟩, ?_, ⟨fun k hk => ?_, fun j hj => ?_⟩⟩
  · obtain ⟨a0, a1, a2, a3, a4, a5⟩ := R1.1 i hi
    obtain ⟨b0, b1, b2, b3⟩ := nw_fl_l0 S lg way t i
    have X := lx i
    refine ⟨by rw [X.1]; exact a0, by rw [X.2, if_neg (by omega), b0]; exact a1, by rw [X.2, if_neg (by omega), b1]; exact a2, by rw [X.2, if_neg (by omega), b2]; exact a3, by rw [X.2, if_neg (by omega), b3]; exact a4, ?_⟩
    rw [X.2, nw_fl_lg]
    by_cases q : i = lg ∧ 4 = 4
    · rw [if_pos q, if_pos q]
    · rw [if_neg q, if_neg q]; exact a5
  · rw [(lx i).1]
    exact R1.2 i hi
  · by_cases q : g = nn_ S 1
    · exact q ▸ new
    · have h9 : g < nn_ S 1 + 1 := hg
      exact (R2.1 g (by omega)).tx (gx g q).1 (gx g q).2.1 (gx g q).2.2.1 (gx g q).2.2.2 (nw_fl_l0 S lg way t _) (nw_fl_tx S lg way t q).1 (nw_fl_tx S lg way t q).2
  · have h9 : nn_ S 1 + 1 ≤ g := hg
    obtain ⟨x1, x2, x3, x4⟩ := gx g (by omega)
    rw [x1.1, x2.1, x3.1, x4.1]
    exact R2.2 g (by omega)
  · have hp9 : p < nn_ S 2 := hp
    exact (R3.1 p hp).tx ((T _ (by decide)).x p) ((T _ (by decide)).x p) ((T _ (by decide)).x p) ((F (by decide)).x p) (fun w => by
      have h8 := (I.fa hp9 w).2.2.2.1
      rw [(nw_fl_tx S lg way t (by omega)).1.2.2.1]) ((F (by decide)).x p) ((F (by decide)).x p) (c_ne (by omega))
  · rw [(T 13 (by decide)).1, (T 16 (by decide)).1, (T 17 (by decide)).1]
    exact R3.2 p hp
  · exact R4.te (T _ (by decide)) (T _ (by decide)) (T _ (by decide)) (T _ (by decide)) (T _ (by decide)) (T _ (by decide)) (F (by decide)) (F (by decide)) (F (by decide)) (F (by decide)) rfl (fun p _ => ⟨c_ne (by omega), c_ne (by omega)⟩)
  · rw [(T 15 (by decide)).1, (T 15 (by decide)).2.2.1, (F (u := 45) (by decide)).2.2.1]
    exact R5.1 k hk
  · rw [(T 15 (by decide)).1]
    exact R5.2 j hj
theorem s_uc_0 {S : SP} {f : Nat} (h : ∀ l, hp_vi S.1 62 f l = 0) : ∀ n, s_uc S f n = 0
  | 0 => rfl
  | n + 1 => by
    show s_uc S f n + (if hp_vi S.1 62 f n = 0 then 0 else 1) = 0
    rw [s_uc_0 h n, if_pos (h n)]
set_option maxRecDepth 20000 in
theorem C_X6_slice {G : GW} {h : PH} {Q : RS → PH → Prop} {S : SP} {N : Nat} (R : Rp1 S h) (I : Iv S N) {x y t : Int32} (hy : 0 ≤ y ∧ y ≤ 65535) (hq : ∀ h', Rp1 (op_slice S x y t).2.2 h' → (∀ t, t < 10 ∨ 40 ≤ t → hp_te h h' t) → Q (an_ "java/lang/IndexOutOfBoundsException" "java/lang/IllegalArgumentException" "java/lang/UnsupportedOperationException" ((op_slice S x y t).1, (op_slice S x y t).2.1)) h') : VV G 8 6 130 yX6_slice cX6_slice 5 (some .int) [] 0 (vv_en 5 [pv_O (10, 0), pv_I x, pv_I y, pv_I t]) [] h Q := by
  show VV G 8 6 130 yX6_slice cX6_slice 5 (some .int) [] 0 [some (pv_O (10, 0)), some (pv_I x), some (pv_I y), some (pv_I t), none] [] h Q
  obtain ⟨R0, RL, R1, R2, R3, R4, R5⟩ := id R
  obtain ⟨z0, z1, z2, z3, z4, z5⟩ := I.cs
  unfold op_slice at hq
  refine v_aload_n 1 dX6_slice_0 rfl rfl ?_
  refine v_iload_n 2 dX6_slice_1 rfl rfl ?_
  refine v_invv (d' := 6) (k' := 1) (n' := 6) (k2 := 5) (n2 := 124) 5 [_] dX6_slice_2 mt_X6_63 mi_X6_logOf me_X6_logOf (by first | assumption | rfl) (by rfl) rfl rfl (of_decide_eq_true rfl) rfl (by decide) rfl rfl rfl rfl (C_X6_logOf R0 RL (fun e => ?_) (fun ho => ?_))
  · rw [if_neg e] at hq
    exact vv_out (hq h R (fun _ _ => hp_te.rf))
  rw [if_pos ho] at hq
  have hc := ho.cl (by omega)
  have G := R1.1 _ hc.1
  obtain ⟨g0, ⟨wn, eg1, hg1⟩, ⟨dd, eg2, hd1, hd2⟩, g3, g4, g5⟩ := I.2.1 _ hc.1
  refine v_astore 7 dX6_slice_5 (by decide) rfl rfl ?_
  dsimp only [List.set]
  refine v_ldcs (i := 2) (tx := "fqrs") 9 dX6_slice_7 (by first | (simp [g_sx]; done) | (simp [g_sx]; rfl)) (by decide) rfl ?_
  refine v_iload_n 10 dX6_slice_9 rfl rfl ?_
  refine v_invs (d' := 4) (k' := 0) (n' := 0) (k2 := 5) (n2 := 124) 13 [_, _] dX6_slice_10 mt_X6_34 ms_X6_isOneOf rfl rfl (of_decide_eq_true rfl) rfl (by decide) rfl rfl rfl rfl (C_X6_isOneOf (i0 := 2) (by decide) hy.1 ?_)
  refine v_if_eq 26 16 dX6_slice_13 (by decide) rfl (fun c13 => ?_) (fun c13 => ?_)
  · have c13 := f0_0.mp c13
    rw [if_neg (fun q => by first | exact q.1 c13 | exact c23 q.2)] at hq
    refine v_throw dX6_slice_26 dX6_slice_29 dX6_slice_30 dX6_slice_33 rfl th_X6_44_46 rfl (by decide) (by decide) (by decide) ?_
    exact hq h R (fun _ _ => hp_te.rf)
  · have c13 := fun q => c13 (f0_0.mpr q)
    refine v_iload_n 17 dX6_slice_16 rfl rfl ?_
    refine v_iconstv (v := 5) 18 dX6_slice_17 (by decide) rfl ?_
    refine v_bipushv (v := 30) 20 dX6_slice_18 (by decide) rfl ?_
    refine v_invs (d' := 0) (k' := 0) (n' := 0) (k2 := 5) (n2 := 124) 23 [_, _, _] dX6_slice_20 mt_X6_40 ms_X6_isIn rfl rfl (of_decide_eq_true rfl) rfl (by decide) rfl rfl rfl rfl (C_X6_isIn ?_)
    refine v_if_ne 34 26 dX6_slice_23 (by decide) rfl (fun c23 => ?_) (fun c23 => ?_)
    · have c23 := Decidable.not_not.mp (fun q => c23 (f1_0.mpr q))
      rw [if_pos ⟨c13, c23⟩] at hq
      obtain ⟨tt, et1, et2, et⟩ := a_nat (lo := 5) (hi := 30) c23 (by decide) (by decide)
      obtain ⟨cap, L0⟩ := id RL.2.1
      have ev := ixf_y c13
      refine v_aload 36 dX6_slice_34 rfl rfl ?_
      refine v_getfi 39 dX6_slice_36 fl_X6_69 (by first | assumption | rfl) (by rfl) rfl ?_
      rw [G.2.2.2.2.2]
      refine v_if_eq 50 42 dX6_slice_39 (by decide) rfl (fun c39 => ?_) (fun c39 => ?_)
      · rw [if_pos c39] at hq
        refine v_aload 52 dX6_slice_50 rfl rfl ?_
        refine v_iconstv (v := 1) 53 dX6_slice_52 (by decide) rfl ?_
        refine v_putfi 56 dX6_slice_53 pf_X6_slice_69 (by first | assumption | rfl) (by first | assumption | decide) (by rfl) (by first | rfl | decide | assumption) (by first | rfl | decide | assumption) rfl ?_
        refine v_aload_n 57 dX6_slice_56 rfl rfl ?_
        refine v_getfr 60 dX6_slice_57 fl_X6_16 (by first | assumption | rfl) (by rfl) rfl ?_
        rw [show hp_vr (hp_seti h 11 (cl_ x) 4 1) 10 0 1 = (21, 0) from R0.1.2.2.1]
        refine v_new (k1 := 4) (n1 := 116) 63 12 (nn_ S 1) dX6_slice_60 nw_X6_76 (by rfl) (by decide) (show hp_al h 12 (nn_ S 1) = false from (R2.2 _ (Nat.le_refl _)).1) rfl rfl rfl ?_
        refine v_dup 64 dX6_slice_63 rfl rfl ?_
        refine v_aload 66 dX6_slice_64 rfl rfl ?_
        refine v_iload_n 67 dX6_slice_66 rfl rfl ?_
        refine v_iload_n 68 dX6_slice_67 rfl rfl ?_
        rw [et]
        refine v_invi (d' := 3) (k' := 3) (n' := 72) (k2 := 1) (n2 := 44) 71 [_, _, _] dX6_slice_68 mt_X6_78 mi_X0_init rfl rfl (by first | assumption | rfl) rfl rfl (of_decide_eq_true rfl) rfl (by decide) rfl rfl rfl rfl (C_X0_init (wd := hp_vi S.1 41 (cl_ x) 0) (form := hp_vi S.1 41 (cl_ x) 3) (dd := dd) ?_ ?_ ?_ hd1 hd2 et1 et2 ev ?_ ?_ ?_ (fun h3 Z => ?_))
        · show hp_vi (hp_seti h 11 (cl_ x) 4 1) 11 (cl_ x) 0 = _
          rw [hp_seti_ne (by simp)]; exact G.2.1
        · show hp_vi (hp_seti h 11 (cl_ x) 4 1) 11 (cl_ x) 1 = _
          rw [hp_seti_ne (by simp)]; exact G.2.2.1.trans eg2
        · show hp_vi (hp_seti h 11 (cl_ x) 4 1) 11 (cl_ x) 3 = _
          rw [hp_seti_ne (by simp)]; exact G.2.2.2.2.1
        · exact (R2.2 _ (Nat.le_refl _)).2.1
        · exact (R2.2 _ (Nat.le_refl _)).2.2.1
        · exact (R2.2 _ (Nat.le_refl _)).2.2.2
        obtain ⟨Z1, Z2, Z3, ⟨Z4, Z5, Z6, Z7, Z8, Z9⟩, ⟨Y1, Y2, Y3, Y4, Y5⟩, Y6⟩ := Z
        have T3 : ∀ t, ¬ t = 11 → ¬ t = 12 → ¬ t = 30 → ¬ t = 31 → ¬ t = 32 → hp_te h h3 t := fun t t1 t2 t3 t4 t5 => hp_te.tr (by repeat' first | exact hp_te.rf | refine hp_te.tr ?_ (hp_te.i (by first | decide | omega)) | refine hp_te.tr ?_ (hp_te.r (by first | decide | omega)) | refine hp_te.tr ?_ (hp_te.n (by first | decide | omega))) (Z1 t t2 t3 t4 t5)
        refine v_invv (d' := 6) (k' := 1) (n' := 30) (k2 := 0) (n2 := 14) 74 [_] dX6_slice_71 mt_X6_59 mi_Jx4a65c_add_9ea2d me_Jx4a65c_add_9ea2d (by first | assumption | rfl) (by rfl) rfl rfl (of_decide_eq_true rfl) rfl (by decide) rfl rfl rfl rfl (C_add (tl := 21) (ta := 26) (f := fun k => (12, k)) rfl rfl (L0.te (T3 _ (by decide) (by decide) (by decide) (by decide) (by decide)) (T3 _ (by decide) (by decide) (by decide) (by decide) (by decide)) (T3 _ (by decide) (by decide) (by decide) (by decide) (by decide))) (by decide) (by decide) (by decide) (by decide) (by decide) ob_12 (by omega) (fun k hk => Or.inr ob_12) (by omega) (fun h' cap' L9 te9 tx9 => ?_))
        refine v_pop 75 dX6_slice_74 rfl rfl ?_
        refine v_aload_n 76 dX6_slice_75 rfl rfl ?_
        refine v_getfr 79 dX6_slice_76 fl_X6_16 (by first | assumption | rfl) (by rfl) rfl ?_
        rw [show hp_vr h' 10 0 1 = (21, 0) from by rw [(te9 10 (by decide) (by decide)).2.2.2.1, (T3 10 (by decide) (by decide) (by decide) (by decide) (by decide)).2.2.2.1]; exact R0.1.2.2.1]
        refine v_invv (d' := 0) (k' := 0) (n' := 0) (k2 := 0) (n2 := 14) 82 [] dX6_slice_79 mt_X6_47 mi_Jx4a65c_size_8abf5 me_Jx4a65c_size_8abf5 (by first | assumption | rfl) (by rfl) rfl rfl (of_decide_eq_true rfl) rfl (by decide) rfl rfl rfl rfl (C_Jx4a65c_size_8abf5 (tl := 21) (ta := 26) rfl rfl L9 ?_)
        refine v_iconstv (v := 1) 83 dX6_slice_82 (by decide) rfl ?_
        refine v_isub 84 dX6_slice_83 rfl ?_
        rw [show nI (nn_ S 1 + 1) - 1 = nI (nn_ S 1) from pk_sub (a := nn_ S 1 + 1) (b := 1) (by omega)]
        refine v_ireturn dX6_slice_84 rfl ?_
        obtain ⟨n9, hn1, hn2, en⟩ := pw_n_ok y hd1 hd2 et1 et2
        have en2 : nw_fn S (cl_ x) y t = n9 := by unfold nw_fn cl_; rw [show hp_vi S.1 41 (x.toNatClampNeg) 1 = nI dd from eg2, et, en, nI_clamp (by omega)]
        have E12 := te9 12 (by decide) (by decide)
        have E30 := te9 30 (by decide) (by decide)
        have E31 := te9 31 (by decide) (by decide)
        have E32 := te9 32 (by decide) (by decide)
        have E11 := (Z1 11 (by decide) (by decide) (by decide) (by decide)).tr (te9 11 (by decide) (by decide))
        refine hq _ (R.fl I (fun t t1 t2 t3 t4 t5 t6 t7 => (T3 t t1 t2 t3 t4 t5).tr (te9 t t6 t7)) ⟨_, L9.f (fun k hk => ?_)⟩ (fun g hg => ⟨hp_tx.tr (by repeat' first | exact hp_tx.rf | refine hp_tx.tr ?_ (hp_tx.i (by omega)) | refine hp_tx.tr ?_ (hp_tx.r (by omega)) | refine hp_tx.tr ?_ (hp_tx.n (by omega))) ((Z2 g hg).1.tr (E12.x g)), hp_tx.tr (by repeat' first | exact hp_tx.rf | refine hp_tx.tr ?_ (hp_tx.i (by omega)) | refine hp_tx.tr ?_ (hp_tx.r (by omega)) | refine hp_tx.tr ?_ (hp_tx.n (by omega))) ((Z2 g hg).2.1.tr (E30.x g)), hp_tx.tr (by repeat' first | exact hp_tx.rf | refine hp_tx.tr ?_ (hp_tx.i (by omega)) | refine hp_tx.tr ?_ (hp_tx.r (by omega)) | refine hp_tx.tr ?_ (hp_tx.n (by omega))) ((Z2 g hg).2.2.1.tr (E31.x g)), hp_tx.tr (by repeat' first | exact hp_tx.rf | refine hp_tx.tr ?_ (hp_tx.i (by omega)) | refine hp_tx.tr ?_ (hp_tx.r (by omega)) | refine hp_tx.tr ?_ (hp_tx.n (by omega))) ((Z2 g hg).2.2.2.tr (E32.x g))⟩) (fun i => ⟨by rw [E11.1]; rfl, fun k => by rw [E11.2.2.1]; simp [vi_n, vi_i]⟩) ?_) (fun t ht => (T3 t (by omega) (by omega) (by omega) (by omega) (by omega)).tr (te9 t (by omega) (by omega)))
        · by_cases q : k = nn_ S 1
          · rw [if_pos q, q]
          · rw [if_neg q]
        · have l0 : s_lg (nw_fl S (cl_ x) y t) (nn_ S 1) = cl_ x := by show (hp_vr (nw_fl S (cl_ x) y t).1 42 (nn_ S 1) 0).2 = cl_ x; unfold nw_fl; simp [vr_r, vr_i, vr_n]
          have n0 : s_n (nw_fl S (cl_ x) y t) (nn_ S 1) = n9 := by show hp_ln (nw_fl S (cl_ x) y t).1 62 (nn_ S 1) = n9; unfold nw_fl; simp [ln_r, ln_i, ln_n]; exact en2
          have v1 : hp_vi (nw_fl S (cl_ x) y t).1 42 (nn_ S 1) 1 = y := by unfold nw_fl; simp [vi_r, vi_i, vi_n]
          have v2 : hp_vi (nw_fl S (cl_ x) y t).1 42 (nn_ S 1) 2 = t := by unfold nw_fl; simp [vi_r, vi_i, vi_n]
          have u0 : ∀ l, hp_vi (nw_fl S (cl_ x) y t).1 62 (nn_ S 1) l = 0 := fun l => by unfold nw_fl; simp [vi_r, vi_i, vi_n]
          obtain ⟨b0, b1, b2, b3⟩ := nw_fl_l0 S (cl_ x) y t (cl_ x)
          refine ⟨⟨?_, ?_, ?_, ?_, ?_, ?_, ?_⟩, ⟨?_, ?_, ?_, ?_, ?_⟩, fun l hl => ?_⟩
          · rw [E12.1, Z3]; exact hp_new_al0 (n := 0)
          · rw [E12.2.2.2.1]; exact Z4
          · rw [E12.2.2.2.1]; exact Z5
          · rw [E12.2.2.2.1]; exact Z6
          · rw [E30.2.1]; exact Z7
          · rw [E31.2.1]; exact Z8
          · rw [E32.2.1]; exact Z9
          · rw [E12.2.2.1, v2, et]; exact Y1
          · rw [E12.2.2.1, l0, b2, Y2]; show hp_vi (hp_seti h 11 (cl_ x) 4 1) 11 (cl_ x) 2 = _
            rw [hp_seti_ne (by simp)]; exact G.2.2.2.1
          · rw [E12.2.2.1, l0, b0]; exact Y3
          · rw [E12.2.2.1, n0, Y4, en]; exact if_pos (nI_lt (a := 0) hn1 (by omega))
          · rw [E12.2.2.1, s_uc_0 u0, Y5]; exact hp_new_vi0 (n := 0)
          · rw [n0] at hl
            obtain ⟨w1, w2, w3⟩ := Y6 l (by omega)
            unfold s_w s_f
            rw [l0, b0, b1, b3, v1, v2, E30.2.2.1, E31.2.2.1, E32.2.2.1, u0, eg2, et]
            exact ⟨w1, w2, w3⟩
      · rw [if_neg c39] at hq
        refine v_throw dX6_slice_42 dX6_slice_45 dX6_slice_46 dX6_slice_49 rfl th_X6_73_75 rfl (by decide) (by decide) (by decide) ?_
        exact hq h R (fun _ _ => hp_te.rf)
    · have c23 := f1_0.mp c23
      rw [if_neg (fun q => by first | exact q.1 c13 | exact c23 q.2)] at hq
      refine v_throw dX6_slice_26 dX6_slice_29 dX6_slice_30 dX6_slice_33 rfl th_X6_44_46 rfl (by decide) (by decide) (by decide) ?_
      exact hq h R (fun _ _ => hp_te.rf)
