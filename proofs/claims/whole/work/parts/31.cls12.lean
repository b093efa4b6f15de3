def nw_log (S : SP) (w d l f : Int32) : SP := (hp_seti (hp_seti (hp_seti (hp_seti (hp_new S.1 41 (nn_ S 0) 0) 41 (nn_ S 0) 0 w) 41 (nn_ S 0) 1 d) 41 (nn_ S 0) 2 l) 41 (nn_ S 0) 3 f, c_up S.2.1 0 (nn_ S 0 + 1), S.2.2)
def op_log (S : SP) (wood dia len form : Int32) : Nat × Int32 × SP := if (¬ ixf_ wood tx_w 0 < 0 ∧ ¬ ixf_ form tx_f 0 < 0) ∧ (100 ≤ dia ∧ dia ≤ 999) ∧ (1 ≤ len ∧ len ≤ 40) then (if 8 ≤ nn_ S 0 then (2, 0, S) else (0, nI (nn_ S 0), nw_log S (ixf_ wood tx_w 0) dia len form)) else (1, 0, S)
theorem nw_log_te (S : SP) (w d l f : Int32) {t : Nat} (ht : ¬ t = 41) : hp_te S.1 (nw_log S w d l f).1 t := (by repeat' first | exact hp_te.rf | refine hp_te.tr ?_ (hp_te.i (by first | decide | omega)) | refine hp_te.tr ?_ (hp_te.r (by first | decide | omega)) | refine hp_te.tr ?_ (hp_te.n (by first | decide | omega)))
theorem nw_log_tx (S : SP) (w d l f : Int32) {i : Nat} (hi : ¬ i = nn_ S 0) : hp_tx S.1 (nw_log S w d l f).1 41 i := (by repeat' first | exact hp_tx.rf | refine hp_tx.tr ?_ (hp_tx.i (by omega)) | refine hp_tx.tr ?_ (hp_tx.r (by omega)) | refine hp_tx.tr ?_ (hp_tx.n (by omega)))
theorem Rp1.lg {S : SP} {N : Nat} {h h' : PH} {w d l f : Int32} (R : Rp1 S h) (I : Iv S N) (te : ∀ t, ¬ t = 11 → ¬ t = 20 → ¬ t = 25 → hp_te h h' t) (L : q_l h' 20 25 (nn_ S 0 + 1) (fun k => (11, k))) (lx : ∀ i, ¬ i = nn_ S 0 → hp_tx h h' 11 i) (new : lg_1 (nw_log S w d l f) h' (nn_ S 0)) : Rp1 (nw_log S w d l f) h' := by
  obtain ⟨R0, ⟨L0, L1, L2, L3, L4⟩, R1, R2, R3, R4, R5⟩ := R
  refine ⟨R0.te (te _ (by decide) (by decide) (by decide)) (nw_log_te S w d l f (by decide)).2.2.1, ⟨L, L1.te (te _ (by decide) (by decide) (by decide)) (te _ (by decide) (by decide) (by decide)) (te _ (by decide) (by decide) (by decide)), L2.te (te _ (by decide) (by decide) (by decide)) (te _ (by decide) (by decide) (by decide)) (te _ (by decide) (by decide) (by decide)), L3.te (te _ (by decide) (by decide) (by decide)) (te _ (by decide) (by decide) (by decide)) (te _ (by decide) (by decide) (by decide)), L4.te (te _ (by decide) (by decide) (by decide)) (te _ (by decide) (by decide) (by decide)) (te _ (by decide) (by decide) (by decide))⟩, ⟨fun i hi => ?_, fun i hi => ?_⟩, ⟨fun g hg => ?_, fun g hg => ?_⟩, ?_, ?_, ?_⟩
  · by_cases q : i = nn_ S 0
    · exact q ▸ new
    · exact (R1.1 i (by have h9 : i < nn_ S 0 + 1 := hi; omega)).tx (lx i q) (nw_log_tx S w d l f q)
  · have h9 : nn_ S 0 + 1 ≤ i := hi
    rw [(lx i (by omega)).1]
    exact R1.2 i (by omega)
  · have hg9 : g < nn_ S 1 := hg
    have h9 := (I.2.2.1 g hg9).1.2.2.2.1
    have X := nw_log_tx S w d l f (i := s_lg S g) (by omega)
    exact (R2.1 g hg9).tx ((te _ (by decide) (by decide) (by decide)).x g) ((te _ (by decide) (by decide) (by decide)).x g) ((te _ (by decide) (by decide) (by decide)).x g) ((te _ (by decide) (by decide) (by decide)).x g) ⟨by rw [X.2.2.1], by rw [X.2.2.1], by rw [X.2.2.1], by rw [X.2.2.1]⟩ ((nw_log_te S w d l f (by decide)).x g) ((nw_log_te S w d l f (by decide)).x g)
  · rw [(te 12 (by decide) (by decide) (by decide)).1, (te 30 (by decide) (by decide) (by decide)).1, (te 31 (by decide) (by decide) (by decide)).1, (te 32 (by decide) (by decide) (by decide)).1]
    exact R2.2 g hg
  · exact R3.te (te _ (by decide) (by decide) (by decide)) (te _ (by decide) (by decide) (by decide)) (te _ (by decide) (by decide) (by decide)) (nw_log_te S w d l f (by decide)) (nw_log_te S w d l f (by decide)) (nw_log_te S w d l f (by decide)) (nw_log_te S w d l f (by decide)) rfl (fun p _ => c_ne (by omega))
  · exact R4.te (te _ (by decide) (by decide) (by decide)) (te _ (by decide) (by decide) (by decide)) (te _ (by decide) (by decide) (by decide)) (te _ (by decide) (by decide) (by decide)) (te _ (by decide) (by decide) (by decide)) (te _ (by decide) (by decide) (by decide)) (nw_log_te S w d l f (by decide)) (nw_log_te S w d l f (by decide)) (nw_log_te S w d l f (by decide)) (nw_log_te S w d l f (by decide)) rfl (fun p _ => ⟨c_ne (by omega), c_ne (by omega)⟩)
  · obtain ⟨u1, u2⟩ := R5
    refine ⟨fun k hk => ?_, fun j hj => ?_⟩
    · rw [(te 15 (by decide) (by decide) (by decide)).1, (te 15 (by decide) (by decide) (by decide)).2.2.1, (nw_log_te S w d l f (t := 45) (by decide)).2.2.1]
      exact u1 k hk
    · rw [(te 15 (by decide) (by decide) (by decide)).1]
      exact u2 j hj
theorem nc_ {c : Int32} (h : 0 ≤ c ∧ c ≤ 65535) : narrow .char (.int c) = .int c ∧ fits .char (.int c) = true := by
  obtain ⟨j, h1, h2, rfl⟩ := a_nat (lo := 0) (hi := 65535) h (by decide) (by decide)
  exact pk_charN (by omega)
theorem g_nt {w : Cond} (i : Nat) (h : lw_tbl[i]? = some w) (hg : w_soft w = true) : w ∈ g_nw := List.mem_filter.mpr ⟨List.mem_of_getElem? h, hg⟩
theorem ob_c {u ci : Nat} (h : tg_k u = some (.inl ci)) {z : vw_C} (hz : g_cl[ci]? = some z) (hw : Cond.castable z.1 "java/lang/Object" ∈ g_nw) : ob_ok u := Or.inl ⟨ci, h, z, hz, hw⟩
theorem ob_11 : ob_ok 11 := ob_c rfl rfl (g_nt 1905 (by decide +kernel) (by decide +kernel))
theorem ob_12 : ob_ok 12 := ob_c rfl rfl (g_nt 1910 (by decide +kernel) (by decide +kernel))
theorem ob_13 : ob_ok 13 := ob_c rfl rfl (g_nt 1912 (by decide +kernel) (by decide +kernel))
theorem ob_14 : ob_ok 14 := ob_c rfl rfl (g_nt 1919 (by decide +kernel) (by decide +kernel))
theorem ob_15 : ob_ok 15 := ob_c rfl rfl (g_nt 1915 (by decide +kernel) (by decide +kernel))
set_option maxRecDepth 20000 in
theorem C_X6_log {G : GW} {h : PH} {Q : RS → PH → Prop} {S : SP} {N : Nat} (R : Rp1 S h) (I : Iv S N) {a b c e : Int32} (ha : 0 ≤ a ∧ a ≤ 65535) (he : 0 ≤ e ∧ e ≤ 65535) (hq : ∀ h', Rp1 (op_log S a b c e).2.2 h' → (∀ t, t < 10 ∨ 40 ≤ t → hp_te h h' t) → Q (an_ "java/lang/IllegalArgumentException" "java/lang/IllegalStateException" "" ((op_log S a b c e).1, (op_log S a b c e).2.1)) h') : VV G 8 3 60 yX6_log cX6_log 6 (some .int) [] 0 (vv_en 6 [pv_O (10, 0), pv_I a, pv_I b, pv_I c, pv_I e]) [] h Q := by
  show VV G 8 3 60 yX6_log cX6_log 6 (some .int) [] 0 [some (pv_O (10, 0)), some (pv_I a), some (pv_I b), some (pv_I c), some (pv_I e), none] [] h Q
  obtain ⟨R0, RL, R1, R2, R3, R4, R5⟩ := id R
  obtain ⟨z0, z1, z2, z3, z4, z5⟩ := I.cs
  unfold op_log at hq
  refine v_ldcs (i := 0) (tx := "wmoh") 2 dX6_log_0 (by first | (simp [g_sx]; done) | (simp [g_sx]; rfl)) (by decide) rfl ?_
  refine v_iload_n 3 dX6_log_2 rfl rfl ?_
  refine v_invs (d' := 4) (k' := 0) (n' := 0) (k2 := 3) (n2 := 60) 6 [_, _] dX6_log_3 mt_X6_34 ms_X6_isOneOf rfl rfl (of_decide_eq_true rfl) rfl (by decide) rfl rfl rfl rfl (C_X6_isOneOf (i0 := 0) (by decide) ha.1 ?_)
  refine v_if_eq 23 9 dX6_log_6 (by decide) rfl (fun c6 => ?_) (fun c6 => ?_)
  · have c6 := f0_0.mp c6
    refine v_iconstv (v := 0) 24 dX6_log_23 (by decide) rfl ?_
    refine v_istore 26 dX6_log_24 (by decide) rfl rfl ?_
    dsimp only [List.set]
    refine v_iload 28 dX6_log_26 rfl rfl ?_
    refine v_if_eq 53 31 dX6_log_28 (by decide) rfl (fun c28 => ?_) (fun c28 => ?_)
    · rw [if_neg (fun q => by first | exact q.1.1 c6 | exact q.1.2 c16 | exact c40 q.2.1 | exact c50 q.2.2)] at hq
      refine v_throw dX6_log_53 dX6_log_56 dX6_log_57 dX6_log_60 rfl th_X6_44_46 rfl (by decide) (by decide) (by decide) ?_
      exact hq h R (fun _ _ => hp_te.rf)
    · exact absurd (by decide) c28
  · have c6 := fun q => c6 (f0_0.mpr q)
    refine v_ldcs (i := 1) (tx := "pcb") 11 dX6_log_9 (by first | (simp [g_sx]; done) | (simp [g_sx]; rfl)) (by decide) rfl ?_
    refine v_iload 13 dX6_log_11 rfl rfl ?_
    refine v_invs (d' := 4) (k' := 0) (n' := 0) (k2 := 3) (n2 := 60) 16 [_, _] dX6_log_13 mt_X6_34 ms_X6_isOneOf rfl rfl (of_decide_eq_true rfl) rfl (by decide) rfl rfl rfl rfl (C_X6_isOneOf (i0 := 1) (by decide) he.1 ?_)
    refine v_if_eq 23 19 dX6_log_16 (by decide) rfl (fun c16 => ?_) (fun c16 => ?_)
    · have c16 := f0_0.mp c16
      refine v_iconstv (v := 0) 24 dX6_log_23 (by decide) rfl ?_
      refine v_istore 26 dX6_log_24 (by decide) rfl rfl ?_
      dsimp only [List.set]
      refine v_iload 28 dX6_log_26 rfl rfl ?_
      refine v_if_eq 53 31 dX6_log_28 (by decide) rfl (fun c28 => ?_) (fun c28 => ?_)
      · rw [if_neg (fun q => by first | exact q.1.1 c6 | exact q.1.2 c16 | exact c40 q.2.1 | exact c50 q.2.2)] at hq
        refine v_throw dX6_log_53 dX6_log_56 dX6_log_57 dX6_log_60 rfl th_X6_44_46 rfl (by decide) (by decide) (by decide) ?_
        exact hq h R (fun _ _ => hp_te.rf)
      · exact absurd (by decide) c28
    · have c16 := fun q => c16 (f0_0.mpr q)
      refine v_iconstv (v := 1) 20 dX6_log_19 (by decide) rfl ?_
      refine v_goto 24 dX6_log_20 (by decide) ?_
      refine v_istore 26 dX6_log_24 (by decide) rfl rfl ?_
      dsimp only [List.set]
      refine v_iload 28 dX6_log_26 rfl rfl ?_
      refine v_if_eq 53 31 dX6_log_28 (by decide) rfl (fun c28 => ?_) (fun c28 => ?_)
      · exact absurd c28 (by decide)
      · refine v_iload_n 32 dX6_log_31 rfl rfl ?_
        refine v_bipushv (v := 100) 34 dX6_log_32 (by decide) rfl ?_
        refine v_sipushv (v := 999) 37 dX6_log_34 (by decide) rfl ?_
        refine v_invs (d' := 0) (k' := 0) (n' := 0) (k2 := 3) (n2 := 60) 40 [_, _, _] dX6_log_37 mt_X6_40 ms_X6_isIn rfl rfl (of_decide_eq_true rfl) rfl (by decide) rfl rfl rfl rfl (C_X6_isIn ?_)
        refine v_if_eq 53 43 dX6_log_40 (by decide) rfl (fun c40 => ?_) (fun c40 => ?_)
        · have c40 := f1_0.mp c40
          rw [if_neg (fun q => by first | exact q.1.1 c6 | exact q.1.2 c16 | exact c40 q.2.1 | exact c50 q.2.2)] at hq
          refine v_throw dX6_log_53 dX6_log_56 dX6_log_57 dX6_log_60 rfl th_X6_44_46 rfl (by decide) (by decide) (by decide) ?_
          exact hq h R (fun _ _ => hp_te.rf)
        · have c40 := Decidable.not_not.mp (fun q => c40 (f1_0.mpr q))
          refine v_iload_n 44 dX6_log_43 rfl rfl ?_
          refine v_iconstv (v := 1) 45 dX6_log_44 (by decide) rfl ?_
          refine v_bipushv (v := 40) 47 dX6_log_45 (by decide) rfl ?_
          refine v_invs (d' := 0) (k' := 0) (n' := 0) (k2 := 3) (n2 := 60) 50 [_, _, _] dX6_log_47 mt_X6_40 ms_X6_isIn rfl rfl (of_decide_eq_true rfl) rfl (by decide) rfl rfl rfl rfl (C_X6_isIn ?_)
          refine v_if_ne 61 53 dX6_log_50 (by decide) rfl (fun c50 => ?_) (fun c50 => ?_)
          · have c50 := Decidable.not_not.mp (fun q => c50 (f1_0.mpr q))
            rw [if_pos ⟨⟨c6, c16⟩, c40, c50⟩] at hq
            obtain ⟨cap, L0⟩ := id RL.1
            refine v_aload_n 62 dX6_log_61 rfl rfl ?_
            refine v_getfr 65 dX6_log_62 fl_X6_10 (by first | assumption | rfl) (by rfl) rfl ?_
            rw [R0.1.2.1]
            refine v_invv (d' := 0) (k' := 0) (n' := 0) (k2 := 3) (n2 := 60) 68 [] dX6_log_65 mt_X6_47 mi_Jx4a65c_size_8abf5 me_Jx4a65c_size_8abf5 (by first | assumption | rfl) (by rfl) rfl rfl (of_decide_eq_true rfl) rfl (by decide) rfl rfl rfl rfl (C_Jx4a65c_size_8abf5 (tl := 20) (ta := 25) rfl rfl L0 ?_)
            refine v_bipushv (v := 8) 70 dX6_log_68 (by decide) rfl ?_
            refine v_icmp_lt 81 73 dX6_log_70 (by decide) rfl (fun c70 => ?_) (fun c70 => ?_)
            · have c71 : nn_ S 0 < 8 := Nat.lt_of_not_le (fun q => absurd c70 (nI_nlt (a := nn_ S 0) (b := 8) q (by omega)))
              rw [if_neg (by omega)] at hq
              refine v_aload_n 82 dX6_log_81 rfl rfl ?_
              refine v_getfr 85 dX6_log_82 fl_X6_10 (by first | assumption | rfl) (by rfl) rfl ?_
              rw [R0.1.2.1]
              refine v_new (k1 := 2) (n1 := 55) 88 11 (nn_ S 0) dX6_log_85 nw_X6_54 (by rfl) (by decide) (R1.2 _ (Nat.le_refl _)) rfl rfl rfl ?_
              refine v_dup 89 dX6_log_88 rfl rfl ?_
              refine v_iload_n 90 dX6_log_89 rfl rfl ?_
              refine v_iload_n 91 dX6_log_90 rfl rfl ?_
              refine v_iload_n 92 dX6_log_91 rfl rfl ?_
              refine v_iload 94 dX6_log_92 rfl rfl ?_
              refine v_invi (d' := 1) (k' := 0) (n' := 0) (k2 := 2) (n2 := 55) 97 [_, _, _, _] dX6_log_94 mt_X6_56 mi_X1_init rfl rfl (by first | assumption | rfl) rfl rfl (of_decide_eq_true rfl) rfl (by decide) rfl rfl rfl rfl (C_X1_init (nc_ ha) (nc_ he) ?_)
              refine v_invv (d' := 6) (k' := 1) (n' := 30) (k2 := 1) (n2 := 25) 100 [_] dX6_log_97 mt_X6_59 mi_Jx4a65c_add_9ea2d me_Jx4a65c_add_9ea2d (by first | assumption | rfl) (by rfl) rfl rfl (of_decide_eq_true rfl) rfl (by decide) rfl rfl rfl rfl (C_add (tl := 20) (ta := 25) (f := fun k => (11, k)) rfl rfl (L0.te (by repeat' first | exact hp_te.rf | refine hp_te.tr ?_ (hp_te.i (by first | decide | omega)) | refine hp_te.tr ?_ (hp_te.r (by first | decide | omega)) | refine hp_te.tr ?_ (hp_te.n (by first | decide | omega))) (by repeat' first | exact hp_te.rf | refine hp_te.tr ?_ (hp_te.i (by first | decide | omega)) | refine hp_te.tr ?_ (hp_te.r (by first | decide | omega)) | refine hp_te.tr ?_ (hp_te.n (by first | decide | omega))) (by repeat' first | exact hp_te.rf | refine hp_te.tr ?_ (hp_te.i (by first | decide | omega)) | refine hp_te.tr ?_ (hp_te.r (by first | decide | omega)) | refine hp_te.tr ?_ (hp_te.n (by first | decide | omega)))) (by decide) (by decide) (by decide) (by decide) (by decide) ob_11 (by omega) (fun k hk => Or.inr ob_11) (by omega) (fun h' cap' L9 te9 tx9 => ?_))
              refine v_pop 101 dX6_log_100 rfl rfl ?_
              refine v_aload_n 102 dX6_log_101 rfl rfl ?_
              refine v_getfr 105 dX6_log_102 fl_X6_10 (by first | assumption | rfl) (by rfl) rfl ?_
              rw [show hp_vr h' 10 0 0 = (20, 0) from by rw [(te9 10 (by decide) (by decide)).2.2.2.1]; exact R0.1.2.1]
              refine v_invv (d' := 0) (k' := 0) (n' := 0) (k2 := 1) (n2 := 25) 108 [] dX6_log_105 mt_X6_47 mi_Jx4a65c_size_8abf5 me_Jx4a65c_size_8abf5 (by first | assumption | rfl) (by rfl) rfl rfl (of_decide_eq_true rfl) rfl (by decide) rfl rfl rfl rfl (C_Jx4a65c_size_8abf5 (tl := 20) (ta := 25) rfl rfl L9 ?_)
              refine v_iconstv (v := 1) 109 dX6_log_108 (by decide) rfl ?_
              refine v_isub 110 dX6_log_109 rfl ?_
              rw [show nI (nn_ S 0 + 1) - 1 = nI (nn_ S 0) from pk_sub (a := nn_ S 0 + 1) (b := 1) (by omega)]
              refine v_ireturn dX6_log_110 rfl ?_
              refine hq _ (R.lg I (fun t t1 t2 t3 => hp_te.tr (by repeat' first | exact hp_te.rf | refine hp_te.tr ?_ (hp_te.i (by first | decide | omega)) | refine hp_te.tr ?_ (hp_te.r (by first | decide | omega)) | refine hp_te.tr ?_ (hp_te.n (by first | decide | omega))) (te9 t t2 t3)) ⟨_, L9.f (fun k hk => ?_)⟩ (fun i hi => hp_tx.tr (by repeat' first | exact hp_tx.rf | refine hp_tx.tr ?_ (hp_tx.i (by omega)) | refine hp_tx.tr ?_ (hp_tx.r (by omega)) | refine hp_tx.tr ?_ (hp_tx.n (by omega))) ((te9 11 (by decide) (by decide)).x i)) ?_) (fun t ht => hp_te.tr (by repeat' first | exact hp_te.rf | refine hp_te.tr ?_ (hp_te.i (by first | decide | omega)) | refine hp_te.tr ?_ (hp_te.r (by first | decide | omega)) | refine hp_te.tr ?_ (hp_te.n (by first | decide | omega))) (te9 t (by omega) (by omega)))
              · by_cases q : k = nn_ S 0
                · rw [if_pos q, q]
                · rw [if_neg q]
              · refine ⟨?_, ?_, ?_, ?_, ?_, ?_⟩
                · rw [(te9 11 (by decide) (by decide)).1]; exact hp_new_al0 (n := 0)
                all_goals rw [(te9 11 (by decide) (by decide)).2.2.1]; unfold nw_log; simp [vi_i, vi_n, (ixf_w c6).2.2]
            · have c71 : 8 ≤ nn_ S 0 := Nat.le_of_not_lt (fun q => c70 (nI_lt (b := 8) q (by omega)))
              rw [if_pos c71] at hq
              refine v_throw dX6_log_73 dX6_log_76 dX6_log_77 dX6_log_80 rfl th_X6_51_53 rfl (by decide) (by decide) (by decide) ?_
              exact hq h R (fun _ _ => hp_te.rf)
          · have c50 := f1_0.mp c50
            rw [if_neg (fun q => by first | exact q.1.1 c6 | exact q.1.2 c16 | exact c40 q.2.1 | exact c50 q.2.2)] at hq
            refine v_throw dX6_log_53 dX6_log_56 dX6_log_57 dX6_log_60 rfl th_X6_44_46 rfl (by decide) (by decide) (by decide) ?_
            exact hq h R (fun _ _ => hp_te.rf)
