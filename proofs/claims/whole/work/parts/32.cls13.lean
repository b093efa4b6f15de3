def nw_pan (S : SP) (w d c : Int32) (t : Nat) : SP := (hp_seti (hp_seti (hp_seti (hp_new S.1 43 (nn_ S 2) 0) 43 (nn_ S 2) 0 w) 43 (nn_ S 2) 1 d) 43 (nn_ S 2) 2 c, c_up (c_up S.2.1 2 (nn_ S 2 + 1)) (10 + nn_ S 2) t, S.2.2)
def op_panel (S : SP) (w d core t : Int32) : Nat × Int32 × SP := if ((100 ≤ w ∧ w ≤ 2000) ∧ (1 ≤ d ∧ d ≤ 20) ∧ (5 ≤ t ∧ t ≤ 40)) ∧ ¬ ixf_ core tx_c 0 < 0 then (if 8 ≤ nn_ S 2 then (2, 0, S) else (0, nI (nn_ S 2), nw_pan S w d (t * co_m core) (cl_ t))) else (1, 0, S)
theorem nw_pan_te (S : SP) (w d c : Int32) (k : Nat) {t : Nat} (ht : ¬ t = 43) : hp_te S.1 (nw_pan S w d c k).1 t := (by repeat' first | exact hp_te.rf | refine hp_te.tr ?_ (hp_te.i (by first | decide | omega)) | refine hp_te.tr ?_ (hp_te.r (by first | decide | omega)) | refine hp_te.tr ?_ (hp_te.n (by first | decide | omega)))
theorem nw_pan_tx (S : SP) (w d c : Int32) (k : Nat) {i : Nat} (hi : ¬ i = nn_ S 2) : hp_tx S.1 (nw_pan S w d c k).1 43 i := (by repeat' first | exact hp_tx.rf | refine hp_tx.tr ?_ (hp_tx.i (by omega)) | refine hp_tx.tr ?_ (hp_tx.r (by omega)) | refine hp_tx.tr ?_ (hp_tx.n (by omega)))
theorem Rp1.pa {S : SP} {N : Nat} {h h' : PH} {w d c : Int32} {k : Nat} (R : Rp1 S h) (I : Iv S N) (te : ∀ t, ¬ t = 13 → ¬ t = 22 → ¬ t = 27 → hp_te h h' t) (L : q_l h' 22 27 (nn_ S 2 + 1) (fun k => (13, k))) (lx : ∀ i, ¬ i = nn_ S 2 → hp_tx h h' 13 i) (new : pn_1 (nw_pan S w d c k) h' (nn_ S 2)) : Rp1 (nw_pan S w d c k) h' := by
  obtain ⟨R0, ⟨L0, L1, L2, L3, L4⟩, R1, R2, R3, R4, R5⟩ := R
  obtain ⟨z0, z1, z2, z3, z4, z5⟩ := I.cs
  have F : ∀ {t : Nat}, ¬ t = 43 → hp_te S.1 (nw_pan S w d c k).1 t := nw_pan_te S w d c k
  have T : ∀ t, ¬ t = 13 ∧ ¬ t = 22 ∧ ¬ t = 27 → hp_te h h' t := fun t q => te t q.1 q.2.1 q.2.2
  have C : ∀ j, ¬ j = 2 → ¬ j = 10 + nn_ S 2 → (nw_pan S w d c k).2.1 j = S.2.1 j := fun j q1 q2 => (c_ne q2).trans (c_ne q1)
  refine ⟨R0.te (T _ (by decide)) (F (by decide)).2.2.1, ⟨?_, ?_, ?_, ?_, ?_⟩, R1.te (T _ (by decide)) (F (by decide)) (C 0 (by decide) (by omega)), R2.te (T _ (by decide)) (T _ (by decide)) (T _ (by decide)) (T _ (by decide)) (F (by decide)) (F (by decide)) (F (by decide)) (C 1 (by decide) (by omega)), ⟨fun j hj => ?_, fun j hj => ?_⟩, ?_, ⟨fun j hj => ?_, fun j hj => ?_⟩⟩
  · rw [show nn_ (nw_pan S w d c k) 0 = nn_ S 0 from C 0 (by decide) (by omega)]; exact L0.te (T _ (by decide)) (T _ (by decide)) (T _ (by decide))
  · rw [show nn_ (nw_pan S w d c k) 1 = nn_ S 1 from C 1 (by decide) (by omega)]; exact L1.te (T _ (by decide)) (T _ (by decide)) (T _ (by decide))
  · rw [show nn_ (nw_pan S w d c k) 2 = nn_ S 2 + 1 from (c_ne (by omega)).trans c_at]; exact L
  · rw [show nn_ (nw_pan S w d c k) 3 = nn_ S 3 from C 3 (by decide) (by omega)]; exact L3.te (T _ (by decide)) (T _ (by decide)) (T _ (by decide))
  · rw [show nn_ (nw_pan S w d c k) 5 = nn_ S 5 from C 5 (by decide) (by omega)]; exact L4.te (T _ (by decide)) (T _ (by decide)) (T _ (by decide))
  · rw [show nn_ (nw_pan S w d c k) 2 = nn_ S 2 + 1 from (c_ne (by omega)).trans c_at] at hj
    by_cases q : j = nn_ S 2
    · exact q ▸ new
    · exact (R3.1 j (by omega)).tx (lx j q) ((T _ (by decide)).x j) ((T _ (by decide)).x j) (nw_pan_tx S w d c k q) (fun _ => by rw [(F (t := 42) (by decide)).2.2.1]) ((F (by decide)).x j) ((F (by decide)).x j) (C _ (by omega) (by omega))
  · rw [show nn_ (nw_pan S w d c k) 2 = nn_ S 2 + 1 from (c_ne (by omega)).trans c_at] at hj
    rw [(lx j (by omega)).1, (T 16 (by decide)).1, (T 17 (by decide)).1]
    exact R3.2 j (by omega)
  · exact R4.te (T _ (by decide)) (T _ (by decide)) (T _ (by decide)) (T _ (by decide)) (T _ (by decide)) (T _ (by decide)) (F (by decide)) (F (by decide)) (F (by decide)) (F (by decide)) (C _ (by decide) (by omega)) (fun p _ => ⟨C _ (by omega) (by omega), C _ (by omega) (by omega)⟩)
  · rw [show nn_ (nw_pan S w d c k) 5 = nn_ S 5 from C 5 (by decide) (by omega)] at hj
    rw [(T 15 (by decide)).1, (T 15 (by decide)).2.2.1, (F (t := 45) (by decide)).2.2.1]
    exact R5.1 j hj
  · rw [show nn_ (nw_pan S w d c k) 4 = nn_ S 4 from C 4 (by decide) (by omega)] at hj
    rw [(T 15 (by decide)).1]
    exact R5.2 j hj
set_option maxRecDepth 20000 in
theorem C_X6_panel {G : GW} {h : PH} {Q : RS → PH → Prop} {S : SP} {N : Nat} (R : Rp1 S h) (I : Iv S N) {a b c e : Int32} (hc9 : 0 ≤ c ∧ c ≤ 65535) (hq : ∀ h', Rp1 (op_panel S a b c e).2.2 h' → (∀ t, t < 10 ∨ 40 ≤ t → hp_te h h' t) → Q (an_ "java/lang/IllegalArgumentException" "java/lang/IllegalStateException" "" ((op_panel S a b c e).1, (op_panel S a b c e).2.1)) h') : VV G 8 3 60 yX6_panel cX6_panel 6 (some .int) [] 0 (vv_en 6 [pv_O (10, 0), pv_I a, pv_I b, pv_I c, pv_I e]) [] h Q := by
  show VV G 8 3 60 yX6_panel cX6_panel 6 (some .int) [] 0 [some (pv_O (10, 0)), some (pv_I a), some (pv_I b), some (pv_I c), some (pv_I e), none] [] h Q
  obtain ⟨R0, RL, R1, R2, R3, R4, R5⟩ := id R
  obtain ⟨z0, z1, z2, z3, z4, z5⟩ := I.cs
  unfold op_panel at hq
  refine v_iload_n 1 dX6_panel_0 rfl rfl ?_
  refine v_bipushv (v := 100) 3 dX6_panel_1 (by decide) rfl ?_
  refine v_sipushv (v := 2000) 6 dX6_panel_3 (by decide) rfl ?_
  refine v_invs (d' := 0) (k' := 0) (n' := 0) (k2 := 3) (n2 := 60) 9 [_, _, _] dX6_panel_6 mt_X6_40 ms_X6_isIn rfl rfl (of_decide_eq_true rfl) rfl (by decide) rfl rfl rfl rfl (C_X6_isIn ?_)
  refine v_if_eq 37 12 dX6_panel_9 (by decide) rfl (fun c9 => ?_) (fun c9 => ?_)
  · have c9 := f1_0.mp c9
    refine v_iconstv (v := 0) 38 dX6_panel_37 (by decide) rfl ?_
    refine v_istore 40 dX6_panel_38 (by decide) rfl rfl ?_
    dsimp only [List.set]
    refine v_iload 42 dX6_panel_40 rfl rfl ?_
    refine v_if_eq 54 45 dX6_panel_42 (by decide) rfl (fun c42 => ?_) (fun c42 => ?_)
    · rw [if_neg (fun q => by first | exact c9 q.1.1 | exact c19 q.1.2.1 | exact c30 q.1.2.2 | exact q.2 c51)] at hq
      refine v_throw dX6_panel_54 dX6_panel_57 dX6_panel_58 dX6_panel_61 rfl th_X6_44_46 rfl (by decide) (by decide) (by decide) ?_
      exact hq h R (fun _ _ => hp_te.rf)
    · exact absurd (by decide) c42
  · have c9 := Decidable.not_not.mp (fun q => c9 (f1_0.mpr q))
    refine v_iload_n 13 dX6_panel_12 rfl rfl ?_
    refine v_iconstv (v := 1) 14 dX6_panel_13 (by decide) rfl ?_
    refine v_bipushv (v := 20) 16 dX6_panel_14 (by decide) rfl ?_
    refine v_invs (d' := 0) (k' := 0) (n' := 0) (k2 := 3) (n2 := 60) 19 [_, _, _] dX6_panel_16 mt_X6_40 ms_X6_isIn rfl rfl (of_decide_eq_true rfl) rfl (by decide) rfl rfl rfl rfl (C_X6_isIn ?_)
    refine v_if_eq 37 22 dX6_panel_19 (by decide) rfl (fun c19 => ?_) (fun c19 => ?_)
    · have c19 := f1_0.mp c19
      refine v_iconstv (v := 0) 38 dX6_panel_37 (by decide) rfl ?_
      refine v_istore 40 dX6_panel_38 (by decide) rfl rfl ?_
      dsimp only [List.set]
      refine v_iload 42 dX6_panel_40 rfl rfl ?_
      refine v_if_eq 54 45 dX6_panel_42 (by decide) rfl (fun c42 => ?_) (fun c42 => ?_)
      · rw [if_neg (fun q => by first | exact c9 q.1.1 | exact c19 q.1.2.1 | exact c30 q.1.2.2 | exact q.2 c51)] at hq
        refine v_throw dX6_panel_54 dX6_panel_57 dX6_panel_58 dX6_panel_61 rfl th_X6_44_46 rfl (by decide) (by decide) (by decide) ?_
        exact hq h R (fun _ _ => hp_te.rf)
      · exact absurd (by decide) c42
    · have c19 := Decidable.not_not.mp (fun q => c19 (f1_0.mpr q))
      refine v_iload 24 dX6_panel_22 rfl rfl ?_
      refine v_iconstv (v := 5) 25 dX6_panel_24 (by decide) rfl ?_
      refine v_bipushv (v := 40) 27 dX6_panel_25 (by decide) rfl ?_
      refine v_invs (d' := 0) (k' := 0) (n' := 0) (k2 := 3) (n2 := 60) 30 [_, _, _] dX6_panel_27 mt_X6_40 ms_X6_isIn rfl rfl (of_decide_eq_true rfl) rfl (by decide) rfl rfl rfl rfl (C_X6_isIn ?_)
      refine v_if_eq 37 33 dX6_panel_30 (by decide) rfl (fun c30 => ?_) (fun c30 => ?_)
      · have c30 := f1_0.mp c30
        refine v_iconstv (v := 0) 38 dX6_panel_37 (by decide) rfl ?_
        refine v_istore 40 dX6_panel_38 (by decide) rfl rfl ?_
        dsimp only [List.set]
        refine v_iload 42 dX6_panel_40 rfl rfl ?_
        refine v_if_eq 54 45 dX6_panel_42 (by decide) rfl (fun c42 => ?_) (fun c42 => ?_)
        · rw [if_neg (fun q => by first | exact c9 q.1.1 | exact c19 q.1.2.1 | exact c30 q.1.2.2 | exact q.2 c51)] at hq
          refine v_throw dX6_panel_54 dX6_panel_57 dX6_panel_58 dX6_panel_61 rfl th_X6_44_46 rfl (by decide) (by decide) (by decide) ?_
          exact hq h R (fun _ _ => hp_te.rf)
        · exact absurd (by decide) c42
      · have c30 := Decidable.not_not.mp (fun q => c30 (f1_0.mpr q))
        refine v_iconstv (v := 1) 34 dX6_panel_33 (by decide) rfl ?_
        refine v_goto 38 dX6_panel_34 (by decide) ?_
        refine v_istore 40 dX6_panel_38 (by decide) rfl rfl ?_
        dsimp only [List.set]
        refine v_iload 42 dX6_panel_40 rfl rfl ?_
        refine v_if_eq 54 45 dX6_panel_42 (by decide) rfl (fun c42 => ?_) (fun c42 => ?_)
        · exact absurd c42 (by decide)
        · refine v_ldcs (i := 3) (tx := "scb") 47 dX6_panel_45 (by first | (simp [g_sx]; done) | (simp [g_sx]; rfl)) (by decide) rfl ?_
          refine v_iload_n 48 dX6_panel_47 rfl rfl ?_
          refine v_invs (d' := 4) (k' := 0) (n' := 0) (k2 := 3) (n2 := 60) 51 [_, _] dX6_panel_48 mt_X6_34 ms_X6_isOneOf rfl rfl (of_decide_eq_true rfl) rfl (by decide) rfl rfl rfl rfl (C_X6_isOneOf (i0 := 3) (by decide) hc9.1 ?_)
          refine v_if_ne 62 54 dX6_panel_51 (by decide) rfl (fun c51 => ?_) (fun c51 => ?_)
          · have c51 := fun q => c51 (f0_0.mpr q)
            rw [if_pos ⟨⟨c9, c19, c30⟩, c51⟩] at hq
            obtain ⟨cap, L0⟩ := id RL.2.2.1
            obtain ⟨j9, ej1, ej2, ej⟩ := a_nat (lo := 5) (hi := 40) c30 (by decide) (by decide)
            have ec : cl_ e = j9 := by unfold cl_; rw [ej, nI_clamp (by omega)]
            refine v_aload_n 63 dX6_panel_62 rfl rfl ?_
            refine v_getfr 66 dX6_panel_63 fl_X6_19 (by first | assumption | rfl) (by rfl) rfl ?_
            rw [R0.1.2.2.2.1]
            refine v_invv (d' := 0) (k' := 0) (n' := 0) (k2 := 3) (n2 := 60) 69 [] dX6_panel_66 mt_X6_47 mi_Jx4a65c_size_8abf5 me_Jx4a65c_size_8abf5 (by first | assumption | rfl) (by rfl) rfl rfl (of_decide_eq_true rfl) rfl (by decide) rfl rfl rfl rfl (C_Jx4a65c_size_8abf5 (tl := 22) (ta := 27) rfl rfl L0 ?_)
            refine v_bipushv (v := 8) 71 dX6_panel_69 (by decide) rfl ?_
            refine v_icmp_lt 82 74 dX6_panel_71 (by decide) rfl (fun c71 => ?_) (fun c71 => ?_)
            · have c72 : nn_ S 2 < 8 := Nat.lt_of_not_le (fun q => absurd c71 (nI_nlt (a := nn_ S 2) (b := 8) q (by omega)))
              rw [if_neg (by omega)] at hq
              refine v_aload_n 83 dX6_panel_82 rfl rfl ?_
              refine v_getfr 86 dX6_panel_83 fl_X6_19 (by first | assumption | rfl) (by rfl) rfl ?_
              rw [R0.1.2.2.2.1]
              refine v_new (k1 := 2) (n1 := 46) 89 13 (nn_ S 2) dX6_panel_86 nw_X6_108 (by rfl) (by decide) (R3.2 _ (Nat.le_refl _)).1 rfl rfl rfl ?_
              refine v_dup 90 dX6_panel_89 rfl rfl ?_
              refine v_iload_n 91 dX6_panel_90 rfl rfl ?_
              refine v_iload_n 92 dX6_panel_91 rfl rfl ?_
              refine v_iload_n 93 dX6_panel_92 rfl rfl ?_
              refine v_iload 95 dX6_panel_93 rfl rfl ?_
              refine v_invi (d' := 1) (k' := 0) (n' := 0) (k2 := 2) (n2 := 46) 98 [_, _, _, _] dX6_panel_95 mt_X6_110 mi_X4_init rfl rfl (by first | assumption | rfl) rfl rfl (of_decide_eq_true rfl) rfl (by decide) rfl rfl rfl rfl (C_X4_init (nc_ hc9) ?_)
              refine v_invv (d' := 6) (k' := 1) (n' := 30) (k2 := 1) (n2 := 16) 101 [_] dX6_panel_98 mt_X6_59 mi_Jx4a65c_add_9ea2d me_Jx4a65c_add_9ea2d (by first | assumption | rfl) (by rfl) rfl rfl (of_decide_eq_true rfl) rfl (by decide) rfl rfl rfl rfl (C_add (tl := 22) (ta := 27) (f := fun k => (13, k)) rfl rfl (L0.te (by repeat' first | exact hp_te.rf | refine hp_te.tr ?_ (hp_te.i (by first | decide | omega)) | refine hp_te.tr ?_ (hp_te.r (by first | decide | omega)) | refine hp_te.tr ?_ (hp_te.n (by first | decide | omega))) (by repeat' first | exact hp_te.rf | refine hp_te.tr ?_ (hp_te.i (by first | decide | omega)) | refine hp_te.tr ?_ (hp_te.r (by first | decide | omega)) | refine hp_te.tr ?_ (hp_te.n (by first | decide | omega))) (by repeat' first | exact hp_te.rf | refine hp_te.tr ?_ (hp_te.i (by first | decide | omega)) | refine hp_te.tr ?_ (hp_te.r (by first | decide | omega)) | refine hp_te.tr ?_ (hp_te.n (by first | decide | omega)))) (by decide) (by decide) (by decide) (by decide) (by decide) ob_13 (by omega) (fun k hk => Or.inr ob_13) (by omega) (fun h' cap' L9 te9 tx9 => ?_))
              refine v_pop 102 dX6_panel_101 rfl rfl ?_
              refine v_aload_n 103 dX6_panel_102 rfl rfl ?_
              refine v_getfr 106 dX6_panel_103 fl_X6_19 (by first | assumption | rfl) (by rfl) rfl ?_
              rw [show hp_vr h' 10 0 2 = (22, 0) from by rw [(te9 10 (by decide) (by decide)).2.2.2.1]; exact R0.1.2.2.2.1]
              refine v_invv (d' := 0) (k' := 0) (n' := 0) (k2 := 1) (n2 := 16) 109 [] dX6_panel_106 mt_X6_47 mi_Jx4a65c_size_8abf5 me_Jx4a65c_size_8abf5 (by first | assumption | rfl) (by rfl) rfl rfl (of_decide_eq_true rfl) rfl (by decide) rfl rfl rfl rfl (C_Jx4a65c_size_8abf5 (tl := 22) (ta := 27) rfl rfl L9 ?_)
              refine v_iconstv (v := 1) 110 dX6_panel_109 (by decide) rfl ?_
              refine v_isub 111 dX6_panel_110 rfl ?_
              rw [show nI (nn_ S 2 + 1) - 1 = nI (nn_ S 2) from pk_sub (a := nn_ S 2 + 1) (b := 1) (by omega)]
              refine v_ireturn dX6_panel_111 rfl ?_
              refine hq _ (R.pa I (fun t t1 t2 t3 => hp_te.tr (by repeat' first | exact hp_te.rf | refine hp_te.tr ?_ (hp_te.i (by first | decide | omega)) | refine hp_te.tr ?_ (hp_te.r (by first | decide | omega)) | refine hp_te.tr ?_ (hp_te.n (by first | decide | omega))) (te9 t t2 t3)) ⟨_, L9.f (fun k hk => ?_)⟩ (fun i hi => hp_tx.tr (by repeat' first | exact hp_tx.rf | refine hp_tx.tr ?_ (hp_tx.i (by omega)) | refine hp_tx.tr ?_ (hp_tx.r (by omega)) | refine hp_tx.tr ?_ (hp_tx.n (by omega))) ((te9 13 (by decide) (by decide)).x i)) ?_) (fun t ht => hp_te.tr (by repeat' first | exact hp_te.rf | refine hp_te.tr ?_ (hp_te.i (by first | decide | omega)) | refine hp_te.tr ?_ (hp_te.r (by first | decide | omega)) | refine hp_te.tr ?_ (hp_te.n (by first | decide | omega))) (te9 t (by omega) (by omega)))
              · by_cases q : k = nn_ S 2
                · rw [if_pos q, q]
                · rw [if_neg q]
              · have E := te9 13 (by decide) (by decide)
                have hf0 : s_fa (nw_pan S a b (e * co_m c) (cl_ e)) (nn_ S 2) = (0, 0) := hp_new_vr0 (n := 0)
                have hb0 : s_ba (nw_pan S a b (e * co_m c) (cl_ e)) (nn_ S 2) = (0, 0) := hp_new_vr0 (n := 0)
                have hN : nI (nn_ (nw_pan S a b (e * co_m c) (cl_ e)) (10 + nn_ S 2)) = e := (congrArg nI (c_at.trans ec)).trans ej.symm
                refine ⟨⟨?_, ?_, ?_⟩, ⟨?_, ?_, ?_, ?_⟩, ⟨?_, ?_, ?_, ?_, ?_, ?_, ?_, ?_⟩, fun _ => ?_, fun q => absurd (by rw [hf0]) q, fun _ => ?_, fun q => absurd (by rw [hb0]) q⟩
                · rw [E.1]; exact hp_new_al0 (n := 0)
                · rw [E.2.2.2.1, hf0]; exact hp_new_vr0 (n := 0)
                · rw [E.2.2.2.1, hb0]; exact hp_new_vr0 (n := 0)
                · rw [E.2.2.1]; unfold nw_pan; simp [vi_i, vi_n]
                · rw [E.2.2.1]; unfold nw_pan; simp [vi_i, vi_n]
                · rw [E.2.2.1, hN]; simp [vi_i, vi_n]
                · rw [E.2.2.1, hN]; unfold nw_pan; simp [vi_i, vi_n]
                · rw [E.2.2.1]; unfold nw_pan; simp [vi_i, vi_n]
                · rw [E.2.2.1]; unfold nw_pan; simp [vi_i, vi_n]
                · rw [E.2.2.1]; unfold nw_pan; simp [vi_i, vi_n]
                · rw [E.2.2.1]; unfold nw_pan; simp [vi_i, vi_n]
                · unfold s_lf; rw [E.2.2.1, hf0]; simp [vi_i, vi_n]
                · rw [E.2.2.1]; unfold nw_pan; simp [vi_i, vi_n]
                · rw [E.2.2.1]; unfold nw_pan; simp [vi_i, vi_n]
                · rw [E.2.2.1]; unfold nw_pan; simp [vi_i, vi_n]
                · rw [(te9 16 (by decide) (by decide)).1]; exact (R3.2 _ (Nat.le_refl _)).2.1
                · rw [(te9 17 (by decide) (by decide)).1]; exact (R3.2 _ (Nat.le_refl _)).2.2
            · have c72 : 8 ≤ nn_ S 2 := Nat.le_of_not_lt (fun q => c71 (nI_lt (b := 8) q (by omega)))
              rw [if_pos c72] at hq
              refine v_throw dX6_panel_74 dX6_panel_77 dX6_panel_78 dX6_panel_81 rfl th_X6_51_53 rfl (by decide) (by decide) (by decide) ?_
              exact hq h R (fun _ _ => hp_te.rf)
          · have c51 := f0_0.mp c51
            rw [if_neg (fun q => by first | exact c9 q.1.1 | exact c19 q.1.2.1 | exact c30 q.1.2.2 | exact q.2 c51)] at hq
            refine v_throw dX6_panel_54 dX6_panel_57 dX6_panel_58 dX6_panel_61 rfl th_X6_44_46 rfl (by decide) (by decide) (by decide) ?_
            exact hq h R (fun _ _ => hp_te.rf)
