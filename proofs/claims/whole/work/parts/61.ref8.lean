section VVR5
variable {h h' : PH}
theorem ke_.te {tl ta : Nat} (te : ∀ t, t ≠ tl → t ≠ ta → hp_te h h' t) (q1 : 40 ≤ tl ∧ tl < 70) (q2 : 40 ≤ ta ∧ ta < 70) : ke_ h h' := ⟨fun t ht => te t (by omega) (by omega), fun q t a b => (q t a b).te (te t (by omega) (by omega))⟩
theorem q_l.f {tl ta n : Nat} {f f' : Nat → RN} (q : q_l h tl ta n f) (e : ∀ k, k < n → f k = f' k) : q_l h tl ta n f' := by
  obtain ⟨cap, L⟩ := q
  exact ⟨cap, L.f e⟩
theorem ob_41 : ob_ok 41 := ob_c rfl rfl (g_nt 1906 (by decide +kernel) (by decide +kernel))
theorem ob_42 : ob_ok 42 := ob_c rfl rfl (g_nt 1911 (by decide +kernel) (by decide +kernel))
theorem ob_43 : ob_ok 43 := ob_c rfl rfl (g_nt 1913 (by decide +kernel) (by decide +kernel))
theorem ob_44 : ob_ok 44 := ob_c rfl rfl (g_nt 1920 (by decide +kernel) (by decide +kernel))
theorem ob_4 : ob_ok 4 := ob_c rfl rfl (g_nt 1899 (by decide +kernel) (by decide +kernel))
theorem ob_45 : ob_ok 45 := Or.inr ⟨rfl, by decide, g_nt 1929 (by decide +kernel) (by decide +kernel)⟩
/-- the lists and counts, one longer -/
theorem Rp2.a0 {S : SP} {A : PH} (R : Rp2 (A, S.2) h) (te : ∀ t, t ≠ 50 → t ≠ 56 → hp_te h h' t) (L : q_l h' 50 56 (nn_ S 0 + 1) (fun k => if k = nn_ S 0 then (41, nn_ S 0) else (41, k))) : Rp2 (A, c_up S.2.1 0 (nn_ S 0 + 1), S.2.2) h' := by
  obtain ⟨L0, L1, L2, L3, L4, L5⟩ := R.2.1
  exact R.ls rfl (fun t ht => te t (by omega) (by omega)) ⟨L.f (fun k hk => by by_cases e : k = nn_ S 0 <;> simp [e]), L1.te (te _ (by decide) (by decide)) (te _ (by decide) (by decide)) (te _ (by decide) (by decide)), L2.te (te _ (by decide) (by decide)) (te _ (by decide) (by decide)) (te _ (by decide) (by decide)), (L3.te (te _ (by decide) (by decide)) (te _ (by decide) (by decide)) (te _ (by decide) (by decide))).f (fun k hk => by show _ = (4, c_up S.2.1 0 (nn_ S 0 + 1) (10 + k) + 128); rw [c_ne (by omega)]), L4.te (te _ (by decide) (by decide)) (te _ (by decide) (by decide)) (te _ (by decide) (by decide)), L5.te (te _ (by decide) (by decide)) (te _ (by decide) (by decide)) (te _ (by decide) (by decide))⟩
theorem Rp2.a1 {S : SP} {A : PH} (R : Rp2 (A, S.2) h) (te : ∀ t, t ≠ 51 → t ≠ 57 → hp_te h h' t) (L : q_l h' 51 57 (nn_ S 1 + 1) (fun k => if k = nn_ S 1 then (42, nn_ S 1) else (42, k))) : Rp2 (A, c_up S.2.1 1 (nn_ S 1 + 1), S.2.2) h' := by
  obtain ⟨L0, L1, L2, L3, L4, L5⟩ := R.2.1
  exact R.ls rfl (fun t ht => te t (by omega) (by omega)) ⟨L0.te (te _ (by decide) (by decide)) (te _ (by decide) (by decide)) (te _ (by decide) (by decide)), L.f (fun k hk => by by_cases e : k = nn_ S 1 <;> simp [e]), L2.te (te _ (by decide) (by decide)) (te _ (by decide) (by decide)) (te _ (by decide) (by decide)), (L3.te (te _ (by decide) (by decide)) (te _ (by decide) (by decide)) (te _ (by decide) (by decide))).f (fun k hk => by show _ = (4, c_up S.2.1 1 (nn_ S 1 + 1) (10 + k) + 128); rw [c_ne (by omega)]), L4.te (te _ (by decide) (by decide)) (te _ (by decide) (by decide)) (te _ (by decide) (by decide)), L5.te (te _ (by decide) (by decide)) (te _ (by decide) (by decide)) (te _ (by decide) (by decide))⟩
theorem Rp2.a3 {S : SP} {A : PH} (R : Rp2 (A, S.2) h) (n2 : nn_ S 2 ≤ 8) (te : ∀ t, t ≠ 55 → t ≠ 61 → hp_te h h' t) (L : q_l h' 55 61 (nn_ S 3 + 1) (fun k => if k = nn_ S 3 then (44, nn_ S 3) else (44, k))) : Rp2 (A, c_up (c_up (c_up S.2.1 3 (nn_ S 3 + 1)) (20 + nn_ S 3) 1) (30 + nn_ S 3) 0, S.2.2) h' := by
  obtain ⟨L0, L1, L2, L3, L4, L5⟩ := R.2.1
  have C : ∀ j, ¬ j = 3 → ¬ j = 20 + nn_ S 3 → ¬ j = 30 + nn_ S 3 → c_up (c_up (c_up S.2.1 3 (nn_ S 3 + 1)) (20 + nn_ S 3) 1) (30 + nn_ S 3) 0 j = S.2.1 j := fun j q1 q2 q3 => (c_ne q3).trans ((c_ne q2).trans (c_ne q1))
  have C3 : c_up (c_up (c_up S.2.1 3 (nn_ S 3 + 1)) (20 + nn_ S 3) 1) (30 + nn_ S 3) 0 3 = nn_ S 3 + 1 := (c_ne (by omega)).trans ((c_ne (by omega)).trans c_at)
  refine R.ls rfl (fun t ht => te t (by omega) (by omega)) ⟨?_, ?_, ?_, ?_, ?_, ?_⟩
  · show q_l h' 50 56 (c_up _ _ _ 0) _
    rw [C 0 (by decide) (by omega) (by omega)]; exact L0.te (te _ (by decide) (by decide)) (te _ (by decide) (by decide)) (te _ (by decide) (by decide))
  · show q_l h' 51 57 (c_up _ _ _ 1) _
    rw [C 1 (by decide) (by omega) (by omega)]; exact L1.te (te _ (by decide) (by decide)) (te _ (by decide) (by decide)) (te _ (by decide) (by decide))
  · show q_l h' 52 58 (c_up _ _ _ 2) _
    rw [C 2 (by decide) (by omega) (by omega)]; exact L2.te (te _ (by decide) (by decide)) (te _ (by decide) (by decide)) (te _ (by decide) (by decide))
  · show q_l h' 53 59 (c_up _ _ _ 2) _
    rw [C 2 (by decide) (by omega) (by omega)]
    refine (L3.te (te _ (by decide) (by decide)) (te _ (by decide) (by decide)) (te _ (by decide) (by decide))).f (fun k hk => ?_)
    show _ = (4, c_up _ _ _ (10 + k) + 128)
    have hk9 : k < nn_ S 2 := hk
    rw [C (10 + k) (by omega) (by omega) (by omega)]
  · show q_l h' 54 60 (c_up _ _ _ 5) _
    rw [C 5 (by decide) (by omega) (by omega)]; exact L4.te (te _ (by decide) (by decide)) (te _ (by decide) (by decide)) (te _ (by decide) (by decide))
  · show q_l h' 55 61 (c_up _ _ _ 3) _
    rw [C3]; exact L.f (fun k hk => by by_cases e : k = nn_ S 3 <;> simp [e])
end VVR5
theorem C_add2 {G : GW} {h : PH} {Q : RS → PH → Prop} {u v tl ta n : Nat} {f : Nat → RN} (htl : tg_k tl = some (.inl 3)) (hta : tg_k ta = some (.inr g_O)) (q : q_l h tl ta n f) (h10 : 10 ≤ tl) (h11 : 10 ≤ ta) (hne : ta ≠ tl) (h51 : tl ≠ 5) (h52 : ta ≠ 5) (hu : ob_ok u) (hn9 : n ≤ 600) (hel : ∀ k, k < n → f k = (0, 0) ∨ ob_ok (f k).1) {B : Nat} (hB : n + n / 2 + 10 ≤ B) (hq : ∀ h', q_l h' tl ta (n + 1) (fun k => if k = n then (u, v) else f k) → (∀ t, t ≠ tl → t ≠ ta → hp_te h h' t) → Q (.inl (some (pv_I 1))) h') : VV G 6 1 B yJx4a65c_add_9ea2d cJx4a65c_add_9ea2d 2 (some .boolean) [] 0 (vv_en 2 [pv_O (tl, 0), pv_O (u, v)]) [] h Q := by
  obtain ⟨cap, L⟩ := q
  exact C_add htl hta L h10 h11 hne h51 h52 hu hn9 hel hB (fun h' cap' L' te' _ => hq h' ⟨cap', L'⟩ te')
set_option maxRecDepth 20000 in
theorem C_X7_init {G : GW} {h : PH} {Q : RS → PH → Prop} {f g dd tt : Nat} {way : Int32} (hd : hp_vi h 41 g 1 = nI dd) (h1 : 100 ≤ dd) (h2 : dd < 1000) (ht1 : 5 ≤ tt) (ht2 : tt ≤ 30) (hw : narrow .char (.int way) = .int way ∧ fits .char (.int way) = true) (f3 : hp_al h 62 f = false) (hq : Q (.inl none) (hp_setr (hp_new (hp_seti (hp_seti (hp_setr h 42 f 0 (41, g)) 42 f 1 way) 42 f 2 (nI tt)) 62 f (cl_ (mn 24 (pw_n way (nI dd) (nI tt))))) 42 f 3 (62, f))) : VV G 1 1 24 yX7_init cX7_init 6 (none) [] 0 (vv_en 6 [pv_O (42, f), pv_O (41, g), pv_I way, pv_I (nI tt)]) [] h Q := by
  show VV G 1 1 24 yX7_init cX7_init 6 (none) [] 0 [some (pv_O (42, f)), some (pv_O (41, g)), some (pv_I way), some (pv_I (nI tt)), none, none] [] h Q
  obtain ⟨nn, n1, n2, en⟩ := pw_n_ok way h1 h2 ht1 ht2
  rw [en, show cl_ (nI nn) = nn from nI_clamp (by omega)] at hq
  unfold pw_n mn at en
  refine v_aload_n 1 dX7_init_0 rfl rfl ?_
  refine v_objinit 4 dX7_init_1 oi_X7_1 oi_1 oi_2 (by first | decide | (dsimp only; omega)) (by first | decide | (dsimp only; omega)) (by first | decide | (dsimp only; omega)) rfl ?_
  refine v_aload_n 5 dX7_init_4 rfl rfl ?_
  refine v_aload_n 6 dX7_init_5 rfl rfl ?_
  refine v_putfr 9 dX7_init_6 pf_X7_init_7 (by first | assumption | rfl) (by first | assumption | decide) (by rfl) rfl ?_
  refine v_aload_n 10 dX7_init_9 rfl rfl ?_
  refine v_iload_n 11 dX7_init_10 rfl rfl ?_
  refine v_putfi 14 dX7_init_11 pf_X7_init_13 (by first | assumption | rfl) (by first | assumption | decide) (by rfl) hw.1 hw.2 rfl ?_
  refine v_aload_n 15 dX7_init_14 rfl rfl ?_
  refine v_iload_n 16 dX7_init_15 rfl rfl ?_
  refine v_putfi 19 dX7_init_16 pf_X7_init_17 (by first | assumption | rfl) (by first | assumption | decide) (by rfl) rfl rfl rfl ?_
  refine v_aload_n 20 dX7_init_19 rfl rfl ?_
  refine v_getfi 23 dX7_init_20 fl_X7_21 (by first | assumption | rfl) (by rfl) rfl ?_
  rw [show hp_vi (hp_seti (hp_seti (hp_setr h 42 f 0 (41, g)) 42 f 1 way) 42 f 2 (nI tt)) 41 g 1 = nI dd from hd]
  refine v_iconstv (v := 2) 24 dX7_init_23 (by decide) rfl ?_
  refine v_idiv 25 dX7_init_24 (by decide) rfl ?_
  refine v_istore 27 dX7_init_25 (by decide) rfl rfl ?_
  dsimp only [List.set]
  refine v_iload_n 28 dX7_init_27 rfl rfl ?_
  refine v_bipushv (v := 102) 30 dX7_init_28 (by decide) rfl ?_
  refine v_icmp_ne 47 33 dX7_init_30 (by decide) rfl (fun c30 => ?_) (fun c30 => ?_)
  · rw [if_neg c30] at en
    refine v_bipushv (v := 10) 49 dX7_init_47 (by decide) rfl ?_
    refine v_iload 51 dX7_init_49 rfl rfl ?_
    refine v_imul 52 dX7_init_51 rfl ?_
    refine v_iload_n 53 dX7_init_52 rfl rfl ?_
    refine v_idiv 54 dX7_init_53 (nI_ne0 (by omega) (by omega)) rfl ?_
    refine v_istore 56 dX7_init_54 (by decide) rfl rfl ?_
    dsimp only [List.set]
    refine v_aload_n 57 dX7_init_56 rfl rfl ?_
    refine v_bipushv (v := 24) 59 dX7_init_57 (by decide) rfl ?_
    refine v_iload 61 dX7_init_59 rfl rfl ?_
    refine v_min 64 dX7_init_61 ma_X7_26 ma_s_min ma_i rfl (by decide) rfl ?_
    rw [en]
    refine v_newarr (ty := .boolean) (N := nn) (k1 := 0) (n1 := 24 - nn) 66 62 f dX7_init_64 ac_boolean rfl (by simp [g_tys]) (by rfl) (by decide) f3 (nI_pos (by omega)) (nI_clamp (by omega)) (by show nn * 1 ≤ _; omega) rfl (by omega) rfl ?_
    refine v_putfr 69 dX7_init_66 pf_X7_init_32 (by first | assumption | rfl) (by first | assumption | decide) (by rfl) rfl ?_
    refine v_return dX7_init_69 rfl ?_
    exact hq
  · rw [if_pos c30] at en
    refine v_bipushv (v := 10) 35 dX7_init_33 (by decide) rfl ?_
    refine v_iload 37 dX7_init_35 rfl rfl ?_
    refine v_iconstv (v := 2) 38 dX7_init_37 (by decide) rfl ?_
    refine v_idiv 39 dX7_init_38 (by decide) rfl ?_
    refine v_imul 40 dX7_init_39 rfl ?_
    refine v_iload_n 41 dX7_init_40 rfl rfl ?_
    refine v_idiv 42 dX7_init_41 (nI_ne0 (by omega) (by omega)) rfl ?_
    refine v_iconstv (v := 1) 43 dX7_init_42 (by decide) rfl ?_
    refine v_iadd 44 dX7_init_43 rfl ?_
    refine v_goto 54 dX7_init_44 (by decide) ?_
    refine v_istore 56 dX7_init_54 (by decide) rfl rfl ?_
    dsimp only [List.set]
    refine v_aload_n 57 dX7_init_56 rfl rfl ?_
    refine v_bipushv (v := 24) 59 dX7_init_57 (by decide) rfl ?_
    refine v_iload 61 dX7_init_59 rfl rfl ?_
    refine v_min 64 dX7_init_61 ma_X7_26 ma_s_min ma_i rfl (by decide) rfl ?_
    rw [en]
    refine v_newarr (ty := .boolean) (N := nn) (k1 := 0) (n1 := 24 - nn) 66 62 f dX7_init_64 ac_boolean rfl (by simp [g_tys]) (by rfl) (by decide) f3 (nI_pos (by omega)) (nI_clamp (by omega)) (by show nn * 1 ≤ _; omega) rfl (by omega) rfl ?_
    refine v_putfr 69 dX7_init_66 pf_X7_init_32 (by first | assumption | rfl) (by first | assumption | decide) (by rfl) rfl ?_
    refine v_return dX7_init_69 rfl ?_
    exact hq
set_option maxRecDepth 20000 in
theorem C_X12_log {G : GW} {h : PH} {Q : RS → PH → Prop} {S : SP} {N : Nat} (R : Rp2 S h) (I : Iv S N) {a b c e : Int32} (ha : 0 ≤ a ∧ a ≤ 65535) (he : 0 ≤ e ∧ e ≤ 65535) (hq : ∀ v h', ((op_log S a b c e).1 = 0 → v = (op_log S a b c e).2.1) → Rp2 (op_log S a b c e).2.2 h' → hp_vi h' 40 0 0 = nI (op_log S a b c e).1 → ke_ h h' → Q (.inl (some (pv_I v))) h') : VV G 9 2 35 yX12_log cX12_log 5 (some .int) [] 0 (vv_en 5 [pv_O (40, 0), pv_I a, pv_I b, pv_I c, pv_I e]) [] h Q := by
  show VV G 9 2 35 yX12_log cX12_log 5 (some .int) [] 0 [some (pv_O (40, 0)), some (pv_I a), some (pv_I b), some (pv_I c), some (pv_I e)] [] h Q
  obtain ⟨z0, z1, z2, z3, z4, z5⟩ := I.cs
  refine v_aload_n 1 dX12_log_0 rfl rfl ?_
  refine v_invv (d' := 0) (k' := 0) (n' := 0) (k2 := 2) (n2 := 35) 4 [] dX12_log_1 mt_X12_48 mi_X12_begins me_X12_begins (by first | assumption | rfl) (by rfl) rfl rfl (of_decide_eq_true rfl) rfl (by decide) rfl rfl rfl rfl (C2_begins R (fun h0 R e0 ke0 => ?_))
  refine v_aload_n 5 dX12_log_4 rfl rfl ?_
  refine v_ldcs (i := 5) (tx := "wmoh") 7 dX12_log_5 (by first | (simp [g_sx]; done) | (simp [g_sx]; rfl)) (by decide) rfl ?_
  refine v_iload_n 8 dX12_log_7 rfl rfl ?_
  refine v_invv (d' := 3) (k' := 0) (n' := 0) (k2 := 2) (n2 := 35) 11 [_] dX12_log_8 mt_X12_53 mi_J0_indexOf_0f7a4 me_J0_indexOf_0f7a4 (by first | assumption | rfl) (by rfl) rfl rfl (of_decide_eq_true rfl) rfl (by decide) rfl rfl rfl rfl (C_ixf (by decide) ha.1 ?_)
  refine v_if_lt 50 14 dX12_log_11 (by decide) rfl (fun c11 => ?_) (fun c11 => ?_)
  · have c11 : ixf_ a tx_w 0 < 0 := c11
    refine v_iconstv (v := 1) 51 dX12_log_50 (by decide) rfl ?_
    refine v_goto 55 dX12_log_51 (by decide) ?_
    refine v_iconstv (v := 1) 56 dX12_log_55 (by decide) rfl ?_
    refine v_invv (d' := 0) (k' := 0) (n' := 0) (k2 := 2) (n2 := 35) 59 [_, _] dX12_log_56 mt_X12_67 mi_X12_fails me_X12_fails (by first | assumption | rfl) (by rfl) rfl rfl (of_decide_eq_true rfl) rfl (by decide) rfl rfl rfl rfl (C_f1 e0 (by decide) ?_)
    refine v_if_ne 89 62 dX12_log_59 (by decide) rfl (fun c59 => ?_) (fun c59 => ?_)
    · refine v_iconstv (v := -1) 90 dX12_log_89 (by decide) rfl ?_
      refine v_ireturn dX12_log_90 rfl ?_
      have ev : op_log S a b c e = (1, 0, S) := by unfold op_log; simp only [c11, ↓reduceIte, and_self, and_true, true_and, and_false, false_and, not_true_eq_false, not_false_eq_true]
      rw [ev] at hq
      exact hq _ _ (fun e => absurd e (Nat.succ_ne_zero _)) R.th hp_seti_at (ke0.tr (ke_.i (by decide) (by decide)))
    · first | exact absurd c59 (by decide) | exact absurd rfl c59 | exact absurd (of_decide_eq_true rfl) c59
  · have c11 : ¬ ixf_ a tx_w 0 < 0 := c11
    refine v_iload_n 15 dX12_log_14 rfl rfl ?_
    refine v_i2l 16 dX12_log_15 rfl ?_
    refine v_ldc2 19 dX12_log_16 cn_X12_59 rfl rfl ?_
    refine v_ldc2 22 dX12_log_19 cn_X12_61 rfl rfl ?_
    refine v_invs (d' := 0) (k' := 0) (n' := 0) (k2 := 2) (n2 := 35) 25 [_, _, _] dX12_log_22 mt_X12_44 ms_X12_in rfl rfl (of_decide_eq_true rfl) rfl (by decide) rfl rfl rfl rfl (C_in2 (lo := 100) (hi := 999) rfl (by decide) (by decide) (fun a22 => ?_) (fun b22 => ?_))
    · refine v_if_eq 50 28 dX12_log_25 (by decide) rfl (fun c25 => ?_) (fun c25 => ?_)
      · first | exact absurd c25 (by decide) | exact absurd rfl c25 | exact absurd (of_decide_eq_true rfl) c25
      · refine v_iload_n 29 dX12_log_28 rfl rfl ?_
        refine v_i2l 30 dX12_log_29 rfl ?_
        refine v_lconst (v := 1) 31 dX12_log_30 (by decide) rfl ?_
        refine v_ldc2 34 dX12_log_31 cn_X12_63 rfl rfl ?_
        refine v_invs (d' := 0) (k' := 0) (n' := 0) (k2 := 2) (n2 := 35) 37 [_, _, _] dX12_log_34 mt_X12_44 ms_X12_in rfl rfl (of_decide_eq_true rfl) rfl (by decide) rfl rfl rfl rfl (C_in2 (lo := 1) (hi := 40) rfl (by decide) (by decide) (fun a34 => ?_) (fun b34 => ?_))
        · refine v_if_eq 50 40 dX12_log_37 (by decide) rfl (fun c37 => ?_) (fun c37 => ?_)
          · first | exact absurd c37 (by decide) | exact absurd rfl c37 | exact absurd (of_decide_eq_true rfl) c37
          · refine v_ldcs (i := 6) (tx := "pcb") 42 dX12_log_40 (by first | (simp [g_sx]; done) | (simp [g_sx]; rfl)) (by decide) rfl ?_
            refine v_iload 44 dX12_log_42 rfl rfl ?_
            refine v_invv (d' := 3) (k' := 0) (n' := 0) (k2 := 2) (n2 := 35) 47 [_] dX12_log_44 mt_X12_53 mi_J0_indexOf_0f7a4 me_J0_indexOf_0f7a4 (by first | assumption | rfl) (by rfl) rfl rfl (of_decide_eq_true rfl) rfl (by decide) rfl rfl rfl rfl (C_ixf (by decide) he.1 ?_)
            refine v_if_ge 54 50 dX12_log_47 (by decide) rfl (fun c47 => ?_) (fun c47 => ?_)
            · have c47 : ¬ ixf_ e tx_f 0 < 0 := Int32.not_lt.mpr c47
              refine v_iconstv (v := 0) 55 dX12_log_54 (by decide) rfl ?_
              refine v_iconstv (v := 1) 56 dX12_log_55 (by decide) rfl ?_
              refine v_invv (d' := 0) (k' := 0) (n' := 0) (k2 := 2) (n2 := 35) 59 [_, _] dX12_log_56 mt_X12_67 mi_X12_fails me_X12_fails (by first | assumption | rfl) (by rfl) rfl rfl (of_decide_eq_true rfl) rfl (by decide) rfl rfl rfl rfl (C_f0 e0 ?_)
              refine v_if_ne 89 62 dX12_log_59 (by decide) rfl (fun c59 => ?_) (fun c59 => ?_)
              · first | exact absurd c59 (by decide) | exact absurd rfl c59 | exact absurd (of_decide_eq_true rfl) c59
              · refine v_aload_n 63 dX12_log_62 rfl rfl ?_
                refine v_aload_n 64 dX12_log_63 rfl rfl ?_
                refine v_getfr 67 dX12_log_64 fl_X12_10 (by first | assumption | rfl) (by rfl) rfl ?_
                rw [R.1.1.2.1]
                refine v_invf (z := ("java/util/ArrayList", TJx4a65c, 3)) (d' := 0) (k' := 0) (n' := 0) (k2 := 2) (n2 := 35) 72 [] dX12_log_67 mf_X12_38 md_Jx4a65c_size_8abf5 mi_Jx4a65c_size_8abf5 se_Jx4a65c_size_8abf5 (by simp [g_fw]; rfl) ⟨by decide, by decide +kernel⟩ (by first | assumption | rfl) (by rfl) rfl rfl (of_decide_eq_true rfl) rfl (by decide) rfl rfl rfl rfl (C_sz (tl := 50) (ta := 56) rfl rfl R.2.1.1 ?_)
                refine v_bipushv (v := 8) 74 dX12_log_72 (by decide) rfl ?_
                refine v_icmp_ne 81 77 dX12_log_74 (by decide) rfl (fun c74 => ?_) (fun c74 => ?_)
                · have g74 : ¬ 8 ≤ nn_ S 0 := fun q => c74 (by rw [show nn_ S 0 = 8 by omega]; rfl)
                  refine v_iconstv (v := 0) 82 dX12_log_81 (by decide) rfl ?_
                  refine v_iconstv (v := 2) 83 dX12_log_82 (by decide) rfl ?_
                  refine v_invv (d' := 0) (k' := 0) (n' := 0) (k2 := 2) (n2 := 35) 86 [_, _] dX12_log_83 mt_X12_67 mi_X12_fails me_X12_fails (by first | assumption | rfl) (by rfl) rfl rfl (of_decide_eq_true rfl) rfl (by decide) rfl rfl rfl rfl (C_f0 e0 ?_)
                  refine v_if_eq 91 89 dX12_log_86 (by decide) rfl (fun c86 => ?_) (fun c86 => ?_)
                  · refine v_aload_n 92 dX12_log_91 rfl rfl ?_
                    refine v_getfr 95 dX12_log_92 fl_X12_10 (by first | assumption | rfl) (by rfl) rfl ?_
                    rw [R.1.1.2.1]
                    refine v_new (k1 := 1) (n1 := 30) 98 41 (nn_ S 0) dX12_log_95 nw_X12_71 (by rfl) (by decide) (by rw [R.al (t := 41) (by decide)]; exact I.2.2.2.2.2.1.1 _ (Nat.le_refl _)) rfl rfl rfl ?_
                    refine v_dup 99 dX12_log_98 rfl rfl ?_
                    refine v_ldcs (i := 5) (tx := "wmoh") 101 dX12_log_99 (by first | (simp [g_sx]; done) | (simp [g_sx]; rfl)) (by decide) rfl ?_
                    refine v_iload_n 102 dX12_log_101 rfl rfl ?_
                    refine v_invv (d' := 3) (k' := 0) (n' := 0) (k2 := 1) (n2 := 30) 105 [_] dX12_log_102 mt_X12_53 mi_J0_indexOf_0f7a4 me_J0_indexOf_0f7a4 (by first | assumption | rfl) (by rfl) rfl rfl (of_decide_eq_true rfl) rfl (by decide) rfl rfl rfl rfl (C_ixf (by decide) ha.1 ?_)
                    refine v_iload_n 106 dX12_log_105 rfl rfl ?_
                    refine v_iload_n 107 dX12_log_106 rfl rfl ?_
                    refine v_iload 109 dX12_log_107 rfl rfl ?_
                    refine v_invi (d' := 1) (k' := 0) (n' := 0) (k2 := 1) (n2 := 30) 112 [_, _, _, _] dX12_log_109 mt_X12_73 mi_X9_init rfl rfl (by first | assumption | rfl) rfl rfl (of_decide_eq_true rfl) rfl (by decide) rfl rfl rfl rfl (C_X9_init (nc_ he) ?_)
                    have R : Rp2 ((nw_log S (ixf_ a tx_w 0) b c e).1, S.2) (hp_seti (hp_seti (hp_seti (hp_seti (hp_new h0 41 (nn_ S 0) 0) 41 (nn_ S 0) 0 (ixf_ a tx_w 0)) 41 (nn_ S 0) 1 b) 41 (nn_ S 0) 2 c) 41 (nn_ S 0) 3 e) := (by unfold nw_log; dsimp only; repeat' first | refine Rp2.i' ?_ (by decide) | refine Rp2.r' ?_ (by decide) | refine Rp2.n' ?_ (by decide) | refine Rp2.g' ?_ (by decide) | exact R)
                    refine v_invf (z := ("java/util/ArrayList", TJx4a65c, 3)) (d' := 6) (k' := 1) (n' := 30) (k2 := 0) (n2 := 0) 117 [_] dX12_log_112 mf_X12_76 md_Jx4a65c_add_9ea2d mi_Jx4a65c_add_9ea2d se_Jx4a65c_add_9ea2d (by simp [g_fw]; rfl) ⟨by decide, by decide +kernel⟩ (by first | assumption | rfl) (by rfl) rfl rfl (of_decide_eq_true rfl) rfl (by decide) rfl rfl rfl rfl (C_add2 (tl := 50) (ta := 56) (n := nn_ S 0) (f := fun k => (41, k)) rfl rfl R.2.1.1 (by decide) (by decide) (by decide) (by decide) (by decide) ob_41 (by omega) (fun k hk => Or.inr ob_41) (by omega) (fun h9 L9 te9 => ?_))
                    refine v_pop 118 dX12_log_117 rfl rfl ?_
                    refine v_aload_n 119 dX12_log_118 rfl rfl ?_
                    refine v_getfr 122 dX12_log_119 fl_X12_10 (by first | assumption | rfl) (by rfl) rfl ?_
                    rw [show hp_vr h9 40 0 1 = (50, 0) from by rw [(te9 40 (by decide) (by decide)).2.2.2.1]; exact R.1.1.2.1]
                    refine v_invf (z := ("java/util/ArrayList", TJx4a65c, 3)) (d' := 0) (k' := 0) (n' := 0) (k2 := 0) (n2 := 0) 127 [] dX12_log_122 mf_X12_38 md_Jx4a65c_size_8abf5 mi_Jx4a65c_size_8abf5 se_Jx4a65c_size_8abf5 (by simp [g_fw]; rfl) ⟨by decide, by decide +kernel⟩ (by first | assumption | rfl) (by rfl) rfl rfl (of_decide_eq_true rfl) rfl (by decide) rfl rfl rfl rfl (C_sz (tl := 50) (ta := 56) rfl rfl L9 ?_)
                    refine v_iconstv (v := 1) 128 dX12_log_127 (by decide) rfl ?_
                    refine v_isub 129 dX12_log_128 rfl ?_
                    rw [show nI (nn_ S 0 + 1) - 1 = nI (nn_ S 0) from nI_pred _]
                    refine v_ireturn dX12_log_129 rfl ?_
                    have ev : op_log S a b c e = (0, nI (nn_ S 0), nw_log S (ixf_ a tx_w 0) b c e) := by unfold op_log; simp only [c11, eq_true a22, eq_true a34, c47, g74, ↓reduceIte, and_self, and_true, true_and, and_false, false_and, not_true_eq_false, not_false_eq_true]
                    rw [ev] at hq
                    exact hq _ _ (fun _ => rfl) (R.a0 te9 L9) (by rw [(te9 40 (by decide) (by decide)).2.2.1]; first | exact e0 | exact (hp_seti_ne (by simp)).trans e0 | (simp only [vi_i, vi_r, vi_n]; simp; exact e0)) (((by repeat' first | exact ke_.rf | exact ke0 | refine ke_.tr ?_ (ke_.i (by decide) (by decide)) | refine ke_.tr ?_ (ke_.r (by decide) (by decide)) | refine ke_.tr ?_ (ke_.n (by decide) (by decide))) : ke_ h _).tr (ke_.te te9 (by decide) (by decide)))
                  · first | exact absurd c86 (by decide) | exact absurd rfl c86 | exact absurd (of_decide_eq_true rfl) c86
                · have g74 : 8 ≤ nn_ S 0 := by have := (nI_eq (a := nn_ S 0) (b := 8) (by omega) (by omega)).mp c74; omega
                  refine v_iconstv (v := 1) 78 dX12_log_77 (by decide) rfl ?_
                  refine v_goto 82 dX12_log_78 (by decide) ?_
                  refine v_iconstv (v := 2) 83 dX12_log_82 (by decide) rfl ?_
                  refine v_invv (d' := 0) (k' := 0) (n' := 0) (k2 := 2) (n2 := 35) 86 [_, _] dX12_log_83 mt_X12_67 mi_X12_fails me_X12_fails (by first | assumption | rfl) (by rfl) rfl rfl (of_decide_eq_true rfl) rfl (by decide) rfl rfl rfl rfl (C_f1 e0 (by decide) ?_)
                  refine v_if_eq 91 89 dX12_log_86 (by decide) rfl (fun c86 => ?_) (fun c86 => ?_)
                  · first | exact absurd c86 (by decide) | exact absurd rfl c86 | exact absurd (of_decide_eq_true rfl) c86
                  · refine v_iconstv (v := -1) 90 dX12_log_89 (by decide) rfl ?_
                    refine v_ireturn dX12_log_90 rfl ?_
                    have ev : op_log S a b c e = (2, 0, S) := by unfold op_log; simp only [c11, eq_true a22, eq_true a34, c47, g74, ↓reduceIte, and_self, and_true, true_and, and_false, false_and, not_true_eq_false, not_false_eq_true]
                    rw [ev] at hq
                    exact hq _ _ (fun e => absurd e (Nat.succ_ne_zero _)) R.th hp_seti_at (ke0.tr (ke_.i (by decide) (by decide)))
            · have c47 : ixf_ e tx_f 0 < 0 := Int32.not_le.mp c47
              refine v_iconstv (v := 1) 51 dX12_log_50 (by decide) rfl ?_
              refine v_goto 55 dX12_log_51 (by decide) ?_
              refine v_iconstv (v := 1) 56 dX12_log_55 (by decide) rfl ?_
              refine v_invv (d' := 0) (k' := 0) (n' := 0) (k2 := 2) (n2 := 35) 59 [_, _] dX12_log_56 mt_X12_67 mi_X12_fails me_X12_fails (by first | assumption | rfl) (by rfl) rfl rfl (of_decide_eq_true rfl) rfl (by decide) rfl rfl rfl rfl (C_f1 e0 (by decide) ?_)
              refine v_if_ne 89 62 dX12_log_59 (by decide) rfl (fun c59 => ?_) (fun c59 => ?_)
              · refine v_iconstv (v := -1) 90 dX12_log_89 (by decide) rfl ?_
                refine v_ireturn dX12_log_90 rfl ?_
                have ev : op_log S a b c e = (1, 0, S) := by unfold op_log; simp only [c11, eq_true a22, eq_true a34, c47, ↓reduceIte, and_self, and_true, true_and, and_false, false_and, not_true_eq_false, not_false_eq_true]
                rw [ev] at hq
                exact hq _ _ (fun e => absurd e (Nat.succ_ne_zero _)) R.th hp_seti_at (ke0.tr (ke_.i (by decide) (by decide)))
              · first | exact absurd c59 (by decide) | exact absurd rfl c59 | exact absurd (of_decide_eq_true rfl) c59
        · refine v_if_eq 50 40 dX12_log_37 (by decide) rfl (fun c37 => ?_) (fun c37 => ?_)
          · refine v_iconstv (v := 1) 51 dX12_log_50 (by decide) rfl ?_
            refine v_goto 55 dX12_log_51 (by decide) ?_
            refine v_iconstv (v := 1) 56 dX12_log_55 (by decide) rfl ?_
            refine v_invv (d' := 0) (k' := 0) (n' := 0) (k2 := 2) (n2 := 35) 59 [_, _] dX12_log_56 mt_X12_67 mi_X12_fails me_X12_fails (by first | assumption | rfl) (by rfl) rfl rfl (of_decide_eq_true rfl) rfl (by decide) rfl rfl rfl rfl (C_f1 e0 (by decide) ?_)
            refine v_if_ne 89 62 dX12_log_59 (by decide) rfl (fun c59 => ?_) (fun c59 => ?_)
            · refine v_iconstv (v := -1) 90 dX12_log_89 (by decide) rfl ?_
              refine v_ireturn dX12_log_90 rfl ?_
              have ev : op_log S a b c e = (1, 0, S) := by unfold op_log; simp only [c11, eq_true a22, b34, ↓reduceIte, and_self, and_true, true_and, and_false, false_and, not_true_eq_false, not_false_eq_true]
              rw [ev] at hq
              exact hq _ _ (fun e => absurd e (Nat.succ_ne_zero _)) R.th hp_seti_at (ke0.tr (ke_.i (by decide) (by decide)))
            · first | exact absurd c59 (by decide) | exact absurd rfl c59 | exact absurd (of_decide_eq_true rfl) c59
          · first | exact absurd c37 (by decide) | exact absurd rfl c37 | exact absurd (of_decide_eq_true rfl) c37
    · refine v_if_eq 50 28 dX12_log_25 (by decide) rfl (fun c25 => ?_) (fun c25 => ?_)
      · refine v_iconstv (v := 1) 51 dX12_log_50 (by decide) rfl ?_
        refine v_goto 55 dX12_log_51 (by decide) ?_
        refine v_iconstv (v := 1) 56 dX12_log_55 (by decide) rfl ?_
        refine v_invv (d' := 0) (k' := 0) (n' := 0) (k2 := 2) (n2 := 35) 59 [_, _] dX12_log_56 mt_X12_67 mi_X12_fails me_X12_fails (by first | assumption | rfl) (by rfl) rfl rfl (of_decide_eq_true rfl) rfl (by decide) rfl rfl rfl rfl (C_f1 e0 (by decide) ?_)
        refine v_if_ne 89 62 dX12_log_59 (by decide) rfl (fun c59 => ?_) (fun c59 => ?_)
        · refine v_iconstv (v := -1) 90 dX12_log_89 (by decide) rfl ?_
          refine v_ireturn dX12_log_90 rfl ?_
          have ev : op_log S a b c e = (1, 0, S) := by unfold op_log; simp only [c11, b22, ↓reduceIte, and_self, and_true, true_and, and_false, false_and, not_true_eq_false, not_false_eq_true]
          rw [ev] at hq
          exact hq _ _ (fun e => absurd e (Nat.succ_ne_zero _)) R.th hp_seti_at (ke0.tr (ke_.i (by decide) (by decide)))
        · first | exact absurd c59 (by decide) | exact absurd rfl c59 | exact absurd (of_decide_eq_true rfl) c59
      · first | exact absurd c25 (by decide) | exact absurd rfl c25 | exact absurd (of_decide_eq_true rfl) c25
