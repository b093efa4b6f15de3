/-- a flitch's rows filled so far -/
def fz_ (h0 h : PH) (f : Nat) (way dia thk wd form : Int32) (k : Nat) : Prop := (∀ t, ¬ t = 30 → ¬ t = 31 → hp_te h0 h t) ∧ (∀ g, ¬ g = f → hp_tx h0 h 30 g ∧ hp_tx h0 h 31 g) ∧ hp_ln h 30 f = 24 ∧ hp_ln h 31 f = 24 ∧ ∀ l, l < k → hp_vi h 30 f l = pw_w way dia thk (nI l) ∧ hp_vi h 31 f l = pw_f way wd form (nI l)
set_option maxRecDepth 20000 in
theorem L_X0_init {G : GW} {h0 : PH} {Q : RS → PH → Prop} {f lg dd tt : Nat} {way wd form : Int32} (hw : hp_vi h0 11 lg 0 = wd_c wd) (hd : hp_vi h0 11 lg 1 = nI dd) (hf : hp_vi h0 11 lg 3 = form) (h1 : 100 ≤ dd) (h2 : dd < 1000) (ht1 : 5 ≤ tt) (ht2 : tt ≤ 30) (hy : way = 102 ∨ way = 113 ∨ way = 114 ∨ way = 115) (r4 : hp_vr h0 12 f 4 = (30, f)) (r5 : hp_vr h0 12 f 5 = (31, f)) (hq : ∀ h', fz_ h0 h' f way (nI dd) (nI tt) wd form 24 → Q (.inl none) h') : ∀ fuel : Nat, ∀ (k : Nat) (h : PH), k + fuel = 24 → fz_ h0 h f way (nI dd) (nI tt) wd form k → VV G 2 0 0 yX0_init cX0_init 5 (none) [] 65 [some (pv_O (12, f)), some (pv_O (11, lg)), some (pv_I way), some (pv_I (nI tt)), some (pv_I (nI k))] [] h Q := by
  intro fuel
  induction fuel with
  | zero =>
    intro k h hk J
    obtain rfl : k = 24 := by omega
    refine v_iload 67 dX0_init_65 rfl rfl ?_
    refine v_bipushv (v := 24) 69 dX0_init_67 (by decide) rfl ?_
    refine v_icmp_ge 125 72 dX0_init_69 (by decide) rfl (fun c69 => ?_) (fun c69 => absurd (by decide) c69)
    exact v_return dX0_init_125 rfl (hq _ J)
  | succ fuel ih =>
    intro k h hk J
    obtain ⟨J1, J2, J3, J4, J5⟩ := id J
    have hkt := Nat.mul_le_mul (show k ≤ 23 by omega) ht2
    have hk69 : k * tt / 10 ≤ 69 := by omega
    have ek : nI k * nI tt / 10 = nI (k * tt / 10) := by rw [pk_mul]; exact pk_div (d := 10) (by omega) (by decide) (by decide)
    refine v_iload 67 dX0_init_65 rfl rfl ?_
    refine v_bipushv (v := 24) 69 dX0_init_67 (by decide) rfl ?_
    refine v_icmp_ge 125 72 dX0_init_69 (by decide) rfl (fun c69 => ?_) (fun c69 => ?_)
    · exact absurd c69 (nI_ge (a := k) (b := 24) (by omega) (by decide))
    · refine v_aload_n 73 dX0_init_72 rfl rfl ?_
      refine v_getfr 76 dX0_init_73 fl_X0_9 (by first | assumption | rfl) (by rfl) rfl ?_
      rw [show hp_vr h 12 f 4 = (30, f) from by rw [(J1 12 (by decide) (by decide)).2.2.2.1]; exact r4]
      refine v_iload 78 dX0_init_76 rfl rfl ?_
      refine v_aload_n 79 dX0_init_78 rfl rfl ?_
      refine v_iload_n 80 dX0_init_79 rfl rfl ?_
      refine v_iload 82 dX0_init_80 rfl rfl ?_
      refine v_iload_n 83 dX0_init_82 rfl rfl ?_
      refine v_imul 84 dX0_init_83 rfl ?_
      refine v_bipushv (v := 10) 86 dX0_init_84 (by decide) rfl ?_
      refine v_idiv 87 dX0_init_86 (by decide) rfl ?_
      rw [ek]
      refine v_invs (d' := 1) (k' := 0) (n' := 0) (k2 := 0) (n2 := 0) 90 [_, _, _] dX0_init_87 mt_X0_48 ms_X0_cutWidth rfl rfl (of_decide_eq_true rfl) rfl (by decide) rfl rfl rfl rfl (C_X0_cutWidth (by rw [(J1 11 (by decide) (by decide)).2.2.1]; exact hd) h1 h2 hk69 hy ?_)
      refine v_iast 91 dX0_init_90 (by first | assumption | rfl) (by first | assumption | decide) (by show vp_in _ (hp_ln h 30 f); rw [J3]; exact in_nI (by omega) (by omega)) rfl ?_
      rw [nI_clamp (by omega)]
      refine v_aload_n 92 dX0_init_91 rfl rfl ?_
      refine v_getfr 95 dX0_init_92 fl_X0_15 (by first | assumption | rfl) (by rfl) rfl ?_
      rw [show hp_vr (hp_seti h 30 f k (pw_c way (nI dd) (nI (k * tt / 10)))) 12 f 5 = (31, f) from by show hp_vr h 12 f 5 = _; rw [(J1 12 (by decide) (by decide)).2.2.2.1]; exact r5]
      refine v_iload 97 dX0_init_95 rfl rfl ?_
      refine v_aload_n 98 dX0_init_97 rfl rfl ?_
      refine v_getfi 101 dX0_init_98 fl_X0_52 (by first | assumption | rfl) (by rfl) rfl ?_
      rw [show hp_vi (hp_seti h 30 f k (pw_c way (nI dd) (nI (k * tt / 10)))) 11 lg 3 = form from by show hp_vi h 11 lg 3 = _; rw [(J1 11 (by decide) (by decide)).2.2.1]; exact hf]
      refine v_invs (d' := 0) (k' := 0) (n' := 0) (k2 := 0) (n2 := 0) 104 [_] dX0_init_101 mt_X0_56 ms_X0_formFigure rfl rfl (of_decide_eq_true rfl) rfl (by decide) rfl rfl rfl rfl (C_X0_formFigure ?_)
      refine v_aload_n 105 dX0_init_104 rfl rfl ?_
      refine v_iload_n 106 dX0_init_105 rfl rfl ?_
      refine v_iload 108 dX0_init_106 rfl rfl ?_
      refine v_invs (d' := 1) (k' := 0) (n' := 0) (k2 := 0) (n2 := 0) 111 [_, _, _] dX0_init_108 mt_X0_60 ms_X0_wayFigure rfl rfl (of_decide_eq_true rfl) rfl (by decide) rfl rfl rfl rfl (C_X0_wayFigure (wd := wd) (form := form) (by show hp_vi h 11 lg 0 = _; rw [(J1 11 (by decide) (by decide)).2.2.1]; exact hw) (by show hp_vi h 11 lg 3 = _; rw [(J1 11 (by decide) (by decide)).2.2.1]; exact hf) ?_)
      refine v_iadd 112 dX0_init_111 rfl ?_
      refine v_iconstv (v := 0) 113 dX0_init_112 (by decide) rfl ?_
      refine v_bipushv (v := 99) 115 dX0_init_113 (by decide) rfl ?_
      refine v_invsN (d' := 1) (k' := 0) (n' := 0) (k2 := 0) (n2 := 0) 118 [_, _, _] dX0_init_115 mn_X0_63 md_X6_within ms_X6_within rfl rfl (of_decide_eq_true rfl) rfl (by decide) rfl rfl rfl rfl (C_X6_within ?_)
      refine v_iast 119 dX0_init_118 (by first | assumption | rfl) (by first | assumption | decide) (by show vp_in _ (hp_ln h 31 f); rw [J4]; exact in_nI (by omega) (by omega)) rfl ?_
      rw [nI_clamp (by omega)]
      refine v_iinc 122 dX0_init_119 rfl (by decide) rfl rfl ?_
      dsimp only [List.set]
      refine v_goto 65 dX0_init_122 (by decide) ?_
      rw [show nI k + Int32.ofInt 1 = nI (k + 1) from nI_1 k]
      refine ih (k + 1) _ (by omega) ⟨fun t e1 e2 => ((J1 t e1 e2).tr (hp_te.i e1)).tr (hp_te.i e2), fun g hg => ⟨((J2 g hg).1.tr (hp_tx.i (by omega))).tr (hp_tx.i (by omega)), ((J2 g hg).2.tr (hp_tx.i (by omega))).tr (hp_tx.i (by omega))⟩, J3, J4, fun l hl => ?_⟩
      by_cases q : l = k
      · subst q
        exact ⟨(hp_seti_ne (by simp)).trans (hp_seti_at.trans (by unfold pw_w; rw [ek])), hp_seti_at⟩
      · refine ⟨?_, ?_⟩
        · rw [hp_seti_ne (by simp), hp_seti_ne (fun w => q w.2.2)]; exact (J5 l (by omega)).1
        · rw [hp_seti_ne (fun w => q w.2.2), hp_seti_ne (by simp)]; exact (J5 l (by omega)).2
/-- a flitch made -/
def fn_ (h h' : PH) (f lg : Nat) (way dia thk wd form : Int32) : Prop := (∀ t, ¬ t = 12 → ¬ t = 30 → ¬ t = 31 → ¬ t = 32 → hp_te h h' t) ∧ (∀ g, ¬ g = f → hp_tx h h' 12 g ∧ hp_tx h h' 30 g ∧ hp_tx h h' 31 g ∧ hp_tx h h' 32 g) ∧ hp_al h' 12 = hp_al h 12 ∧
  (hp_vr h' 12 f 4 = (30, f) ∧ hp_vr h' 12 f 5 = (31, f) ∧ hp_vr h' 12 f 6 = (32, f) ∧ hp_ln h' 30 f = 24 ∧ hp_ln h' 31 f = 24 ∧ hp_ln h' 32 f = 24) ∧
  (hp_vi h' 12 f 0 = thk ∧ hp_vi h' 12 f 1 = hp_vi h 11 lg 2 ∧ hp_vi h' 12 f 2 = wd_s wd ∧ hp_vi h' 12 f 3 = mx 0 (mn 24 (pw_n way dia thk)) ∧ hp_vi h' 12 f 7 = hp_vi h 12 f 7) ∧
  ∀ l, l < 24 → hp_vi h' 30 f l = pw_w way dia thk (nI l) ∧ hp_vi h' 31 f l = pw_f way wd form (nI l) ∧ hp_vi h' 32 f l = 0
def fm_ (h h' : PH) (f lg : Nat) (way dia thk wd : Int32) : Prop := (∀ t, ¬ t = 12 → ¬ t = 30 → ¬ t = 31 → ¬ t = 32 → hp_te h h' t) ∧ (∀ g, ¬ g = f → hp_tx h h' 12 g ∧ hp_tx h h' 30 g ∧ hp_tx h h' 31 g ∧ hp_tx h h' 32 g) ∧ hp_al h' 12 = hp_al h 12 ∧
  (hp_vr h' 12 f 4 = (30, f) ∧ hp_vr h' 12 f 5 = (31, f) ∧ hp_vr h' 12 f 6 = (32, f) ∧ hp_ln h' 30 f = 24 ∧ hp_ln h' 31 f = 24 ∧ hp_ln h' 32 f = 24) ∧
  (hp_vi h' 12 f 0 = thk ∧ hp_vi h' 12 f 1 = hp_vi h 11 lg 2 ∧ hp_vi h' 12 f 2 = wd_s wd ∧ hp_vi h' 12 f 3 = mx 0 (mn 24 (pw_n way dia thk)) ∧ hp_vi h' 12 f 7 = hp_vi h 12 f 7) ∧ ∀ l, hp_vi h' 32 f l = 0
theorem L2_X0_init {G : GW} {h : PH} {Q : RS → PH → Prop} {f lg dd tt : Nat} {way wd form : Int32} (hw : hp_vi h 11 lg 0 = wd_c wd) (hd : hp_vi h 11 lg 1 = nI dd) (hf : hp_vi h 11 lg 3 = form) (h1 : 100 ≤ dd) (h2 : dd < 1000) (ht1 : 5 ≤ tt) (ht2 : tt ≤ 30) (hy : way = 102 ∨ way = 113 ∨ way = 114 ∨ way = 115) (hq : ∀ h', fn_ h h' f lg way (nI dd) (nI tt) wd form → Q (.inl none) h') {H0 : PH} (Z : fm_ h H0 f lg way (nI dd) (nI tt) wd) : VV G 2 0 0 yX0_init cX0_init 5 (none) [] 65 [some (pv_O (12, f)), some (pv_O (11, lg)), some (pv_I way), some (pv_I (nI tt)), some (pv_I (nI 0))] [] H0 Q := by
  obtain ⟨Z1, Z2, Z3, ⟨Z4, Z5, Z6, Z7, Z8, Z9⟩, ⟨Y1, Y2, Y3, Y4, Y5⟩, Y6⟩ := Z
  have E := Z1 11 (by decide) (by decide) (by decide) (by decide)
  refine L_X0_init (h0 := H0) (lg := lg) (wd := wd) (form := form) (dd := dd) (by rw [E.2.2.1]; exact hw) (by rw [E.2.2.1]; exact hd) (by rw [E.2.2.1]; exact hf) h1 h2 ht1 ht2 hy Z4 Z5 (fun h' J => hq h' ?_) 24 0 H0 rfl ⟨fun _ _ _ => hp_te.rf, fun _ _ => ⟨hp_tx.rf, hp_tx.rf⟩, Z7, Z8, fun l hl => absurd hl (Nat.not_lt_zero l)⟩
  obtain ⟨J1, J2, J3, J4, J5⟩ := J
  have K := J1 12 (by decide) (by decide)
  have K2 := J1 32 (by decide) (by decide)
  exact ⟨fun t t1 t2 t3 t4 => (Z1 t t1 t2 t3 t4).tr (J1 t t2 t3), fun g hg => ⟨(Z2 g hg).1.tr (K.x g), (Z2 g hg).2.1.tr (J2 g hg).1, (Z2 g hg).2.2.1.tr (J2 g hg).2, (Z2 g hg).2.2.2.tr (K2.x g)⟩, by rw [K.1, Z3], ⟨by rw [K.2.2.2.1]; exact Z4, by rw [K.2.2.2.1]; exact Z5, by rw [K.2.2.2.1]; exact Z6, J3, J4, by rw [K2.2.1]; exact Z9⟩, ⟨by rw [K.2.2.1]; exact Y1, by rw [K.2.2.1]; exact Y2, by rw [K.2.2.1]; exact Y3, by rw [K.2.2.1]; exact Y4, by rw [K.2.2.1]; exact Y5⟩, fun l hl => ⟨(J5 l hl).1, (J5 l hl).2, by rw [K2.2.2.1]; exact Y6 l⟩⟩
set_option maxRecDepth 20000 in
theorem C_X0_init {G : GW} {h : PH} {Q : RS → PH → Prop} {f lg dd tt : Nat} {way wd form : Int32} (hw : hp_vi h 11 lg 0 = wd_c wd) (hd : hp_vi h 11 lg 1 = nI dd) (hf : hp_vi h 11 lg 3 = form) (h1 : 100 ≤ dd) (h2 : dd < 1000) (ht1 : 5 ≤ tt) (ht2 : tt ≤ 30) (hy : way = 102 ∨ way = 113 ∨ way = 114 ∨ way = 115) (f3 : hp_al h 30 f = false) (f4 : hp_al h 31 f = false) (f5 : hp_al h 32 f = false) (hq : ∀ h', fn_ h h' f lg way (nI dd) (nI tt) wd form → Q (.inl none) h') : VV G 3 3 72 yX0_init cX0_init 5 (none) [] 0 (vv_en 5 [pv_O (12, f), pv_O (11, lg), pv_I way, pv_I (nI tt)]) [] h Q := by
  show VV G 3 3 72 yX0_init cX0_init 5 (none) [] 0 [some (pv_O (12, f)), some (pv_O (11, lg)), some (pv_I way), some (pv_I (nI tt)), none] [] h Q
  refine v_aload_n 1 dX0_init_0 rfl rfl ?_
  refine v_objinit 4 dX0_init_1 oi_X0_3 oi_1 oi_2 (by first | decide | (dsimp only; omega)) (by first | decide | (dsimp only; omega)) (by first | decide | (dsimp only; omega)) rfl ?_
  refine v_aload_n 5 dX0_init_4 rfl rfl ?_
  refine v_bipushv (v := 24) 7 dX0_init_5 (by decide) rfl ?_
  refine v_newarr (ty := .int) (N := 24) (k1 := 2) (n1 := 48) 9 30 f dX0_init_7 ac_int rfl (by simp [g_tys]) (by rfl) (by decide) f3 (by decide) (by decide) (by decide) rfl rfl rfl ?_
  refine v_putfr 12 dX0_init_9 pf_X0_init_9 (by first | assumption | rfl) (by first | assumption | decide) (by rfl) rfl ?_
  refine v_aload_n 13 dX0_init_12 rfl rfl ?_
  refine v_bipushv (v := 24) 15 dX0_init_13 (by decide) rfl ?_
  refine v_newarr (ty := .int) (N := 24) (k1 := 1) (n1 := 24) 17 31 f dX0_init_15 ac_int rfl (by simp [g_tys]) (by rfl) (by decide) (by simp [al_n, al_r, al_i, f4]) (by decide) (by decide) (by decide) rfl rfl rfl ?_
  refine v_putfr 20 dX0_init_17 pf_X0_init_15 (by first | assumption | rfl) (by first | assumption | decide) (by rfl) rfl ?_
  refine v_aload_n 21 dX0_init_20 rfl rfl ?_
  refine v_bipushv (v := 24) 23 dX0_init_21 (by decide) rfl ?_
  refine v_newarr (ty := .boolean) (N := 24) (k1 := 0) (n1 := 0) 25 32 f dX0_init_23 ac_boolean rfl (by simp [g_tys]) (by rfl) (by decide) (by simp [al_n, al_r, al_i, f5]) (by decide) (by decide) (by decide) rfl rfl rfl ?_
  refine v_putfr 28 dX0_init_25 pf_X0_init_18 (by first | assumption | rfl) (by first | assumption | decide) (by rfl) rfl ?_
  refine v_aload_n 29 dX0_init_28 rfl rfl ?_
  refine v_iload_n 30 dX0_init_29 rfl rfl ?_
  refine v_putfi 33 dX0_init_30 pf_X0_init_22 (by first | assumption | rfl) (by first | assumption | decide) (by rfl) rfl rfl rfl ?_
  refine v_aload_n 34 dX0_init_33 rfl rfl ?_
  refine v_aload_n 35 dX0_init_34 rfl rfl ?_
  refine v_getfi 38 dX0_init_35 fl_X0_26 (by first | assumption | rfl) (by rfl) rfl ?_
  refine v_putfi 41 dX0_init_38 pf_X0_init_31 (by first | assumption | rfl) (by first | assumption | decide) (by rfl) rfl rfl rfl ?_
  refine v_aload_n 42 dX0_init_41 rfl rfl ?_
  refine v_aload_n 43 dX0_init_42 rfl rfl ?_
  refine v_invv (d' := 0) (k' := 0) (n' := 0) (k2 := 0) (n2 := 0) 46 [] dX0_init_43 mt_X0_32 mi_X1_swelling me_X1_swelling (by first | assumption | rfl) (by rfl) rfl rfl (of_decide_eq_true rfl) rfl (by decide) rfl rfl rfl rfl (C_X1_swelling (wd := wd) (by exact hw) ?_)
  refine v_putfi 49 dX0_init_46 pf_X0_init_36 (by first | assumption | rfl) (by first | assumption | decide) (by rfl) rfl rfl rfl ?_
  refine v_aload_n 50 dX0_init_49 rfl rfl ?_
  refine v_aload_n 51 dX0_init_50 rfl rfl ?_
  refine v_invv (d' := 0) (k' := 0) (n' := 0) (k2 := 0) (n2 := 0) 54 [] dX0_init_51 mt_X0_38 mi_X1_radius me_X1_radius (by first | assumption | rfl) (by rfl) rfl rfl (of_decide_eq_true rfl) rfl (by decide) rfl rfl rfl rfl (C_X1_radius ?_)
  refine v_iload_n 55 dX0_init_54 rfl rfl ?_
  refine v_iload_n 56 dX0_init_55 rfl rfl ?_
  refine v_invs (d' := 2) (k' := 0) (n' := 0) (k2 := 0) (n2 := 0) 59 [_, _, _] dX0_init_56 mt_X0_41 ms_X0_countLeaves rfl rfl (of_decide_eq_true rfl) rfl (by decide) rfl rfl rfl rfl (C_X0_countLeaves (nI_lt (a := 0) (by omega) (by omega)) ?_)
  refine v_putfi 62 dX0_init_59 pf_X0_init_45 (by first | assumption | rfl) (by first | assumption | decide) (by rfl) rfl rfl rfl ?_
  refine v_iconstv (v := 0) 63 dX0_init_62 (by decide) rfl ?_
  refine v_istore 65 dX0_init_63 (by decide) rfl rfl ?_
  dsimp only [List.set]
  refine VV.less (by decide) (by decide) (by decide) (L2_X0_init hw hd hf h1 h2 ht1 ht2 hy hq ⟨fun t t1 t2 t3 t4 => (by repeat' first | exact hp_te.rf | refine hp_te.tr ?_ (hp_te.i (by first | decide | omega)) | refine hp_te.tr ?_ (hp_te.r (by first | decide | omega)) | refine hp_te.tr ?_ (hp_te.n (by first | decide | omega))), fun g hg => ⟨(by repeat' first | exact hp_tx.rf | refine hp_tx.tr ?_ (hp_tx.i (by omega)) | refine hp_tx.tr ?_ (hp_tx.r (by omega)) | refine hp_tx.tr ?_ (hp_tx.n (by omega))), (by repeat' first | exact hp_tx.rf | refine hp_tx.tr ?_ (hp_tx.i (by omega)) | refine hp_tx.tr ?_ (hp_tx.r (by omega)) | refine hp_tx.tr ?_ (hp_tx.n (by omega))), (by repeat' first | exact hp_tx.rf | refine hp_tx.tr ?_ (hp_tx.i (by omega)) | refine hp_tx.tr ?_ (hp_tx.r (by omega)) | refine hp_tx.tr ?_ (hp_tx.n (by omega))), (by repeat' first | exact hp_tx.rf | refine hp_tx.tr ?_ (hp_tx.i (by omega)) | refine hp_tx.tr ?_ (hp_tx.r (by omega)) | refine hp_tx.tr ?_ (hp_tx.n (by omega)))⟩, rfl, ⟨?_, ?_, ?_, ?_, ?_, ?_⟩, ⟨?_, ?_, ?_, ?_, ?_⟩, fun l => ?_⟩)
  all_goals try (simp [vr_i, vr_r, vr_n, ln_i, ln_r, ln_n, vi_i, vi_r, vi_n]; done)
  rw [hp_seti_at, ← hd]
  rfl
