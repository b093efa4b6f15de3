theorem Rp1.gl {S S' : SP} {h h' : PH} (R : Rp1 S h) (te : ∀ t, ¬ t = 10 → hp_te h h' t) (F : ∀ t, ¬ t = 40 → hp_te S.1 S'.1 t) (c : S'.2 = S.2) (Z : q1_0 S' h') : Rp1 S' h' := by
  obtain ⟨R0, RL, R1, R2, R3, R4, R5⟩ := R
  exact ⟨Z, RL.te (fun t ht => te t (by omega)) c, R1.te (te _ (by decide)) (F _ (by decide)) (by rw [c]), R2.te (te _ (by decide)) (te _ (by decide)) (te _ (by decide)) (te _ (by decide)) (F _ (by decide)) (F _ (by decide)) (F _ (by decide)) (by rw [c]), R3.te (te _ (by decide)) (te _ (by decide)) (te _ (by decide)) (F _ (by decide)) (F _ (by decide)) (F _ (by decide)) (F _ (by decide)) (by rw [c]) (fun _ _ => by rw [c]), R4.te (te _ (by decide)) (te _ (by decide)) (te _ (by decide)) (te _ (by decide)) (te _ (by decide)) (te _ (by decide)) (F _ (by decide)) (F _ (by decide)) (F _ (by decide)) (F _ (by decide)) (by rw [c]) (fun _ _ => by rw [c]; exact ⟨rfl, rfl⟩), R5.te (te _ (by decide)) (F _ (by decide)) c⟩
/-- the waste grows -/
def ws_up (S : SP) (x : Int32) : SP := (hp_seti S.1 40 0 10 (hp_vi S.1 40 0 10 + x), S.2)
set_option maxRecDepth 20000 in
theorem L_X6_layOn {G : GW} {h0 : PH} {Q : RS → PH → Prop} {S : SP} {p t f a m : Nat} {st ht r0 : Int32} (ht9 : 16 ≤ t ∧ t ≤ 18) (hk7 : tg_k t = some (.inl 7)) (p0 : hp_vi h0 13 p 1 = ht) (p1 : hp_vr h0 t p 0 = (12, f)) (p2 : hp_vi h0 t p 1 = nI a) (p3 : hp_vi h0 t p 2 = nI m) (hf : f < nn_ S 1) (n24 : s_n S f ≤ 24) (ham : a + m ≤ s_n S f) (hm8 : m ≤ 8) (hc5 : nn_ S 5 ≤ nn_ S 4) (hc4 : nn_ S 4 ≤ 128) (ho : ∀ i, i < nn_ S 5 → S.2.2 i < nn_ S 4) (hq : ∀ h', Rp1 (ws_up (ls_ S f a st ht r0 m).1 (ls_ S f a st ht r0 m).2) h' → (∀ t, ¬ t = 10 → ¬ t = 15 → ¬ t = 24 → ¬ t = 29 → hp_te h0 h' t) → Q (.inl (some (pv_I (ls_ S f a st ht r0 m).2))) h') : ∀ fuel : Nat, ∀ (k : Nat) (z6 z7 : Option PV) (h : PH), k + fuel = m → Rp1 (ls_ S f a st ht r0 k).1 h → (∀ t, ¬ t = 15 → ¬ t = 24 → ¬ t = 29 → hp_te h0 h t) → VV G 8 (2 * fuel) (232 * fuel) yX6_layOn cX6_layOn 8 (some .int) [] 34 [some (pv_O (10, 0)), some (pv_O (13, p)), some (pv_O (t, p)), some (pv_I st), some (pv_I (ls_ S f a st ht r0 k).2), some (pv_I (nI k)), z6, z7] [] h Q := by
  intro fuel
  induction fuel with
  | zero =>
    intro k z6 z7 h hk9 R te
    obtain rfl : m = k := by omega
    have E := te t (by omega) (by omega) (by omega)
    have E3 := te 13 (by decide) (by decide) (by decide)
    refine v_iload 36 dX6_layOn_34 rfl rfl ?_
    refine v_aload_n 37 dX6_layOn_36 rfl rfl ?_
    refine v_getfi 40 dX6_layOn_37 fl_X6_177 (by first | assumption | rfl) (by rfl) rfl ?_
    rw [show hp_vi h t p 2 = nI m from by rw [E.2.2.1]; exact p3]
    refine v_icmp_ge 109 43 dX6_layOn_40 (by decide) rfl (fun c40 => ?_) (fun c40 => ?_)
    · refine v_aload_n 110 dX6_layOn_109 rfl rfl ?_
      refine v_dup 111 dX6_layOn_110 rfl rfl ?_
      refine v_getfi 114 dX6_layOn_111 fl_X6_270 (by first | assumption | rfl) (by rfl) rfl ?_
      rw [R.1.2.2.2.2.2.2]
      refine v_iload 116 dX6_layOn_114 rfl rfl ?_
      refine v_iadd 117 dX6_layOn_116 rfl ?_
      refine v_putfi 120 dX6_layOn_117 pf_X6_layOn_270 (by first | assumption | rfl) (by first | assumption | decide) (by rfl) rfl rfl rfl ?_
      refine v_iload 122 dX6_layOn_120 rfl rfl ?_
      refine v_ireturn dX6_layOn_122 rfl ?_
      refine hq _ (R.gl (fun t ht => hp_te.i ht) (fun t ht => hp_te.i ht) rfl ?_) (fun t t1 t2 t3 t4 => (te t t2 t3 t4).tr (hp_te.i t1))
      obtain ⟨r0, r1, r2, r3, r4, r5, r6⟩ := R.1
      refine ⟨r0, ?_, ?_, ?_, ?_, ?_, ?_⟩
      · exact (hp_seti_ne (by simp)).trans (r1.trans (hp_seti_ne (by simp)).symm)
      · exact (hp_seti_ne (by simp)).trans (r2.trans (hp_seti_ne (by simp)).symm)
      · exact (hp_seti_ne (by simp)).trans (r3.trans (hp_seti_ne (by simp)).symm)
      · exact (hp_seti_ne (by simp)).trans (r4.trans (hp_seti_ne (by simp)).symm)
      · exact (hp_seti_ne (by simp)).trans (r5.trans (hp_seti_ne (by simp)).symm)
      · exact hp_seti_at.trans hp_seti_at.symm
    · exact absurd (nI_le (Nat.le_refl _) (by omega)) c40
  | succ fuel ih =>
    intro k z6 z7 h hk9 R te
    obtain ⟨R0, RL, R1, R2, R3, R4, R5⟩ := id R
    have E := te t (by omega) (by omega) (by omega)
    have E3 := te 13 (by decide) (by decide) (by decide)
    obtain ⟨hb1, hb2, hb3, hb4⟩ := ls_c S f a st ht r0 k
    have hf2 : f < nn_ (ls_ S f a st ht r0 k).1 1 := by show f < (ls_ S f a st ht r0 k).1.2.1 1; rw [hb1 1 (by decide) (by decide)]; exact hf
    have F2 := R2.1 f hf2
    have en : s_n (ls_ S f a st ht r0 k).1 f = s_n S f := by show hp_ln (ls_ S f a st ht r0 k).1.1 62 f = _; rw [(ls_te S f a st ht r0 (t := 62) (by decide) k).2.1]
    obtain ⟨cap, LL⟩ := id RL.2.2.2.2
    refine v_iload 36 dX6_layOn_34 rfl rfl ?_
    refine v_aload_n 37 dX6_layOn_36 rfl rfl ?_
    refine v_getfi 40 dX6_layOn_37 fl_X6_177 (by first | assumption | rfl) (by rfl) rfl ?_
    rw [show hp_vi h t p 2 = nI m from by rw [E.2.2.1]; exact p3]
    refine v_icmp_ge 109 43 dX6_layOn_40 (by decide) rfl (fun c40 => ?_) (fun c40 => ?_)
    · exact absurd c40 (nI_ge (a := k) (b := m) (by omega) (by omega))
    · refine v_aload_n 44 dX6_layOn_43 rfl rfl ?_
      refine v_getfr 47 dX6_layOn_44 fl_X6_366 (by first | assumption | rfl) (by rfl) rfl ?_
      rw [show hp_vr h t p 0 = (12, f) from by rw [E.2.2.2.1]; exact p1]
      refine v_aload_n 48 dX6_layOn_47 rfl rfl ?_
      refine v_getfi 51 dX6_layOn_48 fl_X6_370 (by first | assumption | rfl) (by rfl) rfl ?_
      rw [show hp_vi h t p 1 = nI a from by rw [E.2.2.1]; exact p2]
      refine v_iload 53 dX6_layOn_51 rfl rfl ?_
      refine v_iadd 54 dX6_layOn_53 rfl ?_
      rw [nI_add]
      refine v_invv (d' := 1) (k' := 0) (n' := 0) (k2 := (2 * fuel + 2)) (n2 := (232 * fuel + 232)) 57 [_] dX6_layOn_54 mt_X6_92 mi_X0_widthOf me_X0_widthOf (by first | assumption | rfl) (by rfl) rfl rfl (of_decide_eq_true rfl) rfl (by decide) rfl rfl rfl rfl (C_X0_widthOf F2 (by rw [en]; exact n24) ?_)
      rw [if_pos (by rw [en]; exact ok_i.of (by omega) (by omega)), (s_w_te (S := S) (S' := (ls_ S f a st ht r0 k).1) (f := f) (l := nI (a + k)) (ls_te S f a st ht r0 (by decide) k) (ls_te S f a st ht r0 (by decide) k)).1]
      refine v_iload_n 58 dX6_layOn_57 rfl rfl ?_
      refine v_isub 59 dX6_layOn_58 rfl ?_
      refine v_istore 61 dX6_layOn_59 (by decide) rfl rfl ?_
      dsimp only [List.set]
      refine v_iload 63 dX6_layOn_61 rfl rfl ?_
      refine v_bipushv (v := 50) 65 dX6_layOn_63 (by decide) rfl ?_
      refine v_icmp_lt 103 68 dX6_layOn_65 (by decide) rfl (fun c65 => ?_) (fun c65 => ?_)
      · have er : ls_ S f a st ht r0 (k + 1) = ls_ S f a st ht r0 k := if_neg (Int32.not_le.mpr c65)
        refine v_iinc 106 dX6_layOn_103 rfl (by decide) rfl rfl ?_
        dsimp only [List.set]
        refine v_goto 34 dX6_layOn_106 (by decide) ?_
        rw [show nI k + Int32.ofInt 1 = nI (k + 1) from nI_1 k]
        have X := fun z6 z7 => ih (k + 1) z6 z7 h (by omega)
        rw [er] at X
        exact VV.less (Nat.le_refl _) (by omega) (by omega) (X _ _ R te)
      · have er : ls_ S f a st ht r0 (k + 1) = (oc_up (ls_ S f a st ht r0 k).1 (s_w S f (nI (a + k)) - st) ht, (ls_ S f a st ht r0 k).2 - (s_w S f (nI (a + k)) - st) * ht) := if_pos (Int32.not_lt.mp c65)
        refine v_new (k1 := (2 * fuel + 1)) (n1 := (232 * fuel + 230)) 71 15 (nn_ (ls_ S f a st ht r0 k).1 4) dX6_layOn_68 nw_X6_296 (by rfl) (by decide) (R5.2 _ (Nat.le_refl _)) rfl rfl rfl ?_
        refine v_dup 72 dX6_layOn_71 rfl rfl ?_
        refine v_iload 74 dX6_layOn_72 rfl rfl ?_
        refine v_aload_n 75 dX6_layOn_74 rfl rfl ?_
        refine v_getfi 78 dX6_layOn_75 fl_X6_358 (by first | assumption | rfl) (by rfl) rfl ?_
        rw [show hp_vi (hp_new h 15 (nn_ (ls_ S f a st ht r0 k).1 4) 0) 13 p 1 = ht from by show hp_vi h 13 p 1 = ht; rw [E3.2.2.1]; exact p0]
        refine v_invi (d' := 1) (k' := 0) (n' := 0) (k2 := (2 * fuel + 1)) (n2 := (232 * fuel + 230)) 81 [_, _] dX6_layOn_78 mt_X6_373 mi_X2_init rfl rfl (by first | assumption | rfl) rfl rfl (of_decide_eq_true rfl) rfl (by decide) rfl rfl rfl rfl (C_X2_init ?_)
        refine v_astore 83 dX6_layOn_81 (by decide) rfl rfl ?_
        dsimp only [List.set]
        refine v_aload_n 84 dX6_layOn_83 rfl rfl ?_
        refine v_getfr 87 dX6_layOn_84 fl_X6_25 (by first | assumption | rfl) (by rfl) rfl ?_
        rw [show hp_vr (hp_seti (hp_seti (hp_new h 15 (nn_ (ls_ S f a st ht r0 k).1 4) 0) 15 (nn_ (ls_ S f a st ht r0 k).1 4) 0 (s_w S f (nI (a + k)) - st)) 15 (nn_ (ls_ S f a st ht r0 k).1 4) 1 ht) 10 0 4 = (24, 0) from R0.1.2.2.2.2.2]
        refine v_aload 89 dX6_layOn_87 rfl rfl ?_
        refine v_invv (d' := 6) (k' := 1) (n' := 230) (k2 := (2 * fuel)) (n2 := (232 * fuel)) 92 [_] dX6_layOn_89 mt_X6_59 mi_Jx4a65c_add_9ea2d me_Jx4a65c_add_9ea2d (by first | assumption | rfl) (by rfl) rfl rfl (of_decide_eq_true rfl) rfl (by decide) rfl rfl rfl rfl (C_add (tl := 24) (ta := 29) (f := fun k9 => (15, (ls_ S f a st ht r0 k).1.2.2 k9)) rfl rfl (LL.te (by repeat' first | exact hp_te.rf | refine hp_te.tr ?_ (hp_te.i (by first | decide | omega)) | refine hp_te.tr ?_ (hp_te.r (by first | decide | omega)) | refine hp_te.tr ?_ (hp_te.n (by first | decide | omega))) (by repeat' first | exact hp_te.rf | refine hp_te.tr ?_ (hp_te.i (by first | decide | omega)) | refine hp_te.tr ?_ (hp_te.r (by first | decide | omega)) | refine hp_te.tr ?_ (hp_te.n (by first | decide | omega))) (by repeat' first | exact hp_te.rf | refine hp_te.tr ?_ (hp_te.i (by first | decide | omega)) | refine hp_te.tr ?_ (hp_te.r (by first | decide | omega)) | refine hp_te.tr ?_ (hp_te.n (by first | decide | omega)))) (by decide) (by decide) (by decide) (by decide) (by decide) ob_15 (by omega) (fun k hk => Or.inr ob_15) (by omega) (fun h' cap' L9 te9 tx9 => ?_))
        have v15 : hp_vi h' 15 (nn_ (ls_ S f a st ht r0 k).1 4) 0 = s_w S f (nI (a + k)) - st ∧ hp_vi h' 15 (nn_ (ls_ S f a st ht r0 k).1 4) 1 = ht := by
          rw [(te9 15 (by decide) (by decide)).2.2.1]
          exact ⟨by simp [vi_i], by simp [vi_i]⟩
        refine v_pop 93 dX6_layOn_92 rfl rfl ?_
        refine v_iload 95 dX6_layOn_93 rfl rfl ?_
        refine v_aload 97 dX6_layOn_95 rfl rfl ?_
        refine v_invv (d' := 0) (k' := 0) (n' := 0) (k2 := (2 * fuel)) (n2 := (232 * fuel)) 100 [] dX6_layOn_97 mt_X6_314 mi_X2_surface me_X2_surface (by first | assumption | rfl) (by rfl) rfl rfl (of_decide_eq_true rfl) rfl (by decide) rfl rfl rfl rfl (C_X2_surface ?_)
        rw [v15.1, v15.2]
        refine v_isub 101 dX6_layOn_100 rfl ?_
        refine v_istore 103 dX6_layOn_101 (by decide) rfl rfl ?_
        dsimp only [List.set]
        refine v_iinc 106 dX6_layOn_103 rfl (by decide) rfl rfl ?_
        dsimp only [List.set]
        refine v_goto 34 dX6_layOn_106 (by decide) ?_
        rw [show nI k + Int32.ofInt 1 = nI (k + 1) from nI_1 k]
        have X := fun z6 z7 => ih (k + 1) z6 z7 h' (by omega)
        rw [er] at X
        refine X _ _ (R.oc (hb4 ho) (fun t t1 t2 t3 => hp_te.tr (by repeat' first | exact hp_te.rf | refine hp_te.tr ?_ (hp_te.i (by first | decide | omega)) | refine hp_te.tr ?_ (hp_te.r (by first | decide | omega)) | refine hp_te.tr ?_ (hp_te.n (by first | decide | omega))) (te9 t t2 t3)) ⟨_, L9.f (fun k9 hk9 => ?_)⟩ (fun i hi => hp_tx.tr (by repeat' first | exact hp_tx.rf | refine hp_tx.tr ?_ (hp_tx.i (by omega)) | refine hp_tx.tr ?_ (hp_tx.r (by omega)) | refine hp_tx.tr ?_ (hp_tx.n (by omega))) ((te9 15 (by decide) (by decide)).x i)) ⟨?_, v15.1, v15.2⟩) (fun t t1 t2 t3 => (te t t1 t2 t3).tr (hp_te.tr (by repeat' first | exact hp_te.rf | refine hp_te.tr ?_ (hp_te.i (by first | decide | omega)) | refine hp_te.tr ?_ (hp_te.r (by first | decide | omega)) | refine hp_te.tr ?_ (hp_te.n (by first | decide | omega))) (te9 t t2 t3)))
        · show (if k9 = nn_ (ls_ S f a st ht r0 k).1 5 then (15, nn_ (ls_ S f a st ht r0 k).1 4) else (15, (ls_ S f a st ht r0 k).1.2.2 k9)) = (15, if k9 = nn_ (ls_ S f a st ht r0 k).1 5 then nn_ (ls_ S f a st ht r0 k).1 4 else (ls_ S f a st ht r0 k).1.2.2 k9)
          split <;> rfl
        · rw [(te9 15 (by decide) (by decide)).1]; exact hp_new_al0 (n := 0)
