/-- all these leaves are free and so wide at least -/
abbrev fr_ok (S : SP) (f a m : Nat) (least : Int32) : Prop := ∀ k, k < m → hp_vi S.1 62 f (a + k) = 0 ∧ least ≤ s_w S f (nI (a + k))
/-- one leaf used, in the state -/
def sv_ (S : SP) (f l : Nat) : SP := (hp_seti S.1 62 f l 1, S.2)
def su_ (S : SP) (f a : Nat) : Nat → SP
  | 0 => S
  | k + 1 => sv_ (su_ S f a k) f (a + k)
def sm_a (S : SP) (f a : Nat) : Nat → Int32
  | 0 => 0
  | k + 1 => sm_a S f a k + s_a S f (nI (a + k))
theorem su_te (S : SP) (f a : Nat) {t : Nat} (ht : t ≠ 62) : ∀ k, hp_te S.1 (su_ S f a k).1 t
  | 0 => hp_te.rf
  | k + 1 => (su_te S f a ht k).tr (hp_te.i ht)
theorem su_n (S : SP) (f a g : Nat) : ∀ k, s_n (su_ S f a k) g = s_n S g
  | 0 => rfl
  | k + 1 => su_n S f a g k
theorem su_al (S : SP) (f a g : Nat) : ∀ k, hp_al (su_ S f a k).1 62 g = hp_al S.1 62 g
  | 0 => rfl
  | k + 1 => su_al S f a g k
theorem su_2 (S : SP) (f a : Nat) : ∀ k, (su_ S f a k).2 = S.2
  | 0 => rfl
  | k + 1 => su_2 S f a k
theorem su_v (S : SP) (f a : Nat) : ∀ k g l, hp_vi (su_ S f a k).1 62 g l = if g = f ∧ a ≤ l ∧ l < a + k then 1 else hp_vi S.1 62 g l
  | 0, g, l => by rw [if_neg (by omega)]; rfl
  | k + 1, g, l => by
    show hp_vi (hp_seti (su_ S f a k).1 62 f (a + k) 1) 62 g l = _
    by_cases e : g = f ∧ l = a + k
    · obtain ⟨rfl, rfl⟩ := e
      rw [hp_seti_at, if_pos ⟨rfl, by omega, by omega⟩]
    · rw [hp_seti_ne (fun q => e q.2), su_v S f a k g l]
      by_cases e2 : g = f ∧ a ≤ l ∧ l < a + k
      · rw [if_pos e2, if_pos ⟨e2.1, e2.2.1, by omega⟩]
      · rw [if_neg e2, if_neg (fun q => e2 ⟨q.1, q.2.1, by
          rcases Nat.lt_or_ge l (a + k) with w | w
          · exact w
          · exact absurd ⟨q.1, by omega⟩ e⟩)]
theorem s_w_te {S S' : SP} {f : Nat} {l : Int32} (e1 : hp_te S.1 S'.1 41) (e2 : hp_te S.1 S'.1 42) : s_w S' f l = s_w S f l ∧ s_f S' f l = s_f S f l ∧ s_a S' f l = s_a S f l ∧ s_lg S' f = s_lg S f := by
  have h0 : s_lg S' f = s_lg S f := by show (hp_vr S'.1 42 f 0).2 = _; rw [e2.2.2.2.1]
  have h1 : s_w S' f l = s_w S f l := by unfold s_w; rw [h0, e1.2.2.1, e2.2.2.1]
  exact ⟨h1, by unfold s_f; rw [h0, e1.2.2.1, e2.2.2.1], by unfold s_a; rw [h1, h0, e1.2.2.1], h0⟩
theorem s_uc_up {S : SP} {f l : Nat} (h0 : hp_vi S.1 62 f l = 0) : ∀ n, s_uc (sv_ S f l) f n = s_uc S f n + (if l < n then 1 else 0)
  | 0 => rfl
  | n + 1 => by
    show s_uc (sv_ S f l) f n + (if hp_vi (hp_seti S.1 62 f l 1) 62 f n = 0 then 0 else 1) = s_uc S f n + (if hp_vi S.1 62 f n = 0 then 0 else 1) + _
    rw [s_uc_up h0 n]
    by_cases e : n = l
    · subst e
      rw [hp_seti_at, h0, if_neg (show ¬ (1 : Int32) = 0 by decide), if_pos rfl, if_neg (show ¬ n < n by omega), if_pos (show n < n + 1 by omega)]
    · rw [hp_seti_ne (fun q => e q.2.2)]
      by_cases e2 : l < n
      · rw [if_pos e2, if_pos (show l < n + 1 by omega)]; omega
      · rw [if_neg e2, if_neg (show ¬ l < n + 1 by omega)]; omega
theorem s_uc_ne {S : SP} {f g l : Nat} (h0 : g ≠ f) : ∀ n, s_uc (sv_ S f l) g n = s_uc S g n
  | 0 => rfl
  | n + 1 => by
    show s_uc (sv_ S f l) g n + (if hp_vi (hp_seti S.1 62 f l 1) 62 g n = 0 then 0 else 1) = s_uc S g n + (if hp_vi S.1 62 g n = 0 then 0 else 1)
    rw [s_uc_ne h0 n, hp_seti_ne (fun q => h0 q.2.1)]
theorem q1_2.use {S : SP} {h : PH} {f l : Nat} (R : q1_2 S h) (hf : f < nn_ S 1) (hl : l < s_n S f) (h0 : hp_vi S.1 62 f l = 0) : q1_2 (sv_ S f l) (hp_seti (hp_seti h 32 f l 1) 12 f 7 (hp_vi h 12 f 7 + 1)) := by
  refine ⟨fun g hg => ?_, fun g hg => R.2 g hg⟩
  obtain ⟨a1, ⟨b0, b1, b2, b3, b4⟩, c1⟩ := R.1 g hg
  have E := fun l9 => s_w_te (S := S) (S' := sv_ S f l) (f := g) (l := l9) (hp_te.i (by decide)) (hp_te.i (by decide))
  refine ⟨a1, ⟨?_, ?_, ?_, ?_, ?_⟩, fun l9 h9 => ?_⟩
  · rw [hp_seti_ne (by simp)]; exact b0
  · rw [hp_seti_ne (by simp), (E 0).2.2.2]; exact b1
  · rw [hp_seti_ne (by simp), (E 0).2.2.2]; exact b2
  · rw [hp_seti_ne (by simp)]; exact b3
  · show hp_vi (hp_seti _ 12 f 7 _) 12 g 7 = nI (s_uc (sv_ S f l) g (s_n S g))
    by_cases e : g = f
    · subst e
      rw [hp_seti_at, s_uc_up h0, if_pos hl, b4, nI_1]
    · rw [hp_seti_ne (fun q => e q.2.1), s_uc_ne e]; exact b4
  · rw [(E _).1, (E _).2.1]
    refine ⟨(c1 l9 h9).1, (c1 l9 h9).2.1, ?_⟩
    show hp_vi (hp_seti h 32 f l 1) 32 g l9 = hp_vi (hp_seti S.1 62 f l 1) 62 g l9
    by_cases e : g = f ∧ l9 = l
    · obtain ⟨rfl, rfl⟩ := e
      rw [hp_seti_at, hp_seti_at]
    · rw [hp_seti_ne (fun q => e q.2), hp_seti_ne (fun q => e q.2)]; exact (c1 l9 h9).2.2
set_option maxRecDepth 20000 in
theorem L_X0_isFree {G : GW} {h : PH} {Q : RS → PH → Prop} {S : SP} {f a m : Nat} {least : Int32} (F : fl_1 S h f) (hn : s_n S f ≤ 24) (hI : ∀ l, hp_vi S.1 62 f l = 0 ∨ hp_vi S.1 62 f l = 1) (ham : a + m ≤ s_n S f) (hq : Q (.inl (some (pv_I (if fr_ok S f a m least then 1 else 0)))) h) : ∀ fuel : Nat, ∀ (k : Nat) (z5 : Option PV), k ≤ m → m - k < fuel → fr_ok S f a k least → VV G 1 0 0 yX0_isFree cX0_isFree 6 (some .boolean) [] 3 [some (pv_O (12, f)), some (pv_I (nI a)), some (pv_I (nI m)), some (pv_I least), some (pv_I (nI k)), z5] [] h Q := by
  intro fuel
  induction fuel with
  | zero =>
    intro k z5 h1 h2
    omega
  | succ fuel ih =>
    intro k z5 h1 h2 hfr
    obtain ⟨⟨a0, a4, a5, a6, b0, b1, b2⟩, e9, e8⟩ := id F
    refine v_iload 5 dX0_isFree_3 rfl rfl ?_
    refine v_iload_n 6 dX0_isFree_5 rfl rfl ?_
    refine v_icmp_ge 53 9 dX0_isFree_6 (by decide) rfl (fun c6 => ?_) (fun c6 => ?_)
    · have hkm : k = m := by
        rcases Nat.lt_or_ge k m with q | q
        · exact absurd c6 (nI_ge q (by omega))
        · omega
      subst hkm
      rw [if_pos hfr] at hq
      refine v_iconstv (v := 1) 54 dX0_isFree_53 (by decide) rfl ?_
      refine v_zreturn (ty := .boolean) (by first | rfl | decide | exact nz_if | exact nz_fi) dX0_isFree_54 rfl ?_
      exact hq
    · have hkm : k < m := by
        rcases Nat.lt_or_ge k m with q | q
        · exact q
        · exact absurd (nI_le q (by omega)) c6
      obtain ⟨w1, w2, w3⟩ := e8 (a + k) (by omega)
      refine v_iload_n 10 dX0_isFree_9 rfl rfl ?_
      refine v_iload 12 dX0_isFree_10 rfl rfl ?_
      refine v_iadd 13 dX0_isFree_12 rfl ?_
      rw [nI_add]
      refine v_istore 15 dX0_isFree_13 (by decide) rfl rfl ?_
      dsimp only [List.set]
      refine v_aload_n 16 dX0_isFree_15 rfl rfl ?_
      refine v_iload 18 dX0_isFree_16 rfl rfl ?_
      refine v_invv (d' := 0) (k' := 0) (n' := 0) (k2 := 0) (n2 := 0) 21 [_] dX0_isFree_18 mt_X0_82 mi_X0_hasLeaf me_X0_hasLeaf (by first | assumption | rfl) (by rfl) rfl rfl (of_decide_eq_true rfl) rfl (by decide) rfl rfl rfl rfl (C_X0_hasLeaf F hn ?_)
      rw [if_pos (ok_i.of (n := s_n S f) (show a + k < s_n S f by omega) (by omega))]
      refine v_if_eq 45 24 dX0_isFree_21 (by decide) rfl (fun c21 => ?_) (fun c21 => ?_)
      · exact absurd c21 (by decide)
      · refine v_aload_n 25 dX0_isFree_24 rfl rfl ?_
        refine v_getfr 28 dX0_isFree_25 fl_X0_18 (by first | assumption | rfl) (by rfl) rfl ?_
        rw [a6]
        refine v_iload 30 dX0_isFree_28 rfl rfl ?_
        refine v_zald 31 dX0_isFree_30 (by first | assumption | rfl) (by show vp_in _ (hp_ln h 32 f); rw [b2]; exact in_nI (by omega) (by omega)) rfl ?_
        rw [nI_clamp (by omega), w3]
        refine v_if_ne 45 34 dX0_isFree_31 (by decide) rfl (fun c31 => ?_) (fun c31 => ?_)
        · rw [if_neg (fun q : fr_ok S f a m least => c31 (q k hkm).1)] at hq
          refine v_iconstv (v := 0) 46 dX0_isFree_45 (by decide) rfl ?_
          refine v_zreturn (ty := .boolean) (by first | rfl | decide | exact nz_if | exact nz_fi) dX0_isFree_46 rfl ?_
          exact hq
        · skip
          refine v_aload_n 35 dX0_isFree_34 rfl rfl ?_
          refine v_getfr 38 dX0_isFree_35 fl_X0_9 (by first | assumption | rfl) (by rfl) rfl ?_
          rw [a4]
          refine v_iload 40 dX0_isFree_38 rfl rfl ?_
          refine v_iald 41 dX0_isFree_40 (by first | assumption | rfl) (by show vp_in _ (hp_ln h 30 f); rw [b0]; exact in_nI (by omega) (by omega)) rfl ?_
          rw [nI_clamp (by omega), w1]
          refine v_iload_n 42 dX0_isFree_41 rfl rfl ?_
          refine v_icmp_ge 47 45 dX0_isFree_42 (by decide) rfl (fun c42 => ?_) (fun c42 => ?_)
          · have hk1 : fr_ok S f a (k + 1) least := by
              intro j hj
              rcases Nat.lt_or_ge j k with q | q
              · exact hfr j q
              · obtain rfl : j = k := by omega
                exact ⟨c31, c42⟩
            refine v_iinc 50 dX0_isFree_47 rfl (by decide) rfl rfl ?_
            dsimp only [List.set]
            refine v_goto 3 dX0_isFree_50 (by decide) ?_
            rw [show nI k + Int32.ofInt 1 = nI (k + 1) from nI_1 k]
            exact ih (k + 1) _ (by omega) (by omega) hk1
          · rw [if_neg (fun q : fr_ok S f a m least => c42 (q k hkm).2)] at hq
            refine v_iconstv (v := 0) 46 dX0_isFree_45 (by decide) rfl ?_
            refine v_zreturn (ty := .boolean) (by first | rfl | decide | exact nz_if | exact nz_fi) dX0_isFree_46 rfl ?_
            exact hq
set_option maxRecDepth 20000 in
theorem C_X0_isFree {G : GW} {h : PH} {Q : RS → PH → Prop} {S : SP} {f a m : Nat} {least : Int32} (F : fl_1 S h f) (hn : s_n S f ≤ 24) (hI : ∀ l, hp_vi S.1 62 f l = 0 ∨ hp_vi S.1 62 f l = 1) (ham : a + m ≤ s_n S f) (hq : Q (.inl (some (pv_I (if fr_ok S f a m least then 1 else 0)))) h) : VV G 1 0 0 yX0_isFree cX0_isFree 6 (some .boolean) [] 0 (vv_en 6 [pv_O (12, f), pv_I (nI a), pv_I (nI m), pv_I least]) [] h Q := by
  show VV G 1 0 0 yX0_isFree cX0_isFree 6 (some .boolean) [] 0 [some (pv_O (12, f)), some (pv_I (nI a)), some (pv_I (nI m)), some (pv_I least), none, none] [] h Q
  refine v_iconstv (v := 0) 1 dX0_isFree_0 (by decide) rfl ?_
  refine v_istore 3 dX0_isFree_1 (by decide) rfl rfl ?_
  dsimp only [List.set]
  exact L_X0_isFree F hn hI ham hq (m + 1) 0 _ (Nat.zero_le _) (by omega) (fun j hj => absurd hj (Nat.not_lt_zero j))
set_option maxRecDepth 20000 in
theorem L_X0_use {G : GW} {h0 : PH} {Q : RS → PH → Prop} {S : SP} {f a m : Nat} (hf : f < nn_ S 1) (hn : s_n S f ≤ 24) (ham : a + m ≤ s_n S f) (hfree : ∀ k, k < m → hp_vi S.1 62 f (a + k) = 0) (hq : ∀ h', q1_2 (su_ S f a m) h' → (∀ t, t ≠ 12 → t ≠ 32 → hp_te h0 h' t) → Q (.inl (some (pv_I (sm_a S f a m)))) h') : ∀ fuel : Nat, ∀ (k : Nat) (z5 : Option PV) (h : PH), k ≤ m → m - k < fuel → q1_2 (su_ S f a k) h → (∀ t, t ≠ 12 → t ≠ 32 → hp_te h0 h t) → VV G 3 0 0 yX0_use cX0_use 6 (some .int) [] 5 [some (pv_O (12, f)), some (pv_I (nI a)), some (pv_I (nI m)), some (pv_I (sm_a S f a k)), some (pv_I (nI k)), z5] [] h Q := by
  intro fuel
  induction fuel with
  | zero =>
    intro k z5 h h1 h2
    omega
  | succ fuel ih =>
    intro k z5 h h1 h2 R hT
    have hf2 : f < nn_ (su_ S f a k) 1 := by show f < (su_ S f a k).2.1 1; rw [su_2]; exact hf
    have hn2 : s_n (su_ S f a k) f ≤ 24 := by rw [su_n]; exact hn
    have F := R.1 f hf2
    obtain ⟨⟨a0, a4, a5, a6, b0, b1, b2⟩, e9, e8⟩ := id F
    refine v_iload 7 dX0_use_5 rfl rfl ?_
    refine v_iload_n 8 dX0_use_7 rfl rfl ?_
    refine v_icmp_ge 59 11 dX0_use_8 (by decide) rfl (fun c8 => ?_) (fun c8 => ?_)
    · have hkm : k = m := by
        rcases Nat.lt_or_ge k m with q | q
        · exact absurd c8 (nI_ge q (by omega))
        · omega
      subst hkm
      refine v_iload_n 60 dX0_use_59 rfl rfl ?_
      refine v_ireturn dX0_use_60 rfl ?_
      exact hq _ R hT
    · have hkm : k < m := by
        rcases Nat.lt_or_ge k m with q | q
        · exact q
        · exact absurd (nI_le q (by omega)) c8
      refine v_iload_n 12 dX0_use_11 rfl rfl ?_
      refine v_iload 14 dX0_use_12 rfl rfl ?_
      refine v_iadd 15 dX0_use_14 rfl ?_
      rw [nI_add]
      refine v_istore 17 dX0_use_15 (by decide) rfl rfl ?_
      dsimp only [List.set]
      refine v_aload_n 18 dX0_use_17 rfl rfl ?_
      refine v_iload 20 dX0_use_18 rfl rfl ?_
      refine v_invv (d' := 0) (k' := 0) (n' := 0) (k2 := 0) (n2 := 0) 23 [_] dX0_use_20 mt_X0_82 mi_X0_hasLeaf me_X0_hasLeaf (by first | assumption | rfl) (by rfl) rfl rfl (of_decide_eq_true rfl) rfl (by decide) rfl rfl rfl rfl (C_X0_hasLeaf F hn2 ?_)
      rw [if_pos (ok_i.of (n := s_n (su_ S f a k) f) (show a + k < s_n (su_ S f a k) f by rw [su_n]; omega) (by omega))]
      refine v_if_eq 53 26 dX0_use_23 (by decide) rfl (fun c23 => ?_) (fun c23 => ?_)
      · exact absurd c23 (by decide)
      · refine v_aload_n 27 dX0_use_26 rfl rfl ?_
        refine v_getfr 30 dX0_use_27 fl_X0_18 (by first | assumption | rfl) (by rfl) rfl ?_
        rw [a6]
        refine v_iload 32 dX0_use_30 rfl rfl ?_
        refine v_iconstv (v := 1) 33 dX0_use_32 (by decide) rfl ?_
        refine v_zast 34 dX0_use_33 (by first | assumption | rfl) (by first | assumption | decide) (by show vp_in _ (hp_ln h 32 f); rw [b2]; exact in_nI (by omega) (by omega)) rfl rfl ?_
        rw [nI_clamp (by omega)]
        refine v_aload_n 35 dX0_use_34 rfl rfl ?_
        refine v_dup 36 dX0_use_35 rfl rfl ?_
        refine v_getfi 39 dX0_use_36 fl_X0_89 (by first | assumption | rfl) (by rfl) rfl ?_
        refine v_iconstv (v := 1) 40 dX0_use_39 (by decide) rfl ?_
        refine v_iadd 41 dX0_use_40 rfl ?_
        refine v_putfi 44 dX0_use_41 pf_X0_use_89 (by first | assumption | rfl) (by first | assumption | decide) (by rfl) rfl rfl rfl ?_
        have R2 := q1_2.use R hf2 (show a + k < s_n (su_ S f a k) f by rw [su_n]; omega) (by rw [su_v, if_neg (by omega)]; exact hfree k hkm)
        have F2 := R2.1 f hf2
        refine v_iload_n 45 dX0_use_44 rfl rfl ?_
        refine v_aload_n 46 dX0_use_45 rfl rfl ?_
        refine v_iload 48 dX0_use_46 rfl rfl ?_
        refine v_invv (d' := 2) (k' := 0) (n' := 0) (k2 := 0) (n2 := 0) 51 [_] dX0_use_48 mt_X0_92 mi_X0_areaOf me_X0_areaOf (by first | assumption | rfl) (by rfl) rfl rfl (of_decide_eq_true rfl) rfl (by decide) rfl rfl rfl rfl (C_X0_areaOf F2 hn2 ?_)
        rw [if_pos (ok_i.of (n := s_n (sv_ (su_ S f a k) f (a + k)) f) (show a + k < s_n (su_ S f a k) f by rw [su_n]; omega) (by show s_n (su_ S f a k) f < _; omega)), (s_w_te (S := S) (S' := sv_ (su_ S f a k) f (a + k)) (f := f) (l := nI (a + k)) (su_te S f a (by decide) (k + 1)) (su_te S f a (by decide) (k + 1))).2.2.1]
        refine v_iadd 52 dX0_use_51 rfl ?_
        refine v_istore_n 53 dX0_use_52 (by decide) rfl rfl ?_
        dsimp only [List.set]
        refine v_iinc 56 dX0_use_53 rfl (by decide) rfl rfl ?_
        dsimp only [List.set]
        refine v_goto 5 dX0_use_56 (by decide) ?_
        rw [show nI k + Int32.ofInt 1 = nI (k + 1) from nI_1 k]
        exact ih (k + 1) _ _ (by omega) (by omega) R2 (fun t e1 e2 => ((hT t e1 e2).tr (hp_te.i e2)).tr (hp_te.i e1))
set_option maxRecDepth 20000 in
theorem C_X0_use {G : GW} {h : PH} {Q : RS → PH → Prop} {S : SP} {f a m : Nat} (hf : f < nn_ S 1) (hn : s_n S f ≤ 24) (ham : a + m ≤ s_n S f) (hfree : ∀ k, k < m → hp_vi S.1 62 f (a + k) = 0) (hq : ∀ h', q1_2 (su_ S f a m) h' → (∀ t, t ≠ 12 → t ≠ 32 → hp_te h h' t) → Q (.inl (some (pv_I (sm_a S f a m)))) h') (R : q1_2 S h) : VV G 3 0 0 yX0_use cX0_use 6 (some .int) [] 0 (vv_en 6 [pv_O (12, f), pv_I (nI a), pv_I (nI m)]) [] h Q := by
  show VV G 3 0 0 yX0_use cX0_use 6 (some .int) [] 0 [some (pv_O (12, f)), some (pv_I (nI a)), some (pv_I (nI m)), none, none, none] [] h Q
  refine v_iconstv (v := 0) 1 dX0_use_0 (by decide) rfl ?_
  refine v_istore_n 2 dX0_use_1 (by decide) rfl rfl ?_
  dsimp only [List.set]
  refine v_iconstv (v := 0) 3 dX0_use_2 (by decide) rfl ?_
  refine v_istore 5 dX0_use_3 (by decide) rfl rfl ?_
  dsimp only [List.set]
  exact L_X0_use hf hn ham hfree hq (m + 1) 0 _ h (Nat.zero_le _) (by omega) R (fun _ _ _ => hp_te.rf)
