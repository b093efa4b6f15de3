section VVR8
/-- writes at other places change places -/
theorem hp_ii {h : PH} {t i k t' i' k' : Nat} {x y : Int32} (n : ¬ (t = t' ∧ i = i' ∧ k = k')) : hp_seti (hp_seti h t i k x) t' i' k' y = hp_seti (hp_seti h t' i' k' y) t i k x := by
  unfold hp_seti
  refine congrArg (fun f => (h.1, h.2.1, f, h.2.2.2)) ?_
  funext a b c
  dsimp only
  by_cases e1 : a = t ∧ b = i ∧ c = k
  · by_cases e2 : a = t' ∧ b = i' ∧ c = k'
    · exact absurd ⟨e1.1.symm.trans e2.1, e1.2.1.symm.trans e2.2.1, e1.2.2.symm.trans e2.2.2⟩ n
    · simp only [if_pos e1, if_neg e2]
  · by_cases e2 : a = t' ∧ b = i' ∧ c = k'
    · simp only [if_neg e1, if_pos e2]
    · simp only [if_neg e1, if_neg e2]
theorem hp_in {h : PH} {t i n t' i' k' : Nat} {y : Int32} (q : ¬ (t = t' ∧ i = i')) : hp_seti (hp_new h t i n) t' i' k' y = hp_new (hp_seti h t' i' k' y) t i n := by
  unfold hp_seti hp_new
  refine congrArg (fun f => ((fun a b => if a = t ∧ b = i then true else h.1 a b), (fun a b => if a = t ∧ b = i then n else h.2.1 a b), f, (fun a b c => if a = t ∧ b = i then (0, 0) else h.2.2.2.1 a b c), (fun a b c => if a = t ∧ b = i then 0 else h.2.2.2.2.1 a b c), (fun a b c => if a = t ∧ b = i then 0 else h.2.2.2.2.2 a b c))) ?_
  funext a b c
  dsimp only
  by_cases e1 : a = t ∧ b = i
  · by_cases e2 : a = t' ∧ b = i' ∧ c = k'
    · exact absurd ⟨e1.1.symm.trans e2.1, e1.2.symm.trans e2.2.1⟩ q
    · simp only [if_pos e1, if_neg e2]
  · by_cases e2 : a = t' ∧ b = i' ∧ c = k'
    · simp only [if_neg e1, if_pos e2]
    · simp only [if_neg e1, if_neg e2]
theorem hp_rn {h : PH} {t i n t' i' k' : Nat} {y : RN} (q : ¬ (t = t' ∧ i = i')) : hp_setr (hp_new h t i n) t' i' k' y = hp_new (hp_setr h t' i' k' y) t i n := by
  unfold hp_setr hp_new
  refine congrArg (fun f => ((fun a b => if a = t ∧ b = i then true else h.1 a b), (fun a b => if a = t ∧ b = i then n else h.2.1 a b), (fun a b c => if a = t ∧ b = i then 0 else h.2.2.1 a b c), f, (fun a b c => if a = t ∧ b = i then 0 else h.2.2.2.2.1 a b c), (fun a b c => if a = t ∧ b = i then 0 else h.2.2.2.2.2 a b c))) ?_
  funext a b c
  dsimp only
  by_cases e1 : a = t ∧ b = i
  · by_cases e2 : a = t' ∧ b = i' ∧ c = k'
    · exact absurd ⟨e1.1.symm.trans e2.1, e1.2.symm.trans e2.2.1⟩ q
    · simp only [if_pos e1, if_neg e2]
  · by_cases e2 : a = t' ∧ b = i' ∧ c = k'
    · simp only [if_neg e1, if_pos e2]
    · simp only [if_neg e1, if_neg e2]
theorem hp_ri {h : PH} {t i k t' i' k' : Nat} {x : Int32} {y : RN} : hp_setr (hp_seti h t i k x) t' i' k' y = hp_seti (hp_setr h t' i' k' y) t i k x := rfl
theorem oc_sv (S : SP) (f l : Nat) (w d : Int32) : oc_up (sv_ S f l) w d = sv_ (oc_up S w d) f l := by
  unfold oc_up sv_ nn_
  dsimp only
  rw [hp_ii (t := 45) (t' := 62) (by omega), hp_ii (t := 45) (t' := 62) (by omega), hp_in (t := 45) (t' := 62) (by omega)]
theorem ls_sv (S : SP) (g l f a : Nat) (st ht r0 : Int32) : ∀ k, ls_ (sv_ S g l) f a st ht r0 k = (sv_ (ls_ S f a st ht r0 k).1 g l, (ls_ S f a st ht r0 k).2)
  | 0 => rfl
  | k + 1 => by
    have e : s_w (sv_ S g l) f (nI (a + k)) = s_w S f (nI (a + k)) := (s_w_te (hp_te.i (by decide)) (hp_te.i (by decide))).1
    unfold ls_
    rw [e, ls_sv S g l f a st ht r0 k]
    by_cases q : 50 ≤ s_w S f (nI (a + k)) - st
    · rw [if_pos q, if_pos q, oc_sv]
    · rw [if_neg q, if_neg q]
theorem sub_arc (a x b : Int32) : a + x - b = a - b + x := by rw [Int32.sub_eq_add_neg, Int32.sub_eq_add_neg, arc_]
theorem ls_r (S : SP) (f a : Nat) (st ht r0 x : Int32) : ∀ k, ls_ S f a st ht (r0 + x) k = ((ls_ S f a st ht r0 k).1, (ls_ S f a st ht r0 k).2 + x)
  | 0 => rfl
  | k + 1 => by
    unfold ls_
    rw [ls_r S f a st ht r0 x k]
    by_cases q : 50 ≤ s_w S f (nI (a + k)) - st
    · rw [if_pos q, if_pos q]
      show (oc_up (ls_ S f a st ht r0 k).1 _ _, _ + x - _) = (_, _ - _ + x)
      rw [sub_arc]
    · rw [if_neg q, if_neg q]
/-- leaf by leaf: used, then its offcut -/
def lr_ (S : SP) (p f a m k : Nat) : SP × Int32 := ls_ (su_ S f a k) f a (s_st S p (nI m)) (hp_vi S.1 43 p 1) (sm_a S f a k - hp_vi S.1 43 p 0 * hp_vi S.1 43 p 1) k
theorem lr_s (S : SP) (p f a m k : Nat) : lr_ S p f a m (k + 1) = if 50 ≤ s_w S f (nI (a + k)) - s_st S p (nI m) then (oc_up (sv_ (lr_ S p f a m k).1 f (a + k)) (s_w S f (nI (a + k)) - s_st S p (nI m)) (hp_vi S.1 43 p 1), (lr_ S p f a m k).2 + s_a S f (nI (a + k)) - (s_w S f (nI (a + k)) - s_st S p (nI m)) * hp_vi S.1 43 p 1) else (sv_ (lr_ S p f a m k).1 f (a + k), (lr_ S p f a m k).2 + s_a S f (nI (a + k))) := by
  have e : s_w (su_ S f a (k + 1)) f (nI (a + k)) = s_w S f (nI (a + k)) := (s_w_te (su_te S f a (by decide) _) (su_te S f a (by decide) _)).1
  have e2 : ls_ (su_ S f a (k + 1)) f a (s_st S p (nI m)) (hp_vi S.1 43 p 1) (sm_a S f a (k + 1) - hp_vi S.1 43 p 0 * hp_vi S.1 43 p 1) k = (sv_ (lr_ S p f a m k).1 f (a + k), (lr_ S p f a m k).2 + s_a S f (nI (a + k))) := by
    show ls_ (sv_ (su_ S f a k) f (a + k)) f a _ _ (sm_a S f a k + s_a S f (nI (a + k)) - hp_vi S.1 43 p 0 * hp_vi S.1 43 p 1) k = _
    rw [ls_sv, sub_arc, ls_r]
    rfl
  show ls_ (su_ S f a (k + 1)) f a _ _ _ (k + 1) = _
  unfold ls_
  rw [e, e2]
theorem lr_m (S : SP) (p f a m : Nat) : lr_ S p f a m m = ly_ S p f a m := rfl
theorem lr_0 (S : SP) (p f a m : Nat) : lr_ S p f a m 0 = (S, -(hp_vi S.1 43 p 0) * hp_vi S.1 43 p 1) := by
  show (S, 0 - _) = _
  rw [Int32.zero_sub, Int32.neg_mul]
theorem lr_te (S : SP) (p f a m k : Nat) {t : Nat} (h1 : ¬ t = 62) (h2 : ¬ t = 45) : hp_te S.1 (lr_ S p f a m k).1.1 t := (su_te S f a h1 k).tr (ls_te _ _ _ _ _ _ h2 k)
theorem lr_n (S : SP) (p f a m k : Nat) : hp_ln (lr_ S p f a m k).1.1 62 = hp_ln S.1 62 := by
  have h1 : hp_ln (su_ S f a k).1 62 = hp_ln S.1 62 := by
    induction k with
    | zero => rfl
    | succ k ih => exact ih
  exact ((ls_te (su_ S f a k) f a (s_st S p (nI m)) (hp_vi S.1 43 p 1) (sm_a S f a k - hp_vi S.1 43 p 0 * hp_vi S.1 43 p 1) (t := 62) (by decide) k).2.1).trans h1
theorem ls_al (S : SP) (f a : Nat) (st ht r0 : Int32) (h : ∀ i, nn_ S 4 ≤ i → hp_al S.1 45 i = false) : ∀ k i, nn_ (ls_ S f a st ht r0 k).1 4 ≤ i → hp_al (ls_ S f a st ht r0 k).1.1 45 i = false
  | 0, i, hi => h i hi
  | k + 1, i, hi => by
    unfold ls_ at hi ⊢
    by_cases q : 50 ≤ s_w S f (nI (a + k)) - st
    · rw [if_pos q] at hi ⊢
      have hi9 : nn_ (ls_ S f a st ht r0 k).1 4 + 1 ≤ i := hi
      show (if 45 = 45 ∧ i = nn_ (ls_ S f a st ht r0 k).1 4 then true else hp_al (ls_ S f a st ht r0 k).1.1 45 i) = false
      rw [if_neg (by omega)]
      exact ls_al S f a st ht r0 h k i (by omega)
    · rw [if_neg q] at hi ⊢
      exact ls_al S f a st ht r0 h k i hi
theorem Rp2.a5 {S : SP} {A h h' : PH} (R : Rp2 (A, S.2) h) (te : ∀ t, t ≠ 54 → t ≠ 60 → hp_te h h' t) (L : q_l h' 54 60 (nn_ S 5 + 1) (fun k => if k = nn_ S 5 then (45, nn_ S 4) else (45, S.2.2 k))) : Rp2 (A, c_up (c_up S.2.1 4 (nn_ S 4 + 1)) 5 (nn_ S 5 + 1), fun k => if k = nn_ S 5 then nn_ S 4 else S.2.2 k) h' := by
  obtain ⟨L0, L1, L2, L3, L4, L5⟩ := R.2.1
  have T : ∀ t, t ≠ 54 ∧ t ≠ 60 → hp_te h h' t := fun t q => te t q.1 q.2
  exact R.ls rfl (fun t ht => T t (by omega)) ⟨L0.te (T _ (by decide)) (T _ (by decide)) (T _ (by decide)), L1.te (T _ (by decide)) (T _ (by decide)) (T _ (by decide)), L2.te (T _ (by decide)) (T _ (by decide)) (T _ (by decide)), (L3.te (T _ (by decide)) (T _ (by decide)) (T _ (by decide))).f (fun k hk => by show _ = (4, c_up (c_up S.2.1 4 (nn_ S 4 + 1)) 5 (nn_ S 5 + 1) (10 + k) + 128); rw [c_ne (by omega), c_ne (by omega)]), L.f (fun k hk => by show _ = (45, if k = nn_ S 5 then nn_ S 4 else S.2.2 k); split <;> rfl), L5.te (T _ (by decide)) (T _ (by decide)) (T _ (by decide))⟩
end VVR8
set_option maxRecDepth 20000 in
theorem L_X12_lays {G : GW} {h0 : PH} {Q : RS → PH → Prop} {S0 S : SP} {N : Nat} (I : Iv S0 N) (e41 : hp_te S0.1 S.1 41) (e42 : hp_te S0.1 S.1 42) (e62 : hp_ln S.1 62 = hp_ln S0.1 62) (e2 : S.2 = S0.2) {p u f a m : Nat} (hu : u = 46 ∨ u = 47) (p0 : hp_vr S.1 u p 0 = (42, f)) (p1 : hp_vi S.1 u p 1 = nI a) (p2 : hp_vi S.1 u p 2 = nI m) (hf : f < nn_ S0 1) (ham : a + m ≤ s_n S0 f) (hm1 : 1 ≤ m) (hm8 : m ≤ 8) (hal : ∀ i, nn_ S 4 ≤ i → hp_al S.1 45 i = false) (hq : ∀ h', Rp2 (ws_up (ly_ S p f a m).1 (ly_ S p f a m).2) h' → hp_vi h' 40 0 0 = 0 → ke_ h0 h' → Q (.inl (some (pv_I (ly_ S p f a m).2))) h') : ∀ fuel : Nat, ∀ (k : Nat) (z5 : Option PV) (h : PH), k + fuel = m → Rp2 (lr_ S p f a m k).1 h → hp_vi h 40 0 0 = 0 → ke_ h0 h → VV G 9 (2 * fuel) (232 * fuel) yX12_lays cX12_lays 6 (some .int) [] 17 [some (pv_O (40, 0)), some (pv_O (43, p)), some (pv_O (u, p)), some (pv_I (lr_ S p f a m k).2), some (pv_I (nI (a + k))), z5] [] h Q := by
  intro fuel
  induction fuel with
  | zero =>
    intro k z5 h hk R e0 keh
    have hut : rt_ u := by omega
    have htg : tg_k u = some (.inl 12) := by rcases hu with rfl | rfl <;> rfl
    have TU : hp_te S.1 h u := (lr_te S p f a m k (by omega) (by omega)).tr (R.tg hut)
    have T43 : hp_te S.1 h 43 := (lr_te S p f a m k (by decide) (by decide)).tr (R.tg (by decide))
    have T41 : hp_te S0.1 h 41 := (e41.tr (lr_te S p f a m k (by decide) (by decide))).tr (R.tg (by decide))
    have T42 : hp_te S0.1 h 42 := (e42.tr (lr_te S p f a m k (by decide) (by decide))).tr (R.tg (by decide))
    have h24 := I.n24 hf
    obtain rfl : m = k := by omega
    skip
    refine v_iload 19 dX12_lays_17 rfl rfl ?_
    refine v_aload_n 20 dX12_lays_19 rfl rfl ?_
    refine v_getfi 23 dX12_lays_20 fl_X12_156 (by first | assumption | rfl) (by rfl) rfl ?_
    rw [TU.2.2.1, p1]
    refine v_aload_n 24 dX12_lays_23 rfl rfl ?_
    refine v_getfi 27 dX12_lays_24 fl_X12_161 (by first | assumption | rfl) (by rfl) rfl ?_
    rw [TU.2.2.1, p2]
    refine v_iadd 28 dX12_lays_27 rfl ?_
    rw [nI_add]
    refine v_icmp_ge 122 31 dX12_lays_28 (by decide) rfl (fun c28 => ?_) (fun c28 => ?_)
    · refine v_aload_n 123 dX12_lays_122 rfl rfl ?_
      refine v_dup 124 dX12_lays_123 rfl rfl ?_
      refine v_getfi 127 dX12_lays_124 fl_X12_168 (by first | assumption | rfl) (by rfl) rfl ?_
      rw [R.1.2 10 (by decide) (by decide)]
      refine v_iload_n 128 dX12_lays_127 rfl rfl ?_
      refine v_iadd 129 dX12_lays_128 rfl ?_
      refine v_putfi 132 dX12_lays_129 pf_X12_lays_168 (by first | assumption | rfl) (by first | assumption | decide) (by rfl) rfl rfl rfl ?_
      refine v_iload_n 133 dX12_lays_132 rfl rfl ?_
      refine v_ireturn dX12_lays_133 rfl ?_
      exact hq _ (R.g' (by decide)) ((hp_seti_ne (by simp)).trans e0) (keh.tr (ke_.i (by decide) (by decide)))
    · exact absurd (nI_le (Nat.le_refl _) (by omega)) c28
  | succ fuel ih =>
    intro k zz5 h hk R e0 keh
    have hut : rt_ u := by omega
    have htg : tg_k u = some (.inl 12) := by rcases hu with rfl | rfl <;> rfl
    have TU : hp_te S.1 h u := (lr_te S p f a m k (by omega) (by omega)).tr (R.tg hut)
    have T43 : hp_te S.1 h 43 := (lr_te S p f a m k (by decide) (by decide)).tr (R.tg (by decide))
    have T41 : hp_te S0.1 h 41 := (e41.tr (lr_te S p f a m k (by decide) (by decide))).tr (R.tg (by decide))
    have T42 : hp_te S0.1 h 42 := (e42.tr (lr_te S p f a m k (by decide) (by decide))).tr (R.tg (by decide))
    have h24 := I.n24 hf
    have hcc : nn_ (lr_ S p f a m k).1 5 ≤ 140 := by
      obtain ⟨z0, z1, z2, z3, z4, z5⟩ := I.cs
      obtain ⟨y1, y2, y3, y4⟩ := ls_c (su_ S f a k) f a (s_st S p (nI m)) (hp_vi S.1 43 p 1) (sm_a S f a k - hp_vi S.1 43 p 0 * hp_vi S.1 43 p 1) k
      have y5 : nn_ (su_ S f a k) 5 = nn_ S0 5 := by unfold nn_; rw [su_2, e2]
      have y6 : nn_ (su_ S f a k) 4 = nn_ S0 4 := by unfold nn_; rw [su_2, e2]
      show nn_ (ls_ (su_ S f a k) f a (s_st S p (nI m)) (hp_vi S.1 43 p 1) (sm_a S f a k - hp_vi S.1 43 p 0 * hp_vi S.1 43 p 1) k).1 5 ≤ 140
      omega
    refine v_iload 19 dX12_lays_17 rfl rfl ?_
    refine v_aload_n 20 dX12_lays_19 rfl rfl ?_
    refine v_getfi 23 dX12_lays_20 fl_X12_156 (by first | assumption | rfl) (by rfl) rfl ?_
    rw [TU.2.2.1, p1]
    refine v_aload_n 24 dX12_lays_23 rfl rfl ?_
    refine v_getfi 27 dX12_lays_24 fl_X12_161 (by first | assumption | rfl) (by rfl) rfl ?_
    rw [TU.2.2.1, p2]
    refine v_iadd 28 dX12_lays_27 rfl ?_
    rw [nI_add]
    refine v_icmp_ge 122 31 dX12_lays_28 (by decide) rfl (fun c28 => ?_) (fun c28 => ?_)
    · exact absurd c28 (nI_ge (a := a + k) (b := a + m) (by omega) (by omega))
    · refine v_aload_n 32 dX12_lays_31 rfl rfl ?_
      refine v_getfr 35 dX12_lays_32 fl_X12_164 (by first | assumption | rfl) (by rfl) rfl ?_
      rw [TU.2.2.2.1, p0]
      refine v_getfr 38 dX12_lays_35 fl_X12_103 (by first | assumption | rfl) (by rfl) rfl ?_
      rw [T42.2.2.2.1, I.us hf]
      refine v_iload 40 dX12_lays_38 rfl rfl ?_
      refine v_iconstv (v := 1) 41 dX12_lays_40 (by decide) rfl ?_
      refine v_zast 42 dX12_lays_41 (by first | assumption | rfl) (by first | assumption | decide) (by rw [R.ln (t := 62) (by decide), lr_n, e62]; exact in_nI (c := s_n S0 f) (by omega) (by omega)) (by first | rfl | decide) rfl ?_
      rw [nI_clamp (by omega)]
      have R : Rp2 (sv_ (lr_ S p f a m k).1 f (a + k)) _ := R.i (t := 62) (i := f) (k := a + k) (x := 1) (by decide)
      refine v_iload_n 43 dX12_lays_42 rfl rfl ?_
      refine v_aload_n 44 dX12_lays_43 rfl rfl ?_
      refine v_getfr 47 dX12_lays_44 fl_X12_164 (by first | assumption | rfl) (by rfl) rfl ?_
      rw [show hp_vr (hp_seti h 62 f (a + k) 1) u p 0 = (42, f) from by show hp_vr h u p 0 = _; rw [TU.2.2.2.1]; exact p0]
      refine v_iload 49 dX12_lays_47 rfl rfl ?_
      refine v_invv (d' := 2) (k' := 0) (n' := 0) (k2 := (2 * fuel + 2)) (n2 := (232 * fuel + 232)) 52 [_] dX12_lays_49 mt_X12_117 mi_X7_area me_X7_area (by first | assumption | rfl) (by rfl) rfl rfl (of_decide_eq_true rfl) rfl (by decide) rfl rfl rfl rfl (C_X7_area (T41.tr (hp_te.i (by decide))) (T42.tr (hp_te.i (by decide))) I hf (by omega) ?_)
      rw [show s_a S0 f (nI (a + k)) = s_a S f (nI (a + k)) from (s_w_te e41 e42).2.2.1.symm]
      refine v_iadd 53 dX12_lays_52 rfl ?_
      refine v_istore_n 54 dX12_lays_53 (by decide) rfl rfl ?_
      dsimp only [List.set]
      refine v_aload_n 55 dX12_lays_54 rfl rfl ?_
      refine v_getfr 58 dX12_lays_55 fl_X12_164 (by first | assumption | rfl) (by rfl) rfl ?_
      rw [show hp_vr (hp_seti h 62 f (a + k) 1) u p 0 = (42, f) from by show hp_vr h u p 0 = _; rw [TU.2.2.2.1]; exact p0]
      refine v_iload 60 dX12_lays_58 rfl rfl ?_
      refine v_invv (d' := 1) (k' := 0) (n' := 0) (k2 := (2 * fuel + 2)) (n2 := (232 * fuel + 232)) 63 [_] dX12_lays_60 mt_X12_114 mi_X7_width me_X7_width (by first | assumption | rfl) (by rfl) rfl rfl (of_decide_eq_true rfl) rfl (by decide) rfl rfl rfl rfl (C_X7_width (T41.tr (hp_te.i (by decide))) (T42.tr (hp_te.i (by decide))) I hf (by omega) ?_)
      rw [show s_w S0 f (nI (a + k)) = s_w S f (nI (a + k)) from (s_w_te e41 e42).1.symm]
      refine v_aload_n 64 dX12_lays_63 rfl rfl ?_
      refine v_aload_n 65 dX12_lays_64 rfl rfl ?_
      refine v_getfi 68 dX12_lays_65 fl_X12_161 (by first | assumption | rfl) (by rfl) rfl ?_
      rw [show hp_vi (hp_seti h 62 f (a + k) 1) u p 2 = nI m from by rw [hp_seti_ne (by omega), TU.2.2.1]; exact p2]
      refine v_invs (d' := 0) (k' := 0) (n' := 0) (k2 := (2 * fuel + 2)) (n2 := (232 * fuel + 232)) 71 [_, _] dX12_lays_68 mt_X12_152 ms_X12_strip rfl rfl (of_decide_eq_true rfl) rfl (by decide) rfl rfl rfl rfl (C_X12_strip (S := S) (T43.tr (hp_te.i (by decide))) (nI_lt (a := 0) (by omega) (by omega)) ?_)
      refine v_isub 72 dX12_lays_71 rfl ?_
      refine v_istore 74 dX12_lays_72 (by decide) rfl rfl ?_
      dsimp only [List.set]
      refine v_iload 76 dX12_lays_74 rfl rfl ?_
      refine v_bipushv (v := 50) 78 dX12_lays_76 (by decide) rfl ?_
      refine v_icmp_lt 116 81 dX12_lays_78 (by decide) rfl (fun c78 => ?_) (fun c78 => ?_)
      · refine v_iinc 119 dX12_lays_116 rfl (by decide) rfl rfl ?_
        dsimp only [List.set]
        refine v_goto 17 dX12_lays_119 (by decide) ?_
        rw [show nI (a + k) + Int32.ofInt 1 = nI (a + (k + 1)) from nI_1 (a + k)]
        have X := fun z hh => ih (k + 1) z hh (by omega)
        rw [show lr_ S p f a m (k + 1) = ((sv_ (lr_ S p f a m k).1 f (a + k)), (lr_ S p f a m k).2 + s_a S f (nI (a + k))) from Eq.trans (lr_s S p f a m k) (if_neg (Int32.not_le.mpr c78))] at X
        exact VV.less (Nat.le_refl _) (by omega) (by omega) (X _ _ R ((hp_seti_ne (by simp)).trans e0) (keh.tr (ke_.i (by decide) (by decide))))
      · refine v_aload_n 82 dX12_lays_81 rfl rfl ?_
        refine v_getfr 85 dX12_lays_82 fl_X12_25 (by first | assumption | rfl) (by rfl) rfl ?_
        rw [R.1.1.2.2.2.2.2.1]
        refine v_iconstv (v := 2) 86 dX12_lays_85 (by decide) rfl ?_
        refine v_newarr (ty := .int) (N := 2) (k1 := (2 * fuel + 1)) (n1 := (232 * fuel + 230)) 88 45 (nn_ (lr_ S p f a m k).1 4) dX12_lays_86 ac_int rfl (by simp [g_tys]) (by rfl) (by decide) (by rw [R.al (t := 45) (by decide)]; exact ls_al _ _ _ _ _ _ (by show ∀ i, nn_ (su_ S f a k) 4 ≤ i → hp_al (su_ S f a k).1 45 i = false; rw [(su_te S f a (by decide) k).1]; intro i hi; refine hal i ?_; unfold nn_ at hi ⊢; rwa [su_2] at hi) k _ (Nat.le_refl _)) (by decide) (by decide) (by decide) rfl rfl rfl ?_
        refine v_dup 89 dX12_lays_88 rfl rfl ?_
        refine v_iconstv (v := 0) 90 dX12_lays_89 (by decide) rfl ?_
        refine v_iload 92 dX12_lays_90 rfl rfl ?_
        refine v_iast 93 dX12_lays_92 (by first | assumption | rfl) (by first | assumption | decide) (by rw [hp_new_ln0]; exact in_nI (m := 0) (by decide) (by decide)) rfl ?_
        rw [show Int32.toNatClampNeg 0 = 0 from rfl]
        refine v_dup 94 dX12_lays_93 rfl rfl ?_
        refine v_iconstv (v := 1) 95 dX12_lays_94 (by decide) rfl ?_
        refine v_aload_n 96 dX12_lays_95 rfl rfl ?_
        refine v_getfi 99 dX12_lays_96 fl_X12_149 (by first | assumption | rfl) (by rfl) rfl ?_
        rw [hp_seti_ne (by simp), vi_n, if_neg (by simp), hp_seti_ne (by simp), T43.2.2.1]
        refine v_iast 100 dX12_lays_99 (by first | assumption | rfl) (by first | assumption | decide) (by show vp_in _ (hp_ln (hp_new _ 45 _ 2) 45 _); rw [hp_new_ln0]; exact in_nI (m := 1) (by decide) (by decide)) rfl ?_
        rw [show Int32.toNatClampNeg 1 = 1 from rfl]
        have R : Rp2 ((oc_up (sv_ (lr_ S p f a m k).1 f (a + k)) (s_w S f (nI (a + k)) - s_st S p (nI m)) (hp_vi S.1 43 p 1)).1, (sv_ (lr_ S p f a m k).1 f (a + k)).2) _ := ((R.n (t := 45) (i := (nn_ (lr_ S p f a m k).1 4)) (n := 2) (by decide)).i (t := 45) (i := (nn_ (lr_ S p f a m k).1 4)) (k := 0) (x := s_w S f (nI (a + k)) - s_st S p (nI m)) (by decide)).i (t := 45) (i := (nn_ (lr_ S p f a m k).1 4)) (k := 1) (x := hp_vi S.1 43 p 1) (by decide)
        refine v_invf (z := ("java/util/ArrayList", TJx4a65c, 3)) (d' := 6) (k' := 1) (n' := 230) (k2 := (2 * fuel)) (n2 := (232 * fuel)) 105 [_] dX12_lays_100 mf_X12_76 md_Jx4a65c_add_9ea2d mi_Jx4a65c_add_9ea2d se_Jx4a65c_add_9ea2d (by simp [g_fw]; rfl) ⟨by decide, by decide +kernel⟩ (by first | assumption | rfl) (by rfl) rfl rfl (of_decide_eq_true rfl) rfl (by decide) rfl rfl rfl rfl (C_add2 (tl := 54) (ta := 60) (n := nn_ (lr_ S p f a m k).1 5) (f := fun j => (45, (lr_ S p f a m k).1.2.2 j)) rfl rfl R.2.1.2.2.2.2.1 (by decide) (by decide) (by decide) (by decide) (by decide) ob_45 (by omega) (fun k hk => Or.inr ob_45) (by omega) (fun h9 L9 te9 => ?_))
        refine v_pop 106 dX12_lays_105 rfl rfl ?_
        refine v_iload_n 107 dX12_lays_106 rfl rfl ?_
        refine v_iload 109 dX12_lays_107 rfl rfl ?_
        refine v_aload_n 110 dX12_lays_109 rfl rfl ?_
        refine v_getfi 113 dX12_lays_110 fl_X12_149 (by first | assumption | rfl) (by rfl) rfl ?_
        rw [show hp_vi h9 43 p 1 = hp_vi S.1 43 p 1 from by rw [(te9 43 (by decide) (by decide)).2.2.1, hp_seti_ne (by simp), hp_seti_ne (by simp), vi_n, if_neg (by simp), hp_seti_ne (by simp), T43.2.2.1]]
        refine v_imul 114 dX12_lays_113 rfl ?_
        refine v_isub 115 dX12_lays_114 rfl ?_
        refine v_istore_n 116 dX12_lays_115 (by decide) rfl rfl ?_
        dsimp only [List.set]
        refine v_iinc 119 dX12_lays_116 rfl (by decide) rfl rfl ?_
        dsimp only [List.set]
        refine v_goto 17 dX12_lays_119 (by decide) ?_
        rw [show nI (a + k) + Int32.ofInt 1 = nI (a + (k + 1)) from nI_1 (a + k)]
        have X := fun z hh => ih (k + 1) z hh (by omega)
        rw [show lr_ S p f a m (k + 1) = (oc_up (sv_ (lr_ S p f a m k).1 f (a + k)) (s_w S f (nI (a + k)) - s_st S p (nI m)) (hp_vi S.1 43 p 1), (lr_ S p f a m k).2 + s_a S f (nI (a + k)) - (s_w S f (nI (a + k)) - s_st S p (nI m)) * hp_vi S.1 43 p 1) from Eq.trans (lr_s S p f a m k) (if_pos (Int32.not_lt.mp c78))] at X
        refine X _ _ (Rp2.a5 (S := (sv_ (lr_ S p f a m k).1 f (a + k))) R te9 L9) ?_ (((keh.tr (ke_.i (by decide) (by decide))).tr (((ke_.n (by decide) (by decide)).tr (ke_.i (by decide) (by decide))).tr (ke_.i (by decide) (by decide)))).tr (ke_.te te9 (by decide) (by decide)))
        rw [(te9 40 (by decide) (by decide)).2.2.1, hp_seti_ne (by simp), hp_seti_ne (by simp), vi_n, if_neg (by simp), hp_seti_ne (by simp)]
        exact e0
set_option maxRecDepth 20000 in
theorem C_X12_lays {G : GW} {h : PH} {Q : RS → PH → Prop} {S0 S : SP} {N : Nat} (I : Iv S0 N) (e41 : hp_te S0.1 S.1 41) (e42 : hp_te S0.1 S.1 42) (e62 : hp_ln S.1 62 = hp_ln S0.1 62) (e2 : S.2 = S0.2) {p u f a m : Nat} (hu : u = 46 ∨ u = 47) (p0 : hp_vr S.1 u p 0 = (42, f)) (p1 : hp_vi S.1 u p 1 = nI a) (p2 : hp_vi S.1 u p 2 = nI m) (hf : f < nn_ S0 1) (ham : a + m ≤ s_n S0 f) (hm1 : 1 ≤ m) (hm8 : m ≤ 8) (hal : ∀ i, nn_ S 4 ≤ i → hp_al S.1 45 i = false) (hq : ∀ h', Rp2 (ws_up (ly_ S p f a m).1 (ly_ S p f a m).2) h' → hp_vi h' 40 0 0 = 0 → ke_ h h' → Q (.inl (some (pv_I (ly_ S p f a m).2))) h') (R : Rp2 S h) (e0 : hp_vi h 40 0 0 = 0) : VV G 9 20 2000 yX12_lays cX12_lays 6 (some .int) [] 0 (vv_en 6 [pv_O (40, 0), pv_O (43, p), pv_O (u, p)]) [] h Q := by
  show VV G 9 20 2000 yX12_lays cX12_lays 6 (some .int) [] 0 [some (pv_O (40, 0)), some (pv_O (43, p)), some (pv_O (u, p)), none, none, none] [] h Q
  have hut : rt_ u := by omega
  have htg : tg_k u = some (.inl 12) := by rcases hu with rfl | rfl <;> rfl
  refine v_aload_n 1 dX12_lays_0 rfl rfl ?_
  refine v_getfi 4 dX12_lays_1 fl_X12_140 (by first | assumption | rfl) (by rfl) rfl ?_
  rw [R.vi (t := 43) (by decide)]
  refine v_ineg 5 dX12_lays_4 rfl ?_
  refine v_aload_n 6 dX12_lays_5 rfl rfl ?_
  refine v_getfi 9 dX12_lays_6 fl_X12_149 (by first | assumption | rfl) (by rfl) rfl ?_
  rw [R.vi (t := 43) (by decide)]
  refine v_imul 10 dX12_lays_9 rfl ?_
  refine v_istore_n 11 dX12_lays_10 (by decide) rfl rfl ?_
  dsimp only [List.set]
  refine v_aload_n 12 dX12_lays_11 rfl rfl ?_
  refine v_getfi 15 dX12_lays_12 fl_X12_156 (by first | assumption | rfl) (by rfl) rfl ?_
  rw [R.vi hut, p1]
  refine v_istore 17 dX12_lays_15 (by decide) rfl rfl ?_
  dsimp only [List.set]
  have X := L_X12_lays (G := G) I e41 e42 e62 e2 hu p0 p1 p2 hf ham hm1 hm8 hal hq m 0
  rw [lr_0] at X
  exact VV.less (by decide) (by omega) (by omega) (X _ h (Nat.zero_add m) R e0 ke_.rf)
