set_option maxRecDepth 20000 in
theorem C_Jxa1e45_init_da8c8 {G : GW} {h : PH} {Q : RS → PH → Prop} {tl il : Nat} (h10 : 10 ≤ tl) (hq : Q (.inl none) h) : VV G 1 0 0 yJxa1e45_init_da8c8 cJxa1e45_init_da8c8 1 (none) [] 0 (vv_en 1 [pv_O (tl, il)]) [] h Q := by
  show VV G 1 0 0 yJxa1e45_init_da8c8 cJxa1e45_init_da8c8 1 (none) [] 0 [some (pv_O (tl, il))] [] h Q
  refine v_aload_n 1 dJxa1e45_init_da8c8_0 rfl rfl ?_
  refine v_objinit 4 dJxa1e45_init_da8c8_1 oi_Jxa1e45_1 oi_1 oi_2 (by first | decide | (dsimp only; omega)) (by first | decide | (dsimp only; omega)) (by first | decide | (dsimp only; omega)) rfl ?_
  refine v_return dJxa1e45_init_da8c8_4 rfl ?_
  exact hq
set_option maxRecDepth 20000 in
theorem C_Jxc12de_init_da8c8 {G : GW} {h : PH} {Q : RS → PH → Prop} {tl il : Nat} (htl : tg_k tl = some (.inl 3)) (h10 : 10 ≤ tl) (hq : Q (.inl none) (hp_seti h tl il 0 0))  : VV G 2 0 0 yJxc12de_init_da8c8 cJxc12de_init_da8c8 1 (none) [] 0 (vv_en 1 [pv_O (tl, il)]) [] h Q := by
  show VV G 2 0 0 yJxc12de_init_da8c8 cJxc12de_init_da8c8 1 (none) [] 0 [some (pv_O (tl, il))] [] h Q
  refine v_aload_n 1 dJxc12de_init_da8c8_0 rfl rfl ?_
  refine v_invi (d' := 1) (k' := 0) (n' := 0) (k2 := 0) (n2 := 0) 4 [] dJxc12de_init_da8c8_1 mt_Jxc12de_1 mi_Jxa1e45_init_da8c8 rfl rfl (by first | assumption | rfl) rfl rfl (of_decide_eq_true rfl) rfl (by decide) rfl rfl rfl rfl (C_Jxa1e45_init_da8c8 h10 ?_)
  refine v_aload_n 5 dJxc12de_init_da8c8_4 rfl rfl ?_
  refine v_iconstv (v := 0) 6 dJxc12de_init_da8c8_5 (by decide) rfl ?_
  refine v_putfi 9 dJxc12de_init_da8c8_6 pf_Jxc12de_init_da8c8_7 (by first | assumption | rfl) (by first | assumption | decide) (by rfl) rfl rfl rfl ?_
  refine v_return dJxc12de_init_da8c8_9 rfl ?_
  exact hq
set_option maxRecDepth 20000 in
theorem C_Jx4a65c_init_da8c8 {G : GW} {h : PH} {Q : RS → PH → Prop} {tl il : Nat} (htl : tg_k tl = some (.inl 3)) (h10 : 10 ≤ tl) (hq : Q (.inl none) (hp_setr (hp_seti h tl il 0 0) tl il 1 (5, 0))) : VV G 3 0 0 yJx4a65c_init_da8c8 cJx4a65c_init_da8c8 1 (none) [] 0 (vv_en 1 [pv_O (tl, il)]) [] h Q := by
  show VV G 3 0 0 yJx4a65c_init_da8c8 cJx4a65c_init_da8c8 1 (none) [] 0 [some (pv_O (tl, il))] [] h Q
  refine v_aload_n 1 dJx4a65c_init_da8c8_0 rfl rfl ?_
  refine v_invi (d' := 2) (k' := 0) (n' := 0) (k2 := 0) (n2 := 0) 4 [] dJx4a65c_init_da8c8_1 mt_Jx4a65c_1 mi_Jxc12de_init_da8c8 rfl rfl (by first | assumption | rfl) rfl rfl (of_decide_eq_true rfl) rfl (by decide) rfl rfl rfl rfl (C_Jxc12de_init_da8c8 htl h10 ?_)
  refine v_aload_n 5 dJx4a65c_init_da8c8_4 rfl rfl ?_
  refine v_gets (z := (RJx4a65c, "DEFAULTCAPACITY_EMPTY_ELEMENTDATA", "[Ljava/lang/Object;", pv_O (5, 0))) 8 dJx4a65c_init_da8c8_5 gs_Jx4a65c_39 (by simp [g_st]) (by intro r hr; cases hr; decide) rfl ?_
  dsimp only
  refine v_putfr 11 dJx4a65c_init_da8c8_8 pf_Jx4a65c_init_da8c8_9 (by first | assumption | rfl) (by first | assumption | decide) (by rfl) rfl ?_
  refine v_return dJx4a65c_init_da8c8_11 rfl ?_
  exact hq
/-- a fresh list is empty -/
theorem is_L.init {h : PH} {tl il ta : Nat} {f : Nat → RN} (h10 : 10 ≤ tl) (ht : ta ≠ tl) (ha : hp_al h tl il = true) (h2 : hp_vi h tl il 2 = 0) (h5 : hp_al h 5 0 = true) (h50 : hp_ln h 5 0 = 0) (hfr : fr_t h ta) : is_L (hp_setr (hp_seti h tl il 0 0) tl il 1 (5, 0)) tl il ta 0 0 f := by
  refine ⟨ha, ?_, ⟨Nat.le_refl _, by omega⟩, ⟨5, 0, hp_setr_at, h5, h50, fun k hk => absurd hk (Nat.not_lt_zero _), Or.inl ⟨rfl, rfl, rfl⟩⟩, hfr⟩
  show hp_vi (hp_seti h tl il 0 0) tl il 2 = nI 0
  rw [hp_seti_ne (by simp), h2]
  rfl
theorem is_L.add {h : PH} {tl il ta n cap j : Nat} {f : Nat → RN} {r : RN} (hne : ta ≠ tl) (h10 : 10 ≤ cap) (hn : n < cap) (hb : cap ≤ 1000) (a1 : hp_al h tl il = true) (b1 : hp_vr h tl il 1 = (ta, j)) (b2 : hp_al h ta j = true) (b3 : hp_ln h ta j = cap) (b4 : ∀ k, k < n → hp_vr h ta j k = f k) (a5 : fr_t h ta) :
    is_L (hp_seti (hp_setr h ta j n r) tl il 2 (nI (n + 1))) tl il ta (n + 1) cap (fun k => if k = n then r else f k) := by
  refine ⟨a1, hp_seti_at, ⟨hn, hb⟩, ⟨ta, j, ?_, b2, b3, fun k hk => ?_, Or.inr ⟨rfl, h10⟩⟩, a5⟩
  · show hp_vr (hp_setr h ta j n r) tl il 1 = _
    rw [hp_setr_ne (fun q => hne q.1.symm), b1]
  · show hp_vr (hp_setr h ta j n r) ta j k = _
    by_cases e : k = n
    · rw [e, hp_setr_at]; exact (if_pos rfl).symm
    · rw [hp_setr_ne (fun q => e q.2.2)]; exact (b4 k (by omega)).trans (if_neg e).symm
set_option maxRecDepth 20000 in
theorem C0_Jx4a65c_add_72be8 {G : GW} {h : PH} {Q : RS → PH → Prop} {tl il ta n cap j u v : Nat} (htl : tg_k tl = some (.inl 3)) (hta : tg_k ta = some (.inr g_O)) (h10 : 10 ≤ tl) (h11 : 10 ≤ ta) (hu : ob_ok u) (hn : n < cap) (hb : cap < 2 ^ 30) (b3 : hp_ln h ta j = cap) (hq : Q (.inl none) (hp_seti (hp_setr h ta j n (u, v)) tl il 2 (nI (n + 1)))) : VV G 0 0 0 yJx4a65c_add_72be8 cJx4a65c_add_72be8 4 (none) [] 0 (vv_en 4 [pv_O (tl, il), pv_O (u, v), pv_O (ta, j), pv_I (nI n)]) [] h Q := by
  show VV G 0 0 0 yJx4a65c_add_72be8 cJx4a65c_add_72be8 4 (none) [] 0 [some (pv_O (tl, il)), some (pv_O (u, v)), some (pv_O (ta, j)), some (pv_I (nI n))] [] h Q
  refine v_iload_n 1 dJx4a65c_add_72be8_0 rfl rfl ?_
  refine v_aload_n 2 dJx4a65c_add_72be8_1 rfl rfl ?_
  refine v_alen 3 dJx4a65c_add_72be8_2 (by first | assumption | rfl) (by simp [g_tys]) rfl ?_
  rw [b3]
  refine v_icmp_ne 11 6 dJx4a65c_add_72be8_3 (by decide) rfl (fun c3 => ?_) (fun c3 => ?_)
  · refine v_aload_n 12 dJx4a65c_add_72be8_11 rfl rfl ?_
    refine v_iload_n 13 dJx4a65c_add_72be8_12 rfl rfl ?_
    refine v_aload_n 14 dJx4a65c_add_72be8_13 rfl rfl ?_
    refine v_aast 15 dJx4a65c_add_72be8_14 (by first | assumption | rfl) (by first | assumption | decide) hu (by rw [b3]; exact in_nI hn (by omega)) rfl ?_
    rw [nI_clamp (by omega)]
    refine v_aload_n 16 dJx4a65c_add_72be8_15 rfl rfl ?_
    refine v_iload_n 17 dJx4a65c_add_72be8_16 rfl rfl ?_
    refine v_iconstv (v := 1) 18 dJx4a65c_add_72be8_17 (by decide) rfl ?_
    refine v_iadd 19 dJx4a65c_add_72be8_18 rfl ?_
    rw [nI_1 n]
    refine v_putfi 22 dJx4a65c_add_72be8_19 pf_Jx4a65c_add_72be8_48 (by first | assumption | rfl) (by first | assumption | decide) (by rfl) rfl rfl rfl ?_
    refine v_return dJx4a65c_add_72be8_22 rfl ?_
    exact hq
  · exact absurd c3 (by rw [nI_eq (by omega) (by omega)]; omega)
set_option maxRecDepth 20000 in
theorem C0_Jx4a65c_add_9ea2d {G : GW} {h : PH} {Q : RS → PH → Prop} {u v tl il ta n cap : Nat} {f : Nat → RN} (htl : tg_k tl = some (.inl 3)) (hta : tg_k ta = some (.inr g_O)) (hL : is_L h tl il ta n cap f) (h10 : 10 ≤ tl) (h11 : 10 ≤ ta) (hne : ta ≠ tl) (h51 : tl ≠ 5) (h52 : ta ≠ 5) (hu : ob_ok u) (hn : n < cap) (hq : ∀ h', is_L h' tl il ta (n + 1) cap (fun k => if k = n then (u, v) else f k) → (∀ t, t ≠ tl → t ≠ ta → hp_te h h' t) → (∀ i, i ≠ il → hp_al h' tl i = hp_al h tl i ∧ ∀ k, hp_vi h' tl i k = hp_vi h tl i k ∧ hp_vr h' tl i k = hp_vr h tl i k) → Q (.inl (some (pv_I 1))) h') : VV G 1 0 0 yJx4a65c_add_9ea2d cJx4a65c_add_9ea2d 2 (some .boolean) [] 0 (vv_en 2 [pv_O (tl, il), pv_O (u, v)]) [] h Q := by
  show VV G 1 0 0 yJx4a65c_add_9ea2d cJx4a65c_add_9ea2d 2 (some .boolean) [] 0 [some (pv_O (tl, il)), some (pv_O (u, v))] [] h Q
  obtain ⟨a1, a2, a3, ⟨a, j, b1, b2, b3, b4, b5⟩, a5⟩ := hL
  obtain ⟨rfl⟩ : a = ta := by
    rcases b5 with ⟨_, _, q⟩ | ⟨q, _⟩
    · omega
    · exact q
  refine v_aload_n 1 dJx4a65c_add_9ea2d_0 rfl rfl ?_
  refine v_dup 2 dJx4a65c_add_9ea2d_1 rfl rfl ?_
  refine v_getfi 5 dJx4a65c_add_9ea2d_2 fl_Jx4a65c_63 (by first | assumption | rfl) (by rfl) rfl ?_
  refine v_iconstv (v := 1) 6 dJx4a65c_add_9ea2d_5 (by decide) rfl ?_
  refine v_iadd 7 dJx4a65c_add_9ea2d_6 rfl ?_
  refine v_putfi 10 dJx4a65c_add_9ea2d_7 pf_Jx4a65c_add_9ea2d_63 (by first | assumption | rfl) (by first | assumption | decide) (by rfl) rfl rfl rfl ?_
  refine v_aload_n 11 dJx4a65c_add_9ea2d_10 rfl rfl ?_
  refine v_aload_n 12 dJx4a65c_add_9ea2d_11 rfl rfl ?_
  refine v_aload_n 13 dJx4a65c_add_9ea2d_12 rfl rfl ?_
  
  refine v_getfr 16 dJx4a65c_add_9ea2d_13 fl_Jx4a65c_9 (by first | assumption | rfl) (by rfl) rfl ?_
  rw [show hp_vr (hp_seti h tl il 0 (hp_vi h tl il 0 + 1)) tl il 1 = (ta, j) from b1]
  refine v_aload_n 17 dJx4a65c_add_9ea2d_16 rfl rfl ?_
  refine v_getfi 20 dJx4a65c_add_9ea2d_17 fl_Jx4a65c_48 (by first | assumption | rfl) (by rfl) rfl ?_
  rw [show hp_vi (hp_seti h tl il 0 (hp_vi h tl il 0 + 1)) tl il 2 = nI n from (hp_seti_ne (by simp)).trans a2]
  refine v_invv (d' := 0) (k' := 0) (n' := 0) (k2 := 0) (n2 := 0) 23 [_, _, _] dJx4a65c_add_9ea2d_20 mt_Jx4a65c_131 mi_Jx4a65c_add_72be8 me_Jx4a65c_add_72be8 (by first | assumption | rfl) (by rfl) rfl rfl (of_decide_eq_true rfl) rfl (by decide) rfl rfl rfl rfl (C0_Jx4a65c_add_72be8 htl hta h10 h11 hu hn (by omega) b3 ?_)
  refine v_iconstv (v := 1) 24 dJx4a65c_add_9ea2d_23 (by decide) rfl ?_
  refine v_zreturn (ty := .boolean) (by first | rfl | decide | exact nz_if | exact nz_fi) dJx4a65c_add_9ea2d_24 rfl ?_
  refine hq _ (is_L.add (h := hp_seti h tl il 0 (hp_vi h tl il 0 + 1)) hne (by omega) hn a3.2 a1 b1 b2 b3 b4 a5) (fun t e1 e2 => ((hp_te.i e1).tr (hp_te.r e2)).tr (hp_te.i e1)) (fun i hi => ⟨rfl, fun k => ⟨?_, ?_⟩⟩)
  · rw [hp_seti_ne (fun q => hi q.2.1)]; exact hp_seti_ne (fun q => hi q.2.1)
  · exact hp_setr_ne (fun q => hne q.1.symm)
set_option maxRecDepth 20000 in
theorem C_J8_newLength_cabcc {G : GW} {h : PH} {Q : RS → PH → Prop} {c w : Nat} (hc : c < 2 ^ 29) (hw : w < 2 ^ 29) (hw1 : 1 ≤ w) (hq : Q (.inl (some (pv_I (nI (c + w))))) h) : VV G 1 0 0 yJ8_newLength_cabcc cJ8_newLength_cabcc 4 (some .int) [] 0 (vv_en 4 [pv_I (nI c), pv_I (nI 1), pv_I (nI w)]) [] h Q := by
  show VV G 1 0 0 yJ8_newLength_cabcc cJ8_newLength_cabcc 4 (some .int) [] 0 [some (pv_I (nI c)), some (pv_I (nI 1)), some (pv_I (nI w)), none] [] h Q
  refine v_iload_n 1 dJ8_newLength_cabcc_0 rfl rfl ?_
  refine v_iload_n 2 dJ8_newLength_cabcc_1 rfl rfl ?_
  refine v_iload_n 3 dJ8_newLength_cabcc_2 rfl rfl ?_
  refine v_max 6 dJ8_newLength_cabcc_3 ma_J8_194 ma_s_max ma_i rfl (by decide) rfl ?_
  rw [show (if nI 1 < nI w then nI w else nI 1) = nI w from by
      by_cases e : 1 < w
      · rw [if_pos (nI_lt e (by omega))]
      · rw [if_neg (nI_nlt (by omega) (by omega)), show w = 1 from by omega]]
  refine v_iadd 7 dJ8_newLength_cabcc_6 rfl ?_
  rw [nI_add]
  refine v_istore_n 8 dJ8_newLength_cabcc_7 (by decide) rfl rfl ?_
  dsimp only [List.set]
  refine v_iconstv (v := 0) 9 dJ8_newLength_cabcc_8 (by decide) rfl ?_
  refine v_iload_n 10 dJ8_newLength_cabcc_9 rfl rfl ?_
  refine v_icmp_ge 21 13 dJ8_newLength_cabcc_10 (by decide) rfl (fun c10 => ?_) (fun c10 => ?_)
  · exact absurd c10 (by rw [Int32.not_le]; exact nI_lt (a := 0) (by omega) (by omega))
  · refine v_iload_n 14 dJ8_newLength_cabcc_13 rfl rfl ?_
    refine v_ldci (own := RJ8) (v := 2147483639) 16 dJ8_newLength_cabcc_14 cn_J8_200 rfl rfl ?_
    refine v_icmp_gt 21 19 dJ8_newLength_cabcc_16 (by decide) rfl (fun c16 => ?_) (fun c16 => ?_)
    · exact absurd c16 (by rw [Int32.not_lt, Int32.le_iff_toInt_le, nI_toInt (by omega)]; show ((c + w : Nat) : Int) ≤ 2147483639; omega)
    · refine v_iload_n 20 dJ8_newLength_cabcc_19 rfl rfl ?_
      refine v_ireturn dJ8_newLength_cabcc_20 rfl ?_
      exact hq
theorem gc_1 : Cond.methodLink RJ7 86 g_gc ∈ g_ws := g_at 489 (by decide +kernel) (by decide +kernel)
theorem gc_2 : Cond.selects g_OA g_gc g_gc ∈ g_ws := g_at 1925 (by decide +kernel) (by decide +kernel)
theorem gc_3 : Cond.instanceMethod g_gc ∈ g_ws := g_at 490 (by decide +kernel) (by decide +kernel)
theorem gc_4 : Cond.native g_gc ∈ g_ws := g_at 515 (by decide +kernel) (by decide +kernel)
theorem ay_1 : Cond.methodLink RJ7 150 arraycopyName ∈ g_ws := g_at 523 (by decide +kernel) (by decide +kernel)
theorem ay_1b : Cond.methodLink RJx4a65c 112 arraycopyName ∈ g_ws := g_at 1194 (by decide +kernel) (by decide +kernel)
theorem ay_2 : Cond.native arraycopyName ∈ g_ws := g_at 525 (by decide +kernel) (by decide +kernel)
theorem ay_3 : Cond.static arraycopyName ∈ g_ws := g_at 524 (by decide +kernel) (by decide +kernel)
theorem ay_4 : Cond.initialized "java/lang/System" ∈ g_ws := g_at 57 (by decide +kernel) (by decide +kernel)
set_option maxRecDepth 20000 in
theorem C_J7_copyOf_6403c {G : GW} {h : PH} {Q : RS → PH → Prop} {ta j g c w : Nat} (hta : tg_k ta = some (.inr g_O)) (h11 : 10 ≤ ta) (hg : hp_al h ta g = false) (hgj : g ≠ j) (hc : hp_ln h ta j = c) (hcw : c ≤ w) (hw : w < 2 ^ 20) (hel : ∀ k, k < c → hp_vr h ta j k = (0, 0) ∨ ob_ok (hp_vr h ta j k).1) (hq : Q (.inl (some (pv_O (ta, g)))) (hp_cpy (hp_new h ta g w) ta j ta g 0 0 c)) : VV G 1 1 w yJ7_copyOf_6403c cJ7_copyOf_6403c 4 (some (.array (.object "java/lang/Object"))) [] 0 (vv_en 4 [pv_O (ta, j), pv_I (nI w), pv_O (8, 0)]) [] h Q := by
  show VV G 1 1 w yJ7_copyOf_6403c cJ7_copyOf_6403c 4 (some (.array (.object "java/lang/Object"))) [] 0 [some (pv_O (ta, j)), some (pv_I (nI w)), some (pv_O (8, 0)), none] [] h Q
  refine v_aload_n 1 dJ7_copyOf_6403c_0 rfl rfl ?_
  refine v_ldcM 3 dJ7_copyOf_6403c_1 cl_J7_110 rfl ?_
  refine v_acmp_ne 13 6 dJ7_copyOf_6403c_3 (Or.inl rfl) (by decide) rfl (fun c3 => ?_) (fun c3 => ?_)
  · exact absurd rfl c3
  · refine v_iload_n 7 dJ7_copyOf_6403c_6 rfl rfl ?_
    refine v_anewarr (N := w) (k1 := 0) (n1 := 0) 10 ta g dJ7_copyOf_6403c_7 cl_J7_2 hta h11 hg (nI_pos (by omega)) (nI_clamp (by omega)) (by omega) rfl (by omega) rfl ?_
    refine v_goto 24 dJ7_copyOf_6403c_10 (by decide) ?_
    refine v_astore_n 25 dJ7_copyOf_6403c_24 (by decide) rfl rfl ?_
    dsimp only [List.set]
    refine v_aload_n 26 dJ7_copyOf_6403c_25 rfl rfl ?_
    refine v_iconstv (v := 0) 27 dJ7_copyOf_6403c_26 (by decide) rfl ?_
    refine v_aload_n 28 dJ7_copyOf_6403c_27 rfl rfl ?_
    refine v_iconstv (v := 0) 29 dJ7_copyOf_6403c_28 (by decide) rfl ?_
    refine v_aload_n 30 dJ7_copyOf_6403c_29 rfl rfl ?_
    skip
    refine v_alen 31 dJ7_copyOf_6403c_30 (by first | assumption | rfl) (by simp [g_tys]) rfl ?_
    rw [(hp_new_ne (fun q => hgj q.2.symm)).2.1, hc]
    refine v_iload_n 32 dJ7_copyOf_6403c_31 rfl rfl ?_
    refine v_min 35 dJ7_copyOf_6403c_32 ma_J7_304 ma_s_min ma_i rfl (by decide) rfl ?_
    rw [if_neg (nI_nlt hcw (by omega))]
    refine v_copy 38 dJ7_copyOf_6403c_35 ay_1 ay_2 ay_3 ay_4 hta hta h11 h11 (by decide) (by decide) (nI_pos (by omega)) ?_ ?_ ?_ rfl (by decide) rfl ?_
    · rw [nI_clamp (by omega), (hp_new_ne (fun q => hgj q.2.symm)).2.1, hc]; exact Nat.le_of_eq (Nat.zero_add c)
    · rw [nI_clamp (by omega), hp_new_ln0]; show 0 + c ≤ w; omega
    · intro k hk
      rw [nI_clamp (by omega)] at hk
      have e0 : ((0 : Int32).toNatClampNeg + k) = k := Nat.zero_add k
      rw [e0, ((hp_new_ne (fun q => hgj q.2.symm)).2.2 k).2]
      exact hel k hk
    rw [nI_clamp (n := c) (by omega)]
    refine v_aload_n 39 dJ7_copyOf_6403c_38 rfl rfl ?_
    refine v_areturn dJ7_copyOf_6403c_39 rfl (Or.inr ⟨_, rfl⟩) ?_
    exact hq
set_option maxRecDepth 20000 in
theorem C_J7_copyOf_1904c {G : GW} {h : PH} {Q : RS → PH → Prop} {ta j g c w : Nat} (hta : tg_k ta = some (.inr g_O)) (h11 : 10 ≤ ta) (hg : hp_al h ta g = false) (hgj : g ≠ j) (hc : hp_ln h ta j = c) (hcw : c ≤ w) (hw : w < 2 ^ 20) (hel : ∀ k, k < c → hp_vr h ta j k = (0, 0) ∨ ob_ok (hp_vr h ta j k).1) (hq : Q (.inl (some (pv_O (ta, g)))) (hp_cpy (hp_new h ta g w) ta j ta g 0 0 c)) : VV G 2 1 w yJ7_copyOf_1904c cJ7_copyOf_1904c 2 (some (.array (.object "java/lang/Object"))) [] 0 (vv_en 2 [pv_O (ta, j), pv_I (nI w)]) [] h Q := by
  show VV G 2 1 w yJ7_copyOf_1904c cJ7_copyOf_1904c 2 (some (.array (.object "java/lang/Object"))) [] 0 [some (pv_O (ta, j)), some (pv_I (nI w))] [] h Q
  refine v_aload_n 1 dJ7_copyOf_1904c_0 rfl rfl ?_
  refine v_iload_n 2 dJ7_copyOf_1904c_1 rfl rfl ?_
  refine v_aload_n 3 dJ7_copyOf_1904c_2 rfl rfl ?_
  refine v_getC 6 dJ7_copyOf_1904c_3 hta h11 gc_1 gc_2 gc_3 gc_4 rfl (by decide) rfl ?_
  refine v_invs (d' := 1) (k' := 1) (n' := w) (k2 := 0) (n2 := 0) 9 [_, _, _] dJ7_copyOf_1904c_6 mt_J7_300 ms_J7_copyOf_6403c rfl rfl (of_decide_eq_true rfl) rfl (by decide) rfl (Nat.zero_add w) rfl rfl (C_J7_copyOf_6403c hta h11 hg hgj hc hcw hw hel ?_)
  refine v_areturn dJ7_copyOf_1904c_9 rfl (Or.inr ⟨_, rfl⟩) ?_
  exact hq
set_option maxRecDepth 20000 in
theorem C1_Jx4a65c_grow_92f84 {G : GW} {h : PH} {Q : RS → PH → Prop} {tl il ta j g c : Nat} (htl : tg_k tl = some (.inl 3)) (hta : tg_k ta = some (.inr g_O)) (h10 : 10 ≤ tl) (h11 : 10 ≤ ta) (hne : ta ≠ tl) (h52 : ta ≠ 5) (hc2 : 2 ≤ c) (hc : c < 2 ^ 19) (b1 : hp_vr h tl il 1 = (ta, j)) (b3 : hp_ln h ta j = c) (hg : hp_al h ta g = false) (hgj : g ≠ j) (hel : ∀ k, k < c → hp_vr h ta j k = (0, 0) ∨ ob_ok (hp_vr h ta j k).1) (hq : Q (.inl (some (pv_O (ta, g)))) (hp_setr (hp_cpy (hp_new h ta g (c + c / 2)) ta j ta g 0 0 c) tl il 1 (ta, g))) : VV G 3 1 (c + c / 2) yJx4a65c_grow_92f84 cJx4a65c_grow_92f84 4 (some (.array (.object "java/lang/Object"))) [] 0 (vv_en 4 [pv_O (tl, il), pv_I (nI (c + 1))]) [] h Q := by
  show VV G 3 1 (c + c / 2) yJx4a65c_grow_92f84 cJx4a65c_grow_92f84 4 (some (.array (.object "java/lang/Object"))) [] 0 [some (pv_O (tl, il)), some (pv_I (nI (c + 1))), none, none] [] h Q
  refine v_aload_n 1 dJx4a65c_grow_92f84_0 rfl rfl ?_
  refine v_getfr 4 dJx4a65c_grow_92f84_1 fl_Jx4a65c_9 (by first | assumption | rfl) (by rfl) rfl ?_
  rw [b1]
  refine v_alen 5 dJx4a65c_grow_92f84_4 (by first | assumption | rfl) (by simp [g_tys]) rfl ?_
  rw [b3]
  refine v_istore_n 6 dJx4a65c_grow_92f84_5 (by decide) rfl rfl ?_
  dsimp only [List.set]
  refine v_iload_n 7 dJx4a65c_grow_92f84_6 rfl rfl ?_
  refine v_if_gt 20 10 dJx4a65c_grow_92f84_7 (by decide) rfl (fun c7 => ?_) (fun c7 => ?_)
  · refine v_iload_n 21 dJx4a65c_grow_92f84_20 rfl rfl ?_
    refine v_iload_n 22 dJx4a65c_grow_92f84_21 rfl rfl ?_
    refine v_iload_n 23 dJx4a65c_grow_92f84_22 rfl rfl ?_
    refine v_isub 24 dJx4a65c_grow_92f84_23 rfl ?_
    rw [show nI (c + 1) - nI c = nI 1 from by rw [pk_sub (by omega)]; exact congrArg nI (by omega)]
    refine v_iload_n 25 dJx4a65c_grow_92f84_24 rfl rfl ?_
    refine v_iconstv (v := 1) 26 dJx4a65c_grow_92f84_25 (by decide) rfl ?_
    refine v_ishr 27 dJx4a65c_grow_92f84_26 rfl ?_
    rw [pk_shrN (n := c) (by omega) ((1 : Int32) &&& 31) 1 (by decide)]
    refine v_invs (d' := 1) (k' := 0) (n' := 0) (k2 := 1) (n2 := c + c / 2) 30 [_, _, _] dJx4a65c_grow_92f84_27 mt_Jx4a65c_73 ms_J8_newLength_cabcc rfl rfl (of_decide_eq_true rfl) rfl (by decide) rfl rfl rfl rfl (C_J8_newLength_cabcc (by omega) (by omega) (by omega) ?_)
    refine v_istore_n 31 dJx4a65c_grow_92f84_30 (by decide) rfl rfl ?_
    dsimp only [List.set]
    refine v_aload_n 32 dJx4a65c_grow_92f84_31 rfl rfl ?_
    refine v_aload_n 33 dJx4a65c_grow_92f84_32 rfl rfl ?_
    refine v_getfr 36 dJx4a65c_grow_92f84_33 fl_Jx4a65c_9 (by first | assumption | rfl) (by rfl) rfl ?_
    rw [b1]
    refine v_iload_n 37 dJx4a65c_grow_92f84_36 rfl rfl ?_
    refine v_invs (d' := 2) (k' := 1) (n' := c + c / 2) (k2 := 0) (n2 := 0) 40 [_, _] dJx4a65c_grow_92f84_37 mt_Jx4a65c_66 ms_J7_copyOf_1904c rfl rfl (of_decide_eq_true rfl) rfl (by decide) rfl (Nat.zero_add _) rfl rfl (C_J7_copyOf_1904c (w := c + c / 2) hta h11 hg hgj b3 (by omega) (by omega) hel ?_)
    refine v_dup_x1 41 dJx4a65c_grow_92f84_40 rfl rfl rfl ?_
    refine v_putfr 44 dJx4a65c_grow_92f84_41 pf_Jx4a65c_grow_92f84_9 (by first | assumption | rfl) (by first | assumption | decide) (by rfl) rfl ?_
    refine v_areturn dJx4a65c_grow_92f84_44 rfl (Or.inr ⟨_, rfl⟩) ?_
    exact hq
  · exact absurd (nI_lt (a := 0) (b := c) (by omega) (by omega)) c7
set_option maxRecDepth 20000 in
theorem C2_Jx4a65c_grow_92f84 {G : GW} {h : PH} {Q : RS → PH → Prop} {tl il ta g : Nat} (htl : tg_k tl = some (.inl 3)) (hta : tg_k ta = some (.inr g_O)) (h10 : 10 ≤ tl) (h11 : 10 ≤ ta) (b1 : hp_vr h tl il 1 = (5, 0)) (hg : hp_al h ta g = false) (hq : Q (.inl (some (pv_O (ta, g)))) (hp_setr (hp_new h ta g 10) tl il 1 (ta, g))) : VV G 3 1 10 yJx4a65c_grow_92f84 cJx4a65c_grow_92f84 4 (some (.array (.object "java/lang/Object"))) [] 0 (vv_en 4 [pv_O (tl, il), pv_I (nI 1)]) [] h Q := by
  show VV G 3 1 10 yJx4a65c_grow_92f84 cJx4a65c_grow_92f84 4 (some (.array (.object "java/lang/Object"))) [] 0 [some (pv_O (tl, il)), some (pv_I (nI 1)), none, none] [] h Q
  refine VV.know (fun ho9 _ _ => ?_)
  refine v_aload_n 1 dJx4a65c_grow_92f84_0 rfl rfl ?_
  refine v_getfr 4 dJx4a65c_grow_92f84_1 fl_Jx4a65c_9 (by first | assumption | rfl) (by rfl) rfl ?_
  rw [b1]
  refine v_alen 5 dJx4a65c_grow_92f84_4 (by first | assumption | rfl) (by simp [g_tys]) rfl ?_
  rw [ho9.2.2.2.2.2.1]
  refine v_istore_n 6 dJx4a65c_grow_92f84_5 (by decide) rfl rfl ?_
  dsimp only [List.set]
  refine v_iload_n 7 dJx4a65c_grow_92f84_6 rfl rfl ?_
  refine v_if_gt 20 10 dJx4a65c_grow_92f84_7 (by decide) rfl (fun c7 => ?_) (fun c7 => ?_)
  · exact absurd c7 (by decide)
  · refine v_aload_n 11 dJx4a65c_grow_92f84_10 rfl rfl ?_
    refine v_getfr 14 dJx4a65c_grow_92f84_11 fl_Jx4a65c_9 (by first | assumption | rfl) (by rfl) rfl ?_
    refine v_gets (z := (RJx4a65c, "DEFAULTCAPACITY_EMPTY_ELEMENTDATA", "[Ljava/lang/Object;", pv_O (5, 0))) 17 dJx4a65c_grow_92f84_14 gs_Jx4a65c_39 (by simp [g_st]) (by intro r hr; cases hr; decide) rfl ?_
    dsimp only
    rw [b1]
    refine v_acmp_eq 45 20 dJx4a65c_grow_92f84_17 (Or.inl rfl) (by decide) rfl (fun c17 => ?_) (fun c17 => ?_)
    · refine v_aload_n 46 dJx4a65c_grow_92f84_45 rfl rfl ?_
      refine v_bipushv (v := 10) 48 dJx4a65c_grow_92f84_46 (by decide) rfl ?_
      refine v_iload_n 49 dJx4a65c_grow_92f84_48 rfl rfl ?_
      refine v_max 52 dJx4a65c_grow_92f84_49 ma_Jx4a65c_79 ma_s_max ma_i rfl (by decide) rfl ?_
      rw [show (if (10 : Int32) < nI 1 then nI 1 else 10) = 10 from rfl]
      refine v_anewarr (N := 10) (k1 := 0) (n1 := 0) 55 ta g dJx4a65c_grow_92f84_52 cl_Jx4a65c_7 hta h11 hg (by decide) rfl (by decide) rfl rfl rfl ?_
      refine v_dup_x1 56 dJx4a65c_grow_92f84_55 rfl rfl rfl ?_
      refine v_putfr 59 dJx4a65c_grow_92f84_56 pf_Jx4a65c_grow_92f84_9 htl h10 (by rfl) rfl ?_
      exact v_areturn dJx4a65c_grow_92f84_59 rfl (Or.inr ⟨_, rfl⟩) hq
    · exact absurd rfl c17
set_option maxRecDepth 20000 in
theorem C1_Jx4a65c_grow_d5877 {G : GW} {h : PH} {Q : RS → PH → Prop} {tl il ta j g c : Nat} (htl : tg_k tl = some (.inl 3)) (hta : tg_k ta = some (.inr g_O)) (h10 : 10 ≤ tl) (h11 : 10 ≤ ta) (hne : ta ≠ tl) (h52 : ta ≠ 5) (hc2 : 2 ≤ c) (hc : c < 2 ^ 19) (a2 : hp_vi h tl il 2 = nI c) (b1 : hp_vr h tl il 1 = (ta, j)) (b3 : hp_ln h ta j = c) (hg : hp_al h ta g = false) (hgj : g ≠ j) (hel : ∀ k, k < c → hp_vr h ta j k = (0, 0) ∨ ob_ok (hp_vr h ta j k).1) (hq : Q (.inl (some (pv_O (ta, g)))) (hp_setr (hp_cpy (hp_new h ta g (c + c / 2)) ta j ta g 0 0 c) tl il 1 (ta, g))) : VV G 4 1 (c + c / 2) yJx4a65c_grow_d5877 cJx4a65c_grow_d5877 1 (some (.array (.object "java/lang/Object"))) [] 0 (vv_en 1 [pv_O (tl, il)]) [] h Q := by
  show VV G 4 1 (c + c / 2) yJx4a65c_grow_d5877 cJx4a65c_grow_d5877 1 (some (.array (.object "java/lang/Object"))) [] 0 [some (pv_O (tl, il))] [] h Q
  refine v_aload_n 1 dJx4a65c_grow_d5877_0 rfl rfl ?_
  refine v_aload_n 2 dJx4a65c_grow_d5877_1 rfl rfl ?_
  refine v_getfi 5 dJx4a65c_grow_d5877_2 fl_Jx4a65c_48 (by first | assumption | rfl) (by rfl) rfl ?_
  rw [a2]
  refine v_iconstv (v := 1) 6 dJx4a65c_grow_d5877_5 (by decide) rfl ?_
  refine v_iadd 7 dJx4a65c_grow_d5877_6 rfl ?_
  rw [show nI c + 1 = nI (c + 1) from nI_1 c]
  refine v_invv (d' := 3) (k' := 1) (n' := (c + c / 2)) (k2 := 0) (n2 := 0) 10 [_] dJx4a65c_grow_d5877_7 mt_Jx4a65c_69 mi_Jx4a65c_grow_92f84 me_Jx4a65c_grow_92f84 htl (by rfl) rfl rfl (of_decide_eq_true rfl) rfl (by decide) rfl (Nat.zero_add _) rfl rfl (C1_Jx4a65c_grow_92f84 htl hta h10 h11 hne h52 hc2 hc b1 b3 hg hgj hel ?_)
  refine v_areturn dJx4a65c_grow_d5877_10 rfl (Or.inr ⟨_, rfl⟩) ?_
  exact hq
set_option maxRecDepth 20000 in
theorem C2_Jx4a65c_grow_d5877 {G : GW} {h : PH} {Q : RS → PH → Prop} {tl il ta g : Nat} (htl : tg_k tl = some (.inl 3)) (hta : tg_k ta = some (.inr g_O)) (h10 : 10 ≤ tl) (h11 : 10 ≤ ta) (a2 : hp_vi h tl il 2 = nI 0) (b1 : hp_vr h tl il 1 = (5, 0)) (hg : hp_al h ta g = false) (hq : Q (.inl (some (pv_O (ta, g)))) (hp_setr (hp_new h ta g 10) tl il 1 (ta, g))) : VV G 4 1 10 yJx4a65c_grow_d5877 cJx4a65c_grow_d5877 1 (some (.array (.object "java/lang/Object"))) [] 0 (vv_en 1 [pv_O (tl, il)]) [] h Q := by
  show VV G 4 1 10 yJx4a65c_grow_d5877 cJx4a65c_grow_d5877 1 (some (.array (.object "java/lang/Object"))) [] 0 [some (pv_O (tl, il))] [] h Q
  refine v_aload_n 1 dJx4a65c_grow_d5877_0 rfl rfl ?_
  refine v_aload_n 2 dJx4a65c_grow_d5877_1 rfl rfl ?_
  refine v_getfi 5 dJx4a65c_grow_d5877_2 fl_Jx4a65c_48 (by first | assumption | rfl) (by rfl) rfl ?_
  rw [a2]
  refine v_iconstv (v := 1) 6 dJx4a65c_grow_d5877_5 (by decide) rfl ?_
  refine v_iadd 7 dJx4a65c_grow_d5877_6 rfl ?_
  rw [show nI 0 + 1 = nI (0 + 1) from nI_1 0]
  refine v_invv (d' := 3) (k' := 1) (n' := 10) (k2 := 0) (n2 := 0) 10 [_] dJx4a65c_grow_d5877_7 mt_Jx4a65c_69 mi_Jx4a65c_grow_92f84 me_Jx4a65c_grow_92f84 htl (by rfl) rfl rfl (of_decide_eq_true rfl) rfl (by decide) rfl (Nat.zero_add _) rfl rfl (C2_Jx4a65c_grow_92f84 htl hta h10 h11 b1 hg ?_)
  refine v_areturn dJx4a65c_grow_d5877_10 rfl (Or.inr ⟨_, rfl⟩) ?_
  exact hq
