set_option maxRecDepth 20000 in
theorem C1_Jx4a65c_add_72be8 {G : GW} {h : PH} {Q : RS → PH → Prop} {u v tl il ta j g c : Nat} (htl : tg_k tl = some (.inl 3)) (hta : tg_k ta = some (.inr g_O)) (h10 : 10 ≤ tl) (h11 : 10 ≤ ta) (hne : ta ≠ tl) (h52 : ta ≠ 5) (hc2 : 2 ≤ c) (hc : c < 2 ^ 19) (a2 : hp_vi h tl il 2 = nI c) (b1 : hp_vr h tl il 1 = (ta, j)) (b3 : hp_ln h ta j = c) (hg : hp_al h ta g = false) (hgj : g ≠ j) (hel : ∀ k, k < c → hp_vr h ta j k = (0, 0) ∨ ob_ok (hp_vr h ta j k).1) (hu : ob_ok u) (hq : Q (.inl none) (hp_seti (hp_setr (hp_setr (hp_cpy (hp_new h ta g (c + c / 2)) ta j ta g 0 0 c) tl il 1 (ta, g)) ta g c (u, v)) tl il 2 (nI (c + 1)))) : VV G 5 1 (c + c / 2) yJx4a65c_add_72be8 cJx4a65c_add_72be8 4 (none) [] 0 (vv_en 4 [pv_O (tl, il), pv_O (u, v), pv_O (ta, j), pv_I (nI c)]) [] h Q := by
  show VV G 5 1 (c + c / 2) yJx4a65c_add_72be8 cJx4a65c_add_72be8 4 (none) [] 0 [some (pv_O (tl, il)), some (pv_O (u, v)), some (pv_O (ta, j)), some (pv_I (nI c))] [] h Q
  refine v_iload_n 1 dJx4a65c_add_72be8_0 rfl rfl ?_
  refine v_aload_n 2 dJx4a65c_add_72be8_1 rfl rfl ?_
  refine v_alen 3 dJx4a65c_add_72be8_2 (by first | assumption | rfl) (by simp [g_tys]) rfl ?_
  rw [b3]
  refine v_icmp_ne 11 6 dJx4a65c_add_72be8_3 (by decide) rfl (fun c3 => ?_) (fun c3 => ?_)
  · exact absurd rfl c3
  · refine v_aload_n 7 dJx4a65c_add_72be8_6 rfl rfl ?_
    refine v_invv (d' := 4) (k' := 1) (n' := (c + c / 2)) (k2 := 0) (n2 := 0) 10 [] dJx4a65c_add_72be8_7 mt_Jx4a65c_129 mi_Jx4a65c_grow_d5877 me_Jx4a65c_grow_d5877 htl (by rfl) rfl rfl (of_decide_eq_true rfl) rfl (by decide) rfl (Nat.zero_add _) rfl rfl (C1_Jx4a65c_grow_d5877 htl hta h10 h11 hne h52 hc2 hc a2 b1 b3 hg hgj hel ?_)
    refine v_astore_n 11 dJx4a65c_add_72be8_10 (by decide) rfl rfl ?_
    dsimp only [List.set]
    refine v_aload_n 12 dJx4a65c_add_72be8_11 rfl rfl ?_
    refine v_iload_n 13 dJx4a65c_add_72be8_12 rfl rfl ?_
    refine v_aload_n 14 dJx4a65c_add_72be8_13 rfl rfl ?_
    refine v_aast 15 dJx4a65c_add_72be8_14 (by first | assumption | rfl) (by first | assumption | decide) hu (by rw [show hp_ln (hp_setr (hp_cpy (hp_new h ta g (c + c / 2)) ta j ta g 0 0 c) tl il 1 (ta, g)) ta g = c + c / 2 from hp_new_ln0]; exact in_nI (by omega) (by omega)) rfl ?_
    rw [nI_clamp (by omega)]
    refine v_aload_n 16 dJx4a65c_add_72be8_15 rfl rfl ?_
    refine v_iload_n 17 dJx4a65c_add_72be8_16 rfl rfl ?_
    refine v_iconstv (v := 1) 18 dJx4a65c_add_72be8_17 (by decide) rfl ?_
    refine v_iadd 19 dJx4a65c_add_72be8_18 rfl ?_
    rw [nI_1 c]
    refine v_putfi 22 dJx4a65c_add_72be8_19 pf_Jx4a65c_add_72be8_48 (by first | assumption | rfl) (by first | assumption | decide) (by rfl) rfl rfl rfl ?_
    refine v_return dJx4a65c_add_72be8_22 rfl ?_
    exact hq
set_option maxRecDepth 20000 in
theorem C2_Jx4a65c_add_72be8 {G : GW} {h : PH} {Q : RS → PH → Prop} {u v tl il ta g : Nat} (htl : tg_k tl = some (.inl 3)) (hta : tg_k ta = some (.inr g_O)) (h10 : 10 ≤ tl) (h11 : 10 ≤ ta) (a2 : hp_vi h tl il 2 = nI 0) (b1 : hp_vr h tl il 1 = (5, 0)) (hg : hp_al h ta g = false) (hu : ob_ok u) (hq : Q (.inl none) (hp_seti (hp_setr (hp_setr (hp_new h ta g 10) tl il 1 (ta, g)) ta g 0 (u, v)) tl il 2 (nI (0 + 1)))) : VV G 5 1 10 yJx4a65c_add_72be8 cJx4a65c_add_72be8 4 (none) [] 0 (vv_en 4 [pv_O (tl, il), pv_O (u, v), pv_O (5, 0), pv_I (nI 0)]) [] h Q := by
  show VV G 5 1 10 yJx4a65c_add_72be8 cJx4a65c_add_72be8 4 (none) [] 0 [some (pv_O (tl, il)), some (pv_O (u, v)), some (pv_O (5, 0)), some (pv_I (nI 0))] [] h Q
  refine VV.know (fun ho9 _ _ => ?_)
  refine v_iload_n 1 dJx4a65c_add_72be8_0 rfl rfl ?_
  refine v_aload_n 2 dJx4a65c_add_72be8_1 rfl rfl ?_
  refine v_alen 3 dJx4a65c_add_72be8_2 (by first | assumption | rfl) (by simp [g_tys]) rfl ?_
  rw [ho9.2.2.2.2.2.1]
  refine v_icmp_ne 11 6 dJx4a65c_add_72be8_3 (by decide) rfl (fun c3 => ?_) (fun c3 => ?_)
  · exact absurd rfl c3
  · refine v_aload_n 7 dJx4a65c_add_72be8_6 rfl rfl ?_
    refine v_invv (d' := 4) (k' := 1) (n' := 10) (k2 := 0) (n2 := 0) 10 [] dJx4a65c_add_72be8_7 mt_Jx4a65c_129 mi_Jx4a65c_grow_d5877 me_Jx4a65c_grow_d5877 htl (by rfl) rfl rfl (of_decide_eq_true rfl) rfl (by decide) rfl (Nat.zero_add _) rfl rfl (C2_Jx4a65c_grow_d5877 htl hta h10 h11 a2 b1 hg ?_)
    refine v_astore_n 11 dJx4a65c_add_72be8_10 (by decide) rfl rfl ?_
    dsimp only [List.set]
    refine v_aload_n 12 dJx4a65c_add_72be8_11 rfl rfl ?_
    refine v_iload_n 13 dJx4a65c_add_72be8_12 rfl rfl ?_
    refine v_aload_n 14 dJx4a65c_add_72be8_13 rfl rfl ?_
    refine v_aast 15 dJx4a65c_add_72be8_14 (by first | assumption | rfl) (by first | assumption | decide) hu (by rw [show hp_ln (hp_setr (hp_new h ta g 10) tl il 1 (ta, g)) ta g = 10 from hp_new_ln0]; exact in_nI (by omega) (by omega)) rfl ?_
    rw [nI_clamp (by omega)]
    refine v_aload_n 16 dJx4a65c_add_72be8_15 rfl rfl ?_
    refine v_iload_n 17 dJx4a65c_add_72be8_16 rfl rfl ?_
    refine v_iconstv (v := 1) 18 dJx4a65c_add_72be8_17 (by decide) rfl ?_
    refine v_iadd 19 dJx4a65c_add_72be8_18 rfl ?_
    rw [nI_1 0]
    refine v_putfi 22 dJx4a65c_add_72be8_19 pf_Jx4a65c_add_72be8_48 (by first | assumption | rfl) (by first | assumption | decide) (by rfl) rfl rfl rfl ?_
    refine v_return dJx4a65c_add_72be8_22 rfl ?_
    exact hq
theorem is_L.add1 {h : PH} {tl il ta g j c : Nat} {f : Nat → RN} {r : RN} (hne : ta ≠ tl) (hc : c ≤ 600) (hc2 : 10 ≤ c) (a1 : hp_al h tl il = true) (hg : hp_al h ta g = false) (hgj : g ≠ j) (b4 : ∀ k, k < c → hp_vr h ta j k = f k) (a5 : fr_t h ta) :
    is_L (hp_seti (hp_setr (hp_setr (hp_cpy (hp_new h ta g (c + c / 2)) ta j ta g 0 0 c) tl il 1 (ta, g)) ta g c r) tl il 2 (nI (c + 1))) tl il ta (c + 1) (c + c / 2) (fun k => if k = c then r else f k) := by
  refine ⟨hp_new_keep (n := c + c / 2) a1, hp_seti_at, ⟨by omega, by omega⟩, ⟨ta, g, ?_, hp_new_al0 (n := c + c / 2), hp_new_ln0, fun k hk => ?_, Or.inr ⟨rfl, by omega⟩⟩, a5.new (n := c + c / 2)⟩
  · show hp_vr (hp_setr _ ta g c r) tl il 1 = _
    rw [hp_setr_ne (fun q => hne q.1.symm), hp_setr_at]
  · show hp_vr (hp_setr _ ta g c r) ta g k = _
    by_cases e : k = c
    · rw [e, hp_setr_at]; exact (if_pos rfl).symm
    · refine Eq.trans ?_ (if_neg e).symm
      rw [hp_setr_ne (fun q => e q.2.2), hp_setr_ne (fun q => hne q.1)]
      show (if ta = ta ∧ g = g ∧ 0 ≤ k ∧ k < 0 + c then hp_vr (hp_new h ta g (c + c / 2)) ta j (0 + (k - 0)) else _) = _
      rw [if_pos ⟨rfl, rfl, Nat.zero_le k, by omega⟩, Nat.zero_add, Nat.sub_zero, ((hp_new_ne (fun q => hgj q.2.symm)).2.2 k).2]
      exact b4 k (by omega)
theorem is_L.add2 {h : PH} {tl il ta g : Nat} {f : Nat → RN} {r : RN} (hne : ta ≠ tl) (a1 : hp_al h tl il = true) (a5 : fr_t h ta) :
    is_L (hp_seti (hp_setr (hp_setr (hp_new h ta g 10) tl il 1 (ta, g)) ta g 0 r) tl il 2 (nI (0 + 1))) tl il ta (0 + 1) 10 (fun k => if k = 0 then r else f k) := by
  refine ⟨hp_new_keep (n := 10) a1, hp_seti_at, ⟨by omega, by omega⟩, ⟨ta, g, ?_, hp_new_al0 (n := 10), hp_new_ln0, fun k hk => ?_, Or.inr ⟨rfl, by omega⟩⟩, a5.new (n := 10)⟩
  · show hp_vr (hp_setr _ ta g 0 r) tl il 1 = _
    rw [hp_setr_ne (fun q => hne q.1.symm), hp_setr_at]
  · show hp_vr (hp_setr _ ta g 0 r) ta g k = _
    obtain rfl : k = 0 := by omega
    rw [hp_setr_at]; exact (if_pos rfl).symm
set_option maxRecDepth 20000 in
theorem C1_Jx4a65c_add_9ea2d {G : GW} {h : PH} {Q : RS → PH → Prop} {u v tl il ta n cap : Nat} {f : Nat → RN} (htl : tg_k tl = some (.inl 3)) (hta : tg_k ta = some (.inr g_O)) (hL : is_L h tl il ta n cap f) (h10 : 10 ≤ tl) (h11 : 10 ≤ ta) (hne : ta ≠ tl) (h51 : tl ≠ 5) (h52 : ta ≠ 5) (hu : ob_ok u) (hn : n = cap) (hc2 : 10 ≤ cap) (hc9 : cap ≤ 600) (hel : ∀ k, k < n → f k = (0, 0) ∨ ob_ok (f k).1) (hq : ∀ h', is_L h' tl il ta (n + 1) (cap + cap / 2) (fun k => if k = n then (u, v) else f k) → (∀ t, t ≠ tl → t ≠ ta → hp_te h h' t) → (∀ i, i ≠ il → hp_al h' tl i = hp_al h tl i ∧ ∀ k, hp_vi h' tl i k = hp_vi h tl i k ∧ hp_vr h' tl i k = hp_vr h tl i k) → Q (.inl (some (pv_I 1))) h') : VV G 6 1 (cap + cap / 2) yJx4a65c_add_9ea2d cJx4a65c_add_9ea2d 2 (some .boolean) [] 0 (vv_en 2 [pv_O (tl, il), pv_O (u, v)]) [] h Q := by
  show VV G 6 1 (cap + cap / 2) yJx4a65c_add_9ea2d cJx4a65c_add_9ea2d 2 (some .boolean) [] 0 [some (pv_O (tl, il)), some (pv_O (u, v))] [] h Q
  obtain ⟨a1, a2, a3, ⟨a, j, b1, b2, b3, b4, b5⟩, a5⟩ := hL
  obtain ⟨g0, hg0⟩ := a5
  have a5 : fr_t h ta := ⟨g0, hg0⟩
  obtain ⟨rfl⟩ : a = ta := by
    rcases b5 with ⟨_, _, q⟩ | ⟨q, _⟩
    · omega
    · exact q
  subst hn
  have hgj : max g0 (j + 1) ≠ j := by omega
  refine v_aload_n 1 dJx4a65c_add_9ea2d_0 rfl rfl ?_
  refine v_dup 2 dJx4a65c_add_9ea2d_1 rfl rfl ?_
  refine v_getfi 5 dJx4a65c_add_9ea2d_2 fl_Jx4a65c_63 (by first | assumption | rfl) (by rfl) rfl ?_
  refine v_iconstv (v := 1) 6 dJx4a65c_add_9ea2d_5 (by decide) rfl ?_
  refine v_iadd 7 dJx4a65c_add_9ea2d_6 rfl ?_
  refine v_putfi 10 dJx4a65c_add_9ea2d_7 pf_Jx4a65c_add_9ea2d_63 (by first | assumption | rfl) (by first | assumption | decide) (by rfl) rfl rfl rfl ?_
  refine v_aload_n 11 dJx4a65c_add_9ea2d_10 rfl rfl ?_
  refine v_aload_n 12 dJx4a65c_add_9ea2d_11 rfl rfl ?_
  refine v_aload_n 13 dJx4a65c_add_9ea2d_12 rfl rfl ?_
  refine v_getfr 16 dJx4a65c_add_9ea2d_13 fl_Jx4a65c_9 (by first | assumption | rfl) (by rfl) rfl ?_
  rw [show hp_vr (hp_seti h tl il 0 (hp_vi h tl il 0 + 1)) tl il 1 = (ta, j) from b1]
  refine v_aload_n 17 dJx4a65c_add_9ea2d_16 rfl rfl ?_
  refine v_getfi 20 dJx4a65c_add_9ea2d_17 fl_Jx4a65c_48 (by first | assumption | rfl) (by rfl) rfl ?_
  rw [show hp_vi (hp_seti h tl il 0 (hp_vi h tl il 0 + 1)) tl il 2 = nI n from (hp_seti_ne (by simp)).trans a2]
  refine v_invv (d' := 5) (k' := 1) (n' := (n + n / 2)) (k2 := 0) (n2 := 0) 23 [_, _, _] dJx4a65c_add_9ea2d_20 mt_Jx4a65c_131 mi_Jx4a65c_add_72be8 me_Jx4a65c_add_72be8 htl (by rfl) rfl rfl (of_decide_eq_true rfl) rfl (by decide) rfl (Nat.zero_add _) rfl rfl (C1_Jx4a65c_add_72be8 (g := max g0 (j + 1)) htl hta h10 h11 hne h52 (by omega) (by omega) ((hp_seti_ne (by simp)).trans a2) b1 b3 (hg0 _ (Nat.le_max_left _ _)) hgj (fun k hk => by rw [show hp_vr (hp_seti h tl il 0 (hp_vi h tl il 0 + 1)) ta j k = f k from b4 k hk]; exact hel k hk) hu ?_)
  refine v_iconstv (v := 1) 24 dJx4a65c_add_9ea2d_23 (by decide) rfl ?_
  refine v_zreturn (ty := .boolean) (by first | rfl | decide | exact nz_if | exact nz_fi) dJx4a65c_add_9ea2d_24 rfl ?_
  refine hq _ (is_L.add1 (h := (hp_seti h tl il 0 (hp_vi h tl il 0 + 1))) hne hc9 hc2 a1 (hg0 _ (Nat.le_max_left _ _)) hgj b4 a5) (fun t e1 e2 => (((((hp_te.i e1).tr (hp_te.n e2)).tr (hp_te.c e2)).tr (hp_te.r e1)).tr (hp_te.r e2)).tr (hp_te.i e1)) (fun i hi => ⟨?_, fun k => ⟨?_, ?_⟩⟩)
  · exact if_neg (fun q => hne q.1.symm)
  · rw [hp_seti_ne (fun q => hi q.2.1)]; show hp_vi (hp_new _ _ _ (n + n / 2)) tl i k = _; rw [((hp_new_ne (fun q => hne q.1.symm)).2.2 k).1]; exact hp_seti_ne (fun q => hi q.2.1)
  · show hp_vr (hp_setr _ _ _ _ _) tl i k = _; rw [hp_setr_ne (fun q => hne q.1.symm), hp_setr_ne (fun q => hi q.2.1)]; exact (if_neg (fun q => hne q.1.symm)).trans ((hp_new_ne (fun q => hne q.1.symm)).2.2 k).2
set_option maxRecDepth 20000 in
theorem C2_Jx4a65c_add_9ea2d {G : GW} {h : PH} {Q : RS → PH → Prop} {u v tl il ta n cap : Nat} {f : Nat → RN} (htl : tg_k tl = some (.inl 3)) (hta : tg_k ta = some (.inr g_O)) (hL : is_L h tl il ta n cap f) (h10 : 10 ≤ tl) (h11 : 10 ≤ ta) (hne : ta ≠ tl) (h51 : tl ≠ 5) (h52 : ta ≠ 5) (hu : ob_ok u) (hn : cap = 0) (hq : ∀ h', is_L h' tl il ta (n + 1) 10 (fun k => if k = n then (u, v) else f k) → (∀ t, t ≠ tl → t ≠ ta → hp_te h h' t) → (∀ i, i ≠ il → hp_al h' tl i = hp_al h tl i ∧ ∀ k, hp_vi h' tl i k = hp_vi h tl i k ∧ hp_vr h' tl i k = hp_vr h tl i k) → Q (.inl (some (pv_I 1))) h') : VV G 6 1 10 yJx4a65c_add_9ea2d cJx4a65c_add_9ea2d 2 (some .boolean) [] 0 (vv_en 2 [pv_O (tl, il), pv_O (u, v)]) [] h Q := by
  show VV G 6 1 10 yJx4a65c_add_9ea2d cJx4a65c_add_9ea2d 2 (some .boolean) [] 0 [some (pv_O (tl, il)), some (pv_O (u, v))] [] h Q
  obtain ⟨a1, a2, a3, ⟨a, j, b1, b2, b3, b4, b5⟩, a5⟩ := hL
  obtain ⟨g0, hg0⟩ := a5
  have a5 : fr_t h ta := ⟨g0, hg0⟩
  obtain ⟨rfl⟩ : n = 0 := by omega
  obtain ⟨rfl, rfl⟩ : a = 5 ∧ j = 0 := by
    rcases b5 with ⟨q1, q2, _⟩ | ⟨_, q⟩
    · exact ⟨q1, q2⟩
    · omega
  refine v_aload_n 1 dJx4a65c_add_9ea2d_0 rfl rfl ?_
  refine v_dup 2 dJx4a65c_add_9ea2d_1 rfl rfl ?_
  refine v_getfi 5 dJx4a65c_add_9ea2d_2 fl_Jx4a65c_63 (by first | assumption | rfl) (by rfl) rfl ?_
  refine v_iconstv (v := 1) 6 dJx4a65c_add_9ea2d_5 (by decide) rfl ?_
  refine v_iadd 7 dJx4a65c_add_9ea2d_6 rfl ?_
  refine v_putfi 10 dJx4a65c_add_9ea2d_7 pf_Jx4a65c_add_9ea2d_63 (by first | assumption | rfl) (by first | assumption | decide) (by rfl) rfl rfl rfl ?_
  refine v_aload_n 11 dJx4a65c_add_9ea2d_10 rfl rfl ?_
  refine v_aload_n 12 dJx4a65c_add_9ea2d_11 rfl rfl ?_
  refine v_aload_n 13 dJx4a65c_add_9ea2d_12 rfl rfl ?_
  refine v_getfr 16 dJx4a65c_add_9ea2d_13 fl_Jx4a65c_9 (by first | assumption | rfl) (by rfl) rfl ?_
  rw [show hp_vr (hp_seti h tl il 0 (hp_vi h tl il 0 + 1)) tl il 1 = (5, 0) from b1]
  refine v_aload_n 17 dJx4a65c_add_9ea2d_16 rfl rfl ?_
  refine v_getfi 20 dJx4a65c_add_9ea2d_17 fl_Jx4a65c_48 (by first | assumption | rfl) (by rfl) rfl ?_
  rw [show hp_vi (hp_seti h tl il 0 (hp_vi h tl il 0 + 1)) tl il 2 = nI 0 from (hp_seti_ne (by simp)).trans a2]
  refine v_invv (d' := 5) (k' := 1) (n' := 10) (k2 := 0) (n2 := 0) 23 [_, _, _] dJx4a65c_add_9ea2d_20 mt_Jx4a65c_131 mi_Jx4a65c_add_72be8 me_Jx4a65c_add_72be8 htl (by rfl) rfl rfl (of_decide_eq_true rfl) rfl (by decide) rfl rfl rfl rfl (C2_Jx4a65c_add_72be8 (g := g0) htl hta h10 h11 ((hp_seti_ne (by simp)).trans a2) b1 (hg0 _ (Nat.le_refl _)) hu ?_)
  refine v_iconstv (v := 1) 24 dJx4a65c_add_9ea2d_23 (by decide) rfl ?_
  refine v_zreturn (ty := .boolean) (by first | rfl | decide | exact nz_if | exact nz_fi) dJx4a65c_add_9ea2d_24 rfl ?_
  refine hq _ (is_L.add2 (h := (hp_seti h tl il 0 (hp_vi h tl il 0 + 1))) hne a1 a5) (fun t e1 e2 => ((((hp_te.i e1).tr (hp_te.n e2)).tr (hp_te.r e1)).tr (hp_te.r e2)).tr (hp_te.i e1)) (fun i hi => ⟨?_, fun k => ⟨?_, ?_⟩⟩)
  · exact if_neg (fun q => hne q.1.symm)
  · rw [hp_seti_ne (fun q => hi q.2.1)]; show hp_vi (hp_new _ _ _ 10) tl i k = _; rw [((hp_new_ne (fun q => hne q.1.symm)).2.2 k).1]; exact hp_seti_ne (fun q => hi q.2.1)
  · show hp_vr (hp_setr _ _ _ _ _) tl i k = _; rw [hp_setr_ne (fun q => hne q.1.symm), hp_setr_ne (fun q => hi q.2.1)]; exact ((hp_new_ne (fun q => hne q.1.symm)).2.2 k).2
theorem C_add {G : GW} {h : PH} {Q : RS → PH → Prop} {u v tl il ta n cap : Nat} {f : Nat → RN} (htl : tg_k tl = some (.inl 3)) (hta : tg_k ta = some (.inr g_O)) (hL : is_L h tl il ta n cap f) (h10 : 10 ≤ tl) (h11 : 10 ≤ ta) (hne : ta ≠ tl) (h51 : tl ≠ 5) (h52 : ta ≠ 5) (hu : ob_ok u) (hn9 : n ≤ 600) (hel : ∀ k, k < n → f k = (0, 0) ∨ ob_ok (f k).1) {B : Nat} (hB : n + n / 2 + 10 ≤ B) (hq : ∀ h' cap', is_L h' tl il ta (n + 1) cap' (fun k => if k = n then (u, v) else f k) → (∀ t, t ≠ tl → t ≠ ta → hp_te h h' t) → (∀ i, i ≠ il → hp_al h' tl i = hp_al h tl i ∧ ∀ k, hp_vi h' tl i k = hp_vi h tl i k ∧ hp_vr h' tl i k = hp_vr h tl i k) → Q (.inl (some (pv_I 1))) h') : VV G 6 1 B yJx4a65c_add_9ea2d cJx4a65c_add_9ea2d 2 (some .boolean) [] 0 (vv_en 2 [pv_O (tl, il), pv_O (u, v)]) [] h Q := by
  have a3 := hL.2.2.1
  have b5 : cap = 0 ∨ 10 ≤ cap := by
    obtain ⟨-, -, -, ⟨a, j, -, -, -, -, b5⟩, -⟩ := hL
    rcases b5 with ⟨_, _, q⟩ | ⟨_, q⟩
    · exact Or.inl q
    · exact Or.inr q
  rcases Nat.lt_or_ge n cap with hn | hn
  · exact VV.less (by omega) (by omega) (by omega) (C0_Jx4a65c_add_9ea2d htl hta hL h10 h11 hne h51 h52 hu hn (fun h1 => hq h1 _))
  · rcases b5 with b5 | b5
    · exact VV.less (by omega) (by omega) (by omega) (C2_Jx4a65c_add_9ea2d htl hta hL h10 h11 hne h51 h52 hu b5 (fun h1 => hq h1 _))
    · exact VV.less (by omega) (by omega) (by omega) (C1_Jx4a65c_add_9ea2d htl hta hL h10 h11 hne h51 h52 hu (by omega) b5 (by omega) hel (fun h1 => hq h1 _))
