set_option maxRecDepth 20000 in
theorem C_Jx4a65c_fastRemove_b59b0 {G : GW} {h : PH} {Q : RS → PH → Prop} {tl il ta n cap j m : Nat} (htl : tg_k tl = some (.inl 3)) (hta : tg_k ta = some (.inr g_O)) (h10 : 10 ≤ tl) (h11 : 10 ≤ ta) (hne : ta ≠ tl) (a2 : hp_vi h tl il 2 = nI n) (hm : m < n) (hn : n ≤ cap) (hb : cap < 2 ^ 20) (b3 : hp_ln h ta j = cap) (hel : ∀ k, k < n → hp_vr h ta j k = (0, 0) ∨ ob_ok (hp_vr h ta j k).1) (hq1 : m + 1 < n → Q (.inl none) (hp_setr (hp_seti (hp_cpy (hp_seti h tl il 0 (hp_vi h tl il 0 + 1)) ta j ta j (m + 1) m (n - 1 - m)) tl il 2 (nI (n - 1))) ta j (n - 1) (0, 0))) (hq2 : m + 1 = n → Q (.inl none) (hp_setr (hp_seti (hp_seti h tl il 0 (hp_vi h tl il 0 + 1)) tl il 2 (nI (n - 1))) ta j (n - 1) (0, 0))) : VV G 1 0 0 yJx4a65c_fastRemove_b59b0 cJx4a65c_fastRemove_b59b0 4 (none) [] 0 (vv_en 4 [pv_O (tl, il), pv_O (ta, j), pv_I (nI m)]) [] h Q := by
  show VV G 1 0 0 yJx4a65c_fastRemove_b59b0 cJx4a65c_fastRemove_b59b0 4 (none) [] 0 [some (pv_O (tl, il)), some (pv_O (ta, j)), some (pv_I (nI m)), none] [] h Q
  refine v_aload_n 1 dJx4a65c_fastRemove_b59b0_0 rfl rfl ?_
  refine v_dup 2 dJx4a65c_fastRemove_b59b0_1 rfl rfl ?_
  refine v_getfi 5 dJx4a65c_fastRemove_b59b0_2 fl_Jx4a65c_63 (by first | assumption | rfl) (by rfl) rfl ?_
  refine v_iconstv (v := 1) 6 dJx4a65c_fastRemove_b59b0_5 (by decide) rfl ?_
  refine v_iadd 7 dJx4a65c_fastRemove_b59b0_6 rfl ?_
  refine v_putfi 10 dJx4a65c_fastRemove_b59b0_7 pf_Jx4a65c_fastRemove_b59b0_63 (by first | assumption | rfl) (by first | assumption | decide) (by rfl) rfl rfl rfl ?_
  refine v_aload_n 11 dJx4a65c_fastRemove_b59b0_10 rfl rfl ?_
  refine v_getfi 14 dJx4a65c_fastRemove_b59b0_11 fl_Jx4a65c_48 (by first | assumption | rfl) (by rfl) rfl ?_
  rw [show hp_vi (hp_seti h tl il 0 (hp_vi h tl il 0 + 1)) tl il 2 = nI n from (hp_seti_ne (by simp)).trans a2]
  refine v_iconstv (v := 1) 15 dJx4a65c_fastRemove_b59b0_14 (by decide) rfl ?_
  refine v_isub 16 dJx4a65c_fastRemove_b59b0_15 rfl ?_
  rw [show nI n - 1 = nI (n - 1) from pk_sub (a := n) (b := 1) (by omega)]
  refine v_dup 17 dJx4a65c_fastRemove_b59b0_16 rfl rfl ?_
  refine v_istore_n 18 dJx4a65c_fastRemove_b59b0_17 (by decide) rfl rfl ?_
  dsimp only [List.set]
  refine v_iload_n 19 dJx4a65c_fastRemove_b59b0_18 rfl rfl ?_
  refine v_icmp_le 34 22 dJx4a65c_fastRemove_b59b0_19 (by decide) rfl (fun c19 => ?_) (fun c19 => ?_)
  · have hmn : m + 1 = n := by
      rcases Nat.lt_or_ge m (n - 1) with q | q
      · exact absurd c19 (nI_ge q (by omega))
      · omega
    refine v_aload_n 35 dJx4a65c_fastRemove_b59b0_34 rfl rfl ?_
    refine v_aload_n 36 dJx4a65c_fastRemove_b59b0_35 rfl rfl ?_
    refine v_iload_n 37 dJx4a65c_fastRemove_b59b0_36 rfl rfl ?_
    refine v_dup_x1 38 dJx4a65c_fastRemove_b59b0_37 rfl rfl rfl ?_
    refine v_putfi 41 dJx4a65c_fastRemove_b59b0_38 pf_Jx4a65c_fastRemove_b59b0_48 (by first | assumption | rfl) (by first | assumption | decide) (by rfl) rfl rfl rfl ?_
    refine v_null 42 dJx4a65c_fastRemove_b59b0_41 rfl ?_
    refine v_aastN 43 dJx4a65c_fastRemove_b59b0_42 hta h11 ?_ rfl ?_
    · show vp_in _ (hp_ln h ta j); rw [b3]; exact in_nI (by omega) (by omega)
    rw [nI_clamp (by omega)]
    refine v_return dJx4a65c_fastRemove_b59b0_43 rfl ?_
    first | exact hq1 hmn | exact hq2 hmn
  · have hmn : m + 1 < n := by
      rcases Nat.lt_or_ge m (n - 1) with q | q
      · omega
      · exact absurd (nI_le q (by omega)) c19
    refine v_aload_n 23 dJx4a65c_fastRemove_b59b0_22 rfl rfl ?_
    refine v_iload_n 24 dJx4a65c_fastRemove_b59b0_23 rfl rfl ?_
    refine v_iconstv (v := 1) 25 dJx4a65c_fastRemove_b59b0_24 (by decide) rfl ?_
    refine v_iadd 26 dJx4a65c_fastRemove_b59b0_25 rfl ?_
    rw [show nI m + 1 = nI (m + 1) from nI_1 m]
    refine v_aload_n 27 dJx4a65c_fastRemove_b59b0_26 rfl rfl ?_
    refine v_iload_n 28 dJx4a65c_fastRemove_b59b0_27 rfl rfl ?_
    refine v_iload_n 29 dJx4a65c_fastRemove_b59b0_28 rfl rfl ?_
    refine v_iload_n 30 dJx4a65c_fastRemove_b59b0_29 rfl rfl ?_
    refine v_isub 31 dJx4a65c_fastRemove_b59b0_30 rfl ?_
    rw [show nI (n - 1) - nI m = nI (n - 1 - m) from pk_sub (by omega)]
    refine v_copy 34 dJx4a65c_fastRemove_b59b0_31 ay_1b ay_2 ay_3 ay_4 hta hta h11 h11 (nI_pos (by omega)) (nI_pos (by omega)) (nI_pos (by omega)) ?_ ?_ ?_ rfl (by decide) rfl ?_
    · rw [nI_clamp (by omega), nI_clamp (by omega)]; show _ ≤ hp_ln h ta j; rw [b3]; omega
    · rw [nI_clamp (by omega), nI_clamp (by omega)]; show _ ≤ hp_ln h ta j; rw [b3]; omega
    · intro k hk
      rw [nI_clamp (by omega)] at hk ⊢
      exact hel _ (by omega)
    rw [nI_clamp (n := m + 1) (by omega), nI_clamp (n := m) (by omega), nI_clamp (n := n - 1 - m) (by omega)]
    refine v_aload_n 35 dJx4a65c_fastRemove_b59b0_34 rfl rfl ?_
    refine v_aload_n 36 dJx4a65c_fastRemove_b59b0_35 rfl rfl ?_
    refine v_iload_n 37 dJx4a65c_fastRemove_b59b0_36 rfl rfl ?_
    refine v_dup_x1 38 dJx4a65c_fastRemove_b59b0_37 rfl rfl rfl ?_
    refine v_putfi 41 dJx4a65c_fastRemove_b59b0_38 pf_Jx4a65c_fastRemove_b59b0_48 (by first | assumption | rfl) (by first | assumption | decide) (by rfl) rfl rfl rfl ?_
    refine v_null 42 dJx4a65c_fastRemove_b59b0_41 rfl ?_
    refine v_aastN 43 dJx4a65c_fastRemove_b59b0_42 hta h11 ?_ rfl ?_
    · show vp_in _ (hp_ln h ta j); rw [b3]; exact in_nI (by omega) (by omega)
    rw [nI_clamp (by omega)]
    refine v_return dJx4a65c_fastRemove_b59b0_43 rfl ?_
    first | exact hq1 hmn | exact hq2 hmn
theorem is_L.del {h' : PH} {tl il ta n cap j m : Nat} {f : Nat → RN} (a1 : hp_al h' tl il = true) (a2 : hp_vi h' tl il 2 = nI (n - 1)) (hm : m < n) (a3 : n ≤ cap ∧ cap ≤ 1000) (h10 : 10 ≤ cap) (b1 : hp_vr h' tl il 1 = (ta, j)) (b2 : hp_al h' ta j = true) (b3 : hp_ln h' ta j = cap) (b4 : ∀ k, k < n - 1 → hp_vr h' ta j k = if k < m then f k else f (k + 1)) (a5 : fr_t h' ta) :
    is_L h' tl il ta (n - 1) cap (fun k => if k < m then f k else f (k + 1)) := ⟨a1, a2, ⟨by omega, a3.2⟩, ⟨ta, j, b1, b2, b3, b4, Or.inr ⟨rfl, h10⟩⟩, a5⟩
set_option maxRecDepth 20000 in
theorem C_Jx4a65c_remove_915e3 {G : GW} {h : PH} {Q : RS → PH → Prop} {m tl il ta n cap : Nat} {f : Nat → RN} (htl : tg_k tl = some (.inl 3)) (hta : tg_k ta = some (.inr g_O)) (hL : is_L h tl il ta n cap f) (h10 : 10 ≤ tl) (h11 : 10 ≤ ta) (hne : ta ≠ tl) (h51 : tl ≠ 5) (h52 : ta ≠ 5) (hm : m < n) (hel : ∀ k, k < n → f k = (0, 0) ∨ ob_ok (f k).1) (hq : ∀ h', is_L h' tl il ta (n - 1) cap (fun k => if k < m then f k else f (k + 1)) → (∀ t, t ≠ tl → t ≠ ta → hp_te h h' t) → (∀ i, i ≠ il → hp_al h' tl i = hp_al h tl i ∧ ∀ k, hp_vi h' tl i k = hp_vi h tl i k ∧ hp_vr h' tl i k = hp_vr h tl i k) → Q (.inl (some (pv_O (f m)))) h') : VV G 2 0 0 yJx4a65c_remove_915e3 cJx4a65c_remove_915e3 4 (some (.object "java/lang/Object")) [] 0 (vv_en 4 [pv_O (tl, il), pv_I (nI m)]) [] h Q := by
  show VV G 2 0 0 yJx4a65c_remove_915e3 cJx4a65c_remove_915e3 4 (some (.object "java/lang/Object")) [] 0 [some (pv_O (tl, il)), some (pv_I (nI m)), none, none] [] h Q
  obtain ⟨a1, a2, a3, ⟨a, j, b1, b2, b3, b4, b5⟩, a5⟩ := hL
  obtain ⟨rfl⟩ : a = ta := by
    rcases b5 with ⟨_, _, q⟩ | ⟨q, _⟩
    · omega
    · exact q
  have hc10 : 10 ≤ cap := by
    rcases b5 with ⟨_, _, q⟩ | ⟨_, q⟩
    · omega
    · exact q
  refine v_iload_n 1 dJx4a65c_remove_915e3_0 rfl rfl ?_
  refine v_aload_n 2 dJx4a65c_remove_915e3_1 rfl rfl ?_
  refine v_getfi 5 dJx4a65c_remove_915e3_2 fl_Jx4a65c_48 (by first | assumption | rfl) (by rfl) rfl ?_
  rw [a2]
  refine v_invs (d' := 1) (k' := 0) (n' := 0) (k2 := 0) (n2 := 0) 8 [_, _] dJx4a65c_remove_915e3_5 mt_Jx4a65c_118 ms_J15_checkIndex_7cf53 rfl rfl (of_decide_eq_true rfl) rfl (by decide) rfl rfl rfl rfl (C_J15_checkIndex_7cf53 hm (by omega) ?_)
  refine v_pop 9 dJx4a65c_remove_915e3_8 rfl rfl ?_
  refine v_aload_n 10 dJx4a65c_remove_915e3_9 rfl rfl ?_
  refine v_getfr 13 dJx4a65c_remove_915e3_10 fl_Jx4a65c_9 (by first | assumption | rfl) (by rfl) rfl ?_
  rw [b1]
  refine v_astore_n 14 dJx4a65c_remove_915e3_13 (by decide) rfl rfl ?_
  dsimp only [List.set]
  refine v_aload_n 15 dJx4a65c_remove_915e3_14 rfl rfl ?_
  refine v_iload_n 16 dJx4a65c_remove_915e3_15 rfl rfl ?_
  refine v_aald (ty := g_O) (by rfl) (by simp [g_tys]) 17 dJx4a65c_remove_915e3_16 (by first | assumption | rfl) (by rw [b3]; exact in_nI (by omega) (by omega)) rfl ?_
  rw [nI_clamp (by omega), b4 m hm]
  refine v_astore_n 18 dJx4a65c_remove_915e3_17 (by decide) rfl rfl ?_
  dsimp only [List.set]
  refine v_aload_n 19 dJx4a65c_remove_915e3_18 rfl rfl ?_
  refine v_aload_n 20 dJx4a65c_remove_915e3_19 rfl rfl ?_
  refine v_iload_n 21 dJx4a65c_remove_915e3_20 rfl rfl ?_
  refine v_invv (d' := 1) (k' := 0) (n' := 0) (k2 := 0) (n2 := 0) 24 [_, _] dJx4a65c_remove_915e3_21 mt_Jx4a65c_144 mi_Jx4a65c_fastRemove_b59b0 me_Jx4a65c_fastRemove_b59b0 (by first | assumption | rfl) (by rfl) rfl rfl (of_decide_eq_true rfl) rfl (by decide) rfl rfl rfl rfl (C_Jx4a65c_fastRemove_b59b0 htl hta h10 h11 hne a2 hm a3.1 (by omega) b3 (fun k hk => by rw [b4 k hk]; exact hel k hk) (fun hmn => ?_) (fun hmn => ?_))
  · refine v_aload_n 25 dJx4a65c_remove_915e3_24 rfl rfl ?_
    refine v_areturn dJx4a65c_remove_915e3_25 rfl (Or.inl ⟨_, rfl⟩) ?_
    refine hq _ (is_L.del a1 ?_ hm a3 hc10 ?_ b2 b3 (fun k hk => ?_) a5) (fun t e1 e2 => (((hp_te.i e1).tr (hp_te.c e2)).tr (hp_te.i e1)).tr (hp_te.r e2)) (fun i hi => ⟨rfl, fun k => ⟨?_, ?_⟩⟩)
    · exact hp_seti_at
    · rw [hp_setr_ne (fun q => hne q.1.symm)]
      exact (if_neg (fun q => hne q.1.symm)).trans b1
    · rw [hp_setr_ne (fun q => by omega)]
      show (if ta = ta ∧ j = j ∧ m ≤ k ∧ k < m + (n - 1 - m) then hp_vr h ta j (m + 1 + (k - m)) else hp_vr h ta j k) = _
      by_cases e : k < m
      · rw [if_neg (by omega), if_pos e]; exact b4 k (by omega)
      · rw [if_pos ⟨rfl, rfl, by omega, by omega⟩, if_neg e, show m + 1 + (k - m) = k + 1 from by omega]; exact b4 _ (by omega)
    · show hp_vi (hp_seti _ _ _ _ _) tl i k = _
      rw [hp_seti_ne (fun q => hi q.2.1)]; exact hp_seti_ne (fun q => hi q.2.1)
    · rw [hp_setr_ne (fun q => hne q.1.symm)]
      exact if_neg (fun q => hne q.1.symm)
  · refine v_aload_n 25 dJx4a65c_remove_915e3_24 rfl rfl ?_
    refine v_areturn dJx4a65c_remove_915e3_25 rfl (Or.inl ⟨_, rfl⟩) ?_
    refine hq _ (is_L.del a1 ?_ hm a3 hc10 ?_ b2 b3 (fun k hk => ?_) a5) (fun t e1 e2 => ((hp_te.i e1).tr (hp_te.i e1)).tr (hp_te.r e2)) (fun i hi => ⟨rfl, fun k => ⟨?_, ?_⟩⟩)
    · exact hp_seti_at
    · rw [hp_setr_ne (fun q => hne q.1.symm)]
      exact b1
    · rw [hp_setr_ne (fun q => by omega), if_pos (by omega)]; exact b4 k (by omega)
    · show hp_vi (hp_seti _ _ _ _ _) tl i k = _
      rw [hp_seti_ne (fun q => hi q.2.1)]; exact hp_seti_ne (fun q => hi q.2.1)
    · rw [hp_setr_ne (fun q => hne q.1.symm)]
      rfl
/-- an iterator over a list: at its c-th thing -/
def is_I (h : PH) (i tl il c : Nat) : Prop := hp_vi h 71 i 0 = nI c ∧ hp_vr h 71 i 3 = (tl, il) ∧ hp_vi h 71 i 2 = hp_vi h tl il 0
theorem is_I.te {h h' : PH} {i tl il c : Nat} (hI : is_I h i tl il c) (e1 : hp_te h h' 71) (e2 : hp_te h h' tl) : is_I h' i tl il c := by
  obtain ⟨a1, a2, a3⟩ := hI
  exact ⟨by rw [e1.2.2.1]; exact a1, by rw [e1.2.2.2.1]; exact a2, by rw [e1.2.2.1, e2.2.2.1]; exact a3⟩
set_option maxRecDepth 20000 in
theorem C_Jx35411_init_45d68 {G : GW} {h : PH} {Q : RS → PH → Prop} {i tl il : Nat} (htl : tg_k tl = some (.inl 3)) (h71 : tl ≠ 71) (a0 : hp_vi h 71 i 0 = 0) (hq : ∀ h', is_I h' i tl il 0 → (∀ t, t ≠ 71 → hp_te h h' t) → (∀ j, hp_al h' 71 j = hp_al h 71 j) → Q (.inl none) h') : VV G 1 0 0 yJx35411_init_45d68 cJx35411_init_45d68 2 (none) [] 0 (vv_en 2 [pv_O (71, i), pv_O (tl, il)]) [] h Q := by
  show VV G 1 0 0 yJx35411_init_45d68 cJx35411_init_45d68 2 (none) [] 0 [some (pv_O (71, i)), some (pv_O (tl, il))] [] h Q
  refine v_aload_n 1 dJx35411_init_45d68_0 rfl rfl ?_
  refine v_aload_n 2 dJx35411_init_45d68_1 rfl rfl ?_
  refine v_putfr 5 dJx35411_init_45d68_2 pf_Jx35411_init_45d68_1 (by first | assumption | rfl) (by first | assumption | decide) (by rfl) rfl ?_
  refine v_aload_n 6 dJx35411_init_45d68_5 rfl rfl ?_
  refine v_objinit 9 dJx35411_init_45d68_6 oi_Jx35411_7 oi_1 oi_2 (by first | decide | (dsimp only; omega)) (by first | decide | (dsimp only; omega)) (by first | decide | (dsimp only; omega)) rfl ?_
  refine v_aload_n 10 dJx35411_init_45d68_9 rfl rfl ?_
  refine v_iconstv (v := -1) 11 dJx35411_init_45d68_10 (by decide) rfl ?_
  refine v_putfi 14 dJx35411_init_45d68_11 pf_Jx35411_init_45d68_13 (by first | assumption | rfl) (by first | assumption | decide) (by rfl) rfl rfl rfl ?_
  refine v_aload_n 15 dJx35411_init_45d68_14 rfl rfl ?_
  refine v_aload_n 16 dJx35411_init_45d68_15 rfl rfl ?_
  refine v_getfr 19 dJx35411_init_45d68_16 fl_Jx35411_1 (by first | assumption | rfl) (by rfl) rfl ?_
  rw [show hp_vr (hp_seti (hp_setr h 71 i 3 (tl, il)) 71 i 1 (-1)) 71 i 3 = (tl, il) from hp_setr_at]
  refine v_getfi 22 dJx35411_init_45d68_19 fl_Jx35411_17 (by first | assumption | rfl) (by rfl) rfl ?_
  refine v_putfi 25 dJx35411_init_45d68_22 pf_Jx35411_init_45d68_22 (by first | assumption | rfl) (by first | assumption | decide) (by rfl) rfl rfl rfl ?_
  refine v_return dJx35411_init_45d68_25 rfl ?_
  refine hq _ ⟨?_, ?_, ?_⟩ (fun t e1 => ((hp_te.r e1).tr (hp_te.i e1)).tr (hp_te.i e1)) (fun _ => rfl)
  · rw [hp_seti_ne (by simp), hp_seti_ne (by simp)]; exact a0
  · exact hp_setr_at
  · have e : ∀ H x k, hp_vi (hp_seti H 71 i k x) tl il 0 = hp_vi H tl il 0 := fun _ _ _ => hp_seti_ne (fun q => h71 q.1)
    exact hp_seti_at.trans (by simp only [e])
set_option maxRecDepth 20000 in
theorem C_Jx4a65c_iterator_32c93 {G : GW} {h : PH} {Q : RS → PH → Prop} {i tl il : Nat} (htl : tg_k tl = some (.inl 3)) (h71 : tl ≠ 71) (hi : hp_al h 71 i = false) (hq : ∀ h', is_I h' i tl il 0 → (∀ t, t ≠ 71 → hp_te h h' t) → (∀ j, j ≠ i → hp_al h' 71 j = hp_al h 71 j) → Q (.inl (some (pv_O (71, i)))) h') : VV G 2 1 4 yJx4a65c_iterator_32c93 cJx4a65c_iterator_32c93 1 (some (.object "java/util/Iterator")) [] 0 (vv_en 1 [pv_O (tl, il)]) [] h Q := by
  show VV G 2 1 4 yJx4a65c_iterator_32c93 cJx4a65c_iterator_32c93 1 (some (.object "java/util/Iterator")) [] 0 [some (pv_O (tl, il))] [] h Q
  refine v_new (k1 := 0) (n1 := 0) 3 71 i dJx4a65c_iterator_32c93_0 nw_Jx4a65c_267 (by rfl) (by decide) hi rfl rfl rfl ?_
  refine v_dup 4 dJx4a65c_iterator_32c93_3 rfl rfl ?_
  refine v_aload_n 5 dJx4a65c_iterator_32c93_4 rfl rfl ?_
  refine v_invi (d' := 1) (k' := 0) (n' := 0) (k2 := 0) (n2 := 0) 8 [_] dJx4a65c_iterator_32c93_5 mt_Jx4a65c_269 mi_Jx35411_init_45d68 rfl rfl (by first | assumption | rfl) rfl rfl (of_decide_eq_true rfl) rfl (by decide) rfl rfl rfl rfl (C_Jx35411_init_45d68 htl h71 hp_new_vi0 (fun h' q1 q2 q3 => ?_))
  refine v_areturn dJx4a65c_iterator_32c93_8 rfl (Or.inl ⟨_, rfl⟩) ?_
  exact hq h' q1 (fun t e1 => (hp_te.n e1).tr (q2 t e1)) (fun j e1 => (q3 j).trans (hp_new_ne (fun q => e1 q.2)).1)
set_option maxRecDepth 20000 in
theorem C_Jx35411_hasNext_aae02 {G : GW} {h : PH} {Q : RS → PH → Prop} {i c tl il ta n cap : Nat} {f : Nat → RN} (htl : tg_k tl = some (.inl 3)) (hta : tg_k ta = some (.inr g_O)) (hL : is_L h tl il ta n cap f) (hI : is_I h i tl il c) (hc : c ≤ n) (hq : Q (.inl (some (pv_I (if c = n then 0 else 1)))) h) : VV G 0 0 0 yJx35411_hasNext_aae02 cJx35411_hasNext_aae02 1 (some .boolean) [] 0 (vv_en 1 [pv_O (71, i)]) [] h Q := by
  show VV G 0 0 0 yJx35411_hasNext_aae02 cJx35411_hasNext_aae02 1 (some .boolean) [] 0 [some (pv_O (71, i))] [] h Q
  obtain ⟨i1, i2, i3⟩ := hI
  have a2 := hL.2.1
  have a3 := hL.2.2.1
  refine v_aload_n 1 dJx35411_hasNext_aae02_0 rfl rfl ?_
  refine v_getfi 4 dJx35411_hasNext_aae02_1 fl_Jx35411_25 (by first | assumption | rfl) (by rfl) rfl ?_
  rw [i1]
  refine v_aload_n 5 dJx35411_hasNext_aae02_4 rfl rfl ?_
  refine v_getfr 8 dJx35411_hasNext_aae02_5 fl_Jx35411_1 (by first | assumption | rfl) (by rfl) rfl ?_
  rw [i2]
  refine v_getfi 11 dJx35411_hasNext_aae02_8 fl_Jx35411_28 (by first | assumption | rfl) (by rfl) rfl ?_
  rw [a2]
  refine v_icmp_eq 18 14 dJx35411_hasNext_aae02_11 (by decide) rfl (fun c11 => ?_) (fun c11 => ?_)
  · have e := (nI_eq (by omega) (by omega)).mp c11
    rw [if_pos e] at hq
    refine v_iconstv (v := 0) 19 dJx35411_hasNext_aae02_18 (by decide) rfl ?_
    refine v_zreturn (ty := .boolean) (by first | rfl | decide | exact nz_if | exact nz_fi) dJx35411_hasNext_aae02_19 rfl ?_
    exact hq
  · have e : c ≠ n := fun e => c11 (congrArg nI e)
    rw [if_neg e] at hq
    refine v_iconstv (v := 1) 15 dJx35411_hasNext_aae02_14 (by decide) rfl ?_
    refine v_goto 19 dJx35411_hasNext_aae02_15 (by decide) ?_
    refine v_zreturn (ty := .boolean) (by first | rfl | decide | exact nz_if | exact nz_fi) dJx35411_hasNext_aae02_19 rfl ?_
    exact hq
set_option maxRecDepth 20000 in
theorem C_Jx35411_checkForComodification_da8c8 {G : GW} {h : PH} {Q : RS → PH → Prop} {i c tl il : Nat} (htl : tg_k tl = some (.inl 3)) (hI : is_I h i tl il c) (hq : Q (.inl none) h) : VV G 0 0 0 yJx35411_checkForComodification_da8c8 cJx35411_checkForComodification_da8c8 1 (none) [] 0 (vv_en 1 [pv_O (71, i)]) [] h Q := by
  show VV G 0 0 0 yJx35411_checkForComodification_da8c8 cJx35411_checkForComodification_da8c8 1 (none) [] 0 [some (pv_O (71, i))] [] h Q
  obtain ⟨i1, i2, i3⟩ := hI
  refine v_aload_n 1 dJx35411_checkForComodification_da8c8_0 rfl rfl ?_
  refine v_getfr 4 dJx35411_checkForComodification_da8c8_1 fl_Jx35411_1 (by first | assumption | rfl) (by rfl) rfl ?_
  rw [i2]
  refine v_getfi 7 dJx35411_checkForComodification_da8c8_4 fl_Jx35411_17 (by first | assumption | rfl) (by rfl) rfl ?_
  refine v_aload_n 8 dJx35411_checkForComodification_da8c8_7 rfl rfl ?_
  refine v_getfi 11 dJx35411_checkForComodification_da8c8_8 fl_Jx35411_22 (by first | assumption | rfl) (by rfl) rfl ?_
  refine v_icmp_eq 22 14 dJx35411_checkForComodification_da8c8_11 (by decide) rfl (fun c11 => ?_) (fun c11 => ?_)
  · refine v_return dJx35411_checkForComodification_da8c8_22 rfl ?_
    exact hq
  · exact absurd i3.symm c11
set_option maxRecDepth 20000 in
theorem C_Jx35411_next_0502b {G : GW} {h : PH} {Q : RS → PH → Prop} {i c tl il ta n cap : Nat} {f : Nat → RN} (htl : tg_k tl = some (.inl 3)) (hta : tg_k ta = some (.inr g_O)) (hL : is_L h tl il ta n cap f) (h71 : tl ≠ 71) (h82 : ta ≠ 71) (hI : is_I h i tl il c) (hc : c < n) (hq : ∀ h', is_I h' i tl il (c + 1) → (∀ t, t ≠ 71 → hp_te h h' t) → (∀ j, hp_al h' 71 j = hp_al h 71 j) → Q (.inl (some (pv_O (f c)))) h') : VV G 1 0 0 yJx35411_next_0502b cJx35411_next_0502b 3 (some (.object "java/lang/Object")) [] 0 (vv_en 3 [pv_O (71, i)]) [] h Q := by
  show VV G 1 0 0 yJx35411_next_0502b cJx35411_next_0502b 3 (some (.object "java/lang/Object")) [] 0 [some (pv_O (71, i)), none, none] [] h Q
  obtain ⟨i1, i2, i3⟩ := id hI
  obtain ⟨a1, a2, a3, ⟨a, j, b1, b2, b3, b4, b5⟩, a5⟩ := hL
  have hka : tg_k a = some (.inr g_O) := by
    rcases b5 with ⟨rfl, _⟩ | ⟨rfl, _⟩
    · rfl
    · exact hta
  have ha71 : a ≠ 71 := by
    rcases b5 with ⟨rfl, _⟩ | ⟨rfl, _⟩
    · decide
    · exact h82
  refine v_aload_n 1 dJx35411_next_0502b_0 rfl rfl ?_
  refine v_invv (d' := 0) (k' := 0) (n' := 0) (k2 := 0) (n2 := 0) 4 [] dJx35411_next_0502b_1 mt_Jx35411_31 mi_Jx35411_checkForComodification_da8c8 me_Jx35411_checkForComodification_da8c8 (by first | assumption | rfl) (by rfl) rfl rfl (of_decide_eq_true rfl) rfl (by decide) rfl rfl rfl rfl (C_Jx35411_checkForComodification_da8c8 htl hI ?_)
  refine v_aload_n 5 dJx35411_next_0502b_4 rfl rfl ?_
  refine v_getfi 8 dJx35411_next_0502b_5 fl_Jx35411_25 (by first | assumption | rfl) (by rfl) rfl ?_
  rw [i1]
  refine v_istore_n 9 dJx35411_next_0502b_8 (by decide) rfl rfl ?_
  dsimp only [List.set]
  refine v_iload_n 10 dJx35411_next_0502b_9 rfl rfl ?_
  refine v_aload_n 11 dJx35411_next_0502b_10 rfl rfl ?_
  refine v_getfr 14 dJx35411_next_0502b_11 fl_Jx35411_1 (by first | assumption | rfl) (by rfl) rfl ?_
  rw [i2]
  refine v_getfi 17 dJx35411_next_0502b_14 fl_Jx35411_28 (by first | assumption | rfl) (by rfl) rfl ?_
  rw [a2]
  refine v_icmp_lt 28 20 dJx35411_next_0502b_17 (by decide) rfl (fun c17 => ?_) (fun c17 => ?_)
  · refine v_aload_n 29 dJx35411_next_0502b_28 rfl rfl ?_
    refine v_getfr 32 dJx35411_next_0502b_29 fl_Jx35411_1 (by first | assumption | rfl) (by rfl) rfl ?_
    rw [i2]
    refine v_getfr 35 dJx35411_next_0502b_32 fl_Jx35411_37 (by first | assumption | rfl) (by rfl) rfl ?_
    rw [b1]
    refine v_astore_n 36 dJx35411_next_0502b_35 (by decide) rfl rfl ?_
    dsimp only [List.set]
    refine v_iload_n 37 dJx35411_next_0502b_36 rfl rfl ?_
    refine v_aload_n 38 dJx35411_next_0502b_37 rfl rfl ?_
    refine v_alen 39 dJx35411_next_0502b_38 (by first | assumption | rfl) (by simp [g_tys]) rfl ?_
    rw [b3]
    refine v_icmp_lt 50 42 dJx35411_next_0502b_39 (by decide) rfl (fun c39 => ?_) (fun c39 => ?_)
    · refine v_aload_n 51 dJx35411_next_0502b_50 rfl rfl ?_
      refine v_iload_n 52 dJx35411_next_0502b_51 rfl rfl ?_
      refine v_iconstv (v := 1) 53 dJx35411_next_0502b_52 (by decide) rfl ?_
      refine v_iadd 54 dJx35411_next_0502b_53 rfl ?_
      rw [show nI c + 1 = nI (c + 1) from nI_1 c]
      refine v_putfi 57 dJx35411_next_0502b_54 pf_Jx35411_next_0502b_25 (by first | assumption | rfl) (by first | assumption | decide) (by rfl) rfl rfl rfl ?_
      refine v_aload_n 58 dJx35411_next_0502b_57 rfl rfl ?_
      refine v_aload_n 59 dJx35411_next_0502b_58 rfl rfl ?_
      refine v_iload_n 60 dJx35411_next_0502b_59 rfl rfl ?_
      refine v_dup_x1 61 dJx35411_next_0502b_60 rfl rfl rfl ?_
      refine v_putfi 64 dJx35411_next_0502b_61 pf_Jx35411_next_0502b_13 (by first | assumption | rfl) (by first | assumption | decide) (by rfl) rfl rfl rfl ?_
      refine v_aald (ty := g_O) (by rfl) (by simp [g_tys]) 65 dJx35411_next_0502b_64 (by first | assumption | rfl) (by show vp_in _ (hp_ln h a j); rw [b3]; exact in_nI (by omega) (by omega)) rfl ?_
      rw [nI_clamp (by omega), show hp_vr (hp_seti (hp_seti h 71 i 0 (nI (c + 1))) 71 i 1 (nI c)) a j c = f c from b4 c hc]
      refine v_areturn dJx35411_next_0502b_65 rfl (Or.inl ⟨_, rfl⟩) ?_
      refine hq _ ⟨?_, i2, ?_⟩ (fun t e1 => (hp_te.i e1).tr (hp_te.i e1)) (fun _ => rfl)
      · rw [hp_seti_ne (by simp)]; exact hp_seti_at
      · rw [hp_seti_ne (by simp), hp_seti_ne (by simp), hp_seti_ne (fun q => h71 q.1), hp_seti_ne (fun q => h71 q.1)]; exact i3
    · exact absurd (nI_lt (by omega : c < cap) (by omega)) c39
  · exact absurd (nI_lt hc (by omega)) c17
