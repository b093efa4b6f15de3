/-- leaves laid on a panel: the state, the waste -/
def ly_ (S : SP) (p f a m : Nat) : SP × Int32 := ls_ (su_ S f a m) f a (s_st S p (nI m)) (hp_vi S.1 43 p 1) (sm_a S f a m - hp_vi S.1 43 p 0 * hp_vi S.1 43 p 1) m
set_option maxRecDepth 20000 in
theorem C_X6_layOn {G : GW} {h : PH} {Q : RS → PH → Prop} {S : SP} {p t f a m : Nat} (R : Rp1 S h) (hp : p < nn_ S 2) (ht9 : 16 ≤ t ∧ t ≤ 18) (hk7 : tg_k t = some (.inl 7)) (p1 : hp_vr h t p 0 = (12, f)) (p2 : hp_vi h t p 1 = nI a) (p3 : hp_vi h t p 2 = nI m) (hf : f < nn_ S 1) (n24 : s_n S f ≤ 24) (ham : a + m ≤ s_n S f) (hm1 : 1 ≤ m) (hm8 : m ≤ 8) (hfree : ∀ k, k < m → hp_vi S.1 62 f (a + k) = 0) (hc5 : nn_ S 5 ≤ nn_ S 4) (hc4 : nn_ S 4 ≤ 128) (ho : ∀ i, i < nn_ S 5 → S.2.2 i < nn_ S 4) (hq : ∀ h', Rp1 (ws_up (ly_ S p f a m).1 (ly_ S p f a m).2) h' → (∀ t, t < 10 ∨ 40 ≤ t ∨ t = 13 ∨ t = 16 ∨ t = 17 ∨ t = 18 → hp_te h h' t) → Q (.inl (some (pv_I (ly_ S p f a m).2))) h') : VV G 9 20 2000 yX6_layOn cX6_layOn 8 (some .int) [] 0 (vv_en 8 [pv_O (10, 0), pv_O (13, p), pv_O (t, p)]) [] h Q := by
  show VV G 9 20 2000 yX6_layOn cX6_layOn 8 (some .int) [] 0 [some (pv_O (10, 0)), some (pv_O (13, p)), some (pv_O (t, p)), none, none, none, none, none] [] h Q
  obtain ⟨R0, RL, R1, R2, R3, R4, R5⟩ := id R
  have F := R3.1 p hp
  refine v_aload_n 1 dX6_layOn_0 rfl rfl ?_
  refine v_aload_n 2 dX6_layOn_1 rfl rfl ?_
  refine v_getfi 5 dX6_layOn_2 fl_X6_177 (by first | assumption | rfl) (by rfl) rfl ?_
  rw [p3]
  refine v_invs (d' := 0) (k' := 0) (n' := 0) (k2 := 20) (n2 := 2000) 8 [_, _] dX6_layOn_5 mt_X6_359 ms_X6_stripOf rfl rfl (of_decide_eq_true rfl) rfl (by decide) rfl rfl rfl rfl (C_X6_stripOf F (nI_lt (a := 0) (by omega) (by omega)) ?_)
  refine v_istore_n 9 dX6_layOn_8 (by decide) rfl rfl ?_
  dsimp only [List.set]
  refine v_aload_n 10 dX6_layOn_9 rfl rfl ?_
  refine v_getfr 13 dX6_layOn_10 fl_X6_366 (by first | assumption | rfl) (by rfl) rfl ?_
  rw [p1]
  refine v_aload_n 14 dX6_layOn_13 rfl rfl ?_
  refine v_getfi 17 dX6_layOn_14 fl_X6_370 (by first | assumption | rfl) (by rfl) rfl ?_
  rw [p2]
  refine v_aload_n 18 dX6_layOn_17 rfl rfl ?_
  refine v_getfi 21 dX6_layOn_18 fl_X6_177 (by first | assumption | rfl) (by rfl) rfl ?_
  rw [p3]
  refine v_invv (d' := 3) (k' := 0) (n' := 0) (k2 := 20) (n2 := 2000) 24 [_, _] dX6_layOn_21 mt_X6_264 mi_X0_use me_X0_use (by first | assumption | rfl) (by rfl) rfl rfl (of_decide_eq_true rfl) rfl (by decide) rfl rfl rfl rfl (C_X0_use hf n24 ham hfree (fun h2 Q2 te2 => ?_) R2)
  have RR := R.us Q2 te2
  have hp2 : p < nn_ (su_ S f a m) 2 := by show p < (su_ S f a m).2.1 2; rw [su_2]; exact hp
  have FF := RR.2.2.2.2.1.1 p hp2
  have e43 := su_te S f a (t := 43) (by decide) m
  refine v_aload_n 25 dX6_layOn_24 rfl rfl ?_
  refine v_invv (d' := 0) (k' := 0) (n' := 0) (k2 := 20) (n2 := 2000) 28 [] dX6_layOn_25 mt_X6_152 mi_X4_surface me_X4_surface (by first | assumption | rfl) (by rfl) rfl rfl (of_decide_eq_true rfl) rfl (by decide) rfl rfl rfl rfl (C_X4_surface FF ?_)
  rw [e43.2.2.1]
  refine v_isub 29 dX6_layOn_28 rfl ?_
  refine v_istore 31 dX6_layOn_29 (by decide) rfl rfl ?_
  dsimp only [List.set]
  refine v_iconstv (v := 0) 32 dX6_layOn_31 (by decide) rfl ?_
  refine v_istore 34 dX6_layOn_32 (by decide) rfl rfl ?_
  dsimp only [List.set]
  have ec := su_2 S f a m
  refine VV.less (d' := 8) (k' := 2 * m) (n' := 232 * m) (by decide) (by omega) (by omega) (L_X6_layOn (h0 := h2) (S := su_ S f a m) (f := f) (a := a) (m := m) (ht := hp_vi S.1 43 p 1) ht9 hk7 ?_ ?_ ?_ ?_ ?_ ?_ ?_ hm8 ?_ ?_ ?_ (fun h' R9 te9 => hq h' R9 (fun t9 h9 => ?_)) m 0 _ _ h2 (Nat.zero_add m) RR (fun _ _ _ _ => hp_te.rf))
  · rw [(te2 13 (by decide) (by decide)).2.2.1]; exact F.2.1.2.1
  · rw [(te2 t (by omega) (by omega)).2.2.2.1]; exact p1
  · rw [(te2 t (by omega) (by omega)).2.2.1]; exact p2
  · rw [(te2 t (by omega) (by omega)).2.2.1]; exact p3
  · show f < (su_ S f a m).2.1 1; rw [ec]; exact hf
  · rw [su_n]; exact n24
  · rw [su_n]; exact ham
  · show (su_ S f a m).2.1 5 ≤ (su_ S f a m).2.1 4; rw [ec]; exact hc5
  · show (su_ S f a m).2.1 4 ≤ 128; rw [ec]; exact hc4
  · intro i hi
    show (su_ S f a m).2.2 i < (su_ S f a m).2.1 4
    rw [ec]
    exact ho i (by have h8 : i < (su_ S f a m).2.1 5 := hi
                   rw [ec] at h8; exact h8)
  · exact (te2 t9 (by omega) (by omega)).tr (te9 t9 (by omega) (by omega) (by omega) (by omega))
