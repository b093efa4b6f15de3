section VVQ
variable {h h1 h2 h' : PH} {F : Nat → Int32}
/-- what making a row of numbers keeps -/
def fx_ (h h' : PH) : Prop := (∀ t, ¬ t = 72 → ¬ t = 73 → ¬ t = 74 → hp_te h h' t) ∧ (fr_s h → fr_s h')
theorem fx_.ke (a : fx_ h h') : ke_ h h' := ⟨fun t ht => a.1 t (by omega) (by omega) (by omega), a.2⟩
theorem fx_.R {S : SP} (a : fx_ h h') (R : Rp2 S h) : Rp2 S h' := R.te (fun t ht => a.1 t (by omega) (by omega) (by omega))
/-- each place's piece by its number -/
def pr_ (F : Nat → Int32) (h : PH) (A : Nat) : Prop := hp_ln h 72 A = 64 ∧ ∀ z, z < 64 → ∃ a t, a < 64 ∧ st_ F a ∧ ct_ (st_ F) a t ∧ cn_ F a z ∧ hp_vi h 72 A z = nI t
def pb_ (F : Nat → Int32) (h0 : PH) (A : Nat) (h : PH) (k tt c0 : Nat) : Prop :=
  fa_ h0 h ∧ (∀ z, z < 64 → (vk_ F k z → ∃ a t, a < k ∧ st_ F a ∧ ct_ (st_ F) a t ∧ cn_ F a z ∧ hp_vi h 72 A z = nI t) ∧ (¬ vk_ F k z → hp_vi h 72 A z = -1)) ∧ ct_ (st_ F) k tt ∧ ct_ (vk_ F k) 64 c0
variable {h0 : PH} {A k tt c0 c1 L n : Nat} {q : Nat → Nat}
theorem pb_.y (C : pb_ F h0 A h k tt c0) (hv : vk_ F k k) : pb_ F h0 A h (k + 1) tt c0 :=
  ⟨C.1, fun z hz => ⟨fun w => let ⟨a, t, h1, h2⟩ := (C.2.1 z hz).1 ((vk_y hv).mp w); ⟨a, t, by omega, h2⟩, fun w => (C.2.1 z hz).2 (fun v => w ((vk_y hv).mpr v))⟩, ⟨tt, C.2.2.1, Or.inr ⟨fun w => vk_st.mpr w hv, rfl⟩⟩, ct_cg 64 (fun _ _ => (vk_y hv).symm) C.2.2.2⟩
theorem pb_.st (C : pb_ F h0 A h k tt c0) (hv : ¬ vk_ F k k) (G : gb_ F h A L k c0 (nI tt) (vk_ F k) h' q n n 0) (hc1 : ct_ (fun z => vk_ F k z ∨ cn_ F k z) 64 c1) : pb_ F h0 A h' (k + 1) (tt + 1) c1 := by
  have hE := bf_e G.2.1 (fun _ _ _ ad => ad_nr ad) (fun z j hz ad e => vk_c hz ad e)
  refine ⟨C.1.tr G.1, fun z hz => ?_, ⟨tt, C.2.2.1, Or.inl ⟨vk_st.mp hv, rfl⟩⟩, ct_cg 64 (fun _ _ => vk_s.symm) hc1⟩
  obtain ⟨g1, g2, g3⟩ := G.2.2.2 z hz
  refine ⟨fun w => ?_, fun w => ?_⟩
  · rcases Classical.em (vk_ F k z) with y | y
    · obtain ⟨a, t, h1, h2, h3, h4, h5⟩ := (C.2.1 z hz).1 y
      exact ⟨a, t, by omega, h2, h3, h4, (g1 y).trans h5⟩
    · have y2 := (vk_s.mp w).resolve_left y
      exact ⟨k, tt, by omega, vk_st.mp hv, C.2.2.1, y2, g2 ((hE z).mp y2)⟩
  · exact g3 (fun y => w (vk_s.mpr (Or.inl y))) (fun y => w (vk_s.mpr (Or.inr ((hE z).mpr y))))
theorem pb_.e (C : pb_ F h0 A h 64 tt c0) (hA : hp_ln h0 72 A = 64) : pr_ F h A := ⟨by rw [C.1.2.2.1]; exact hA, fun z hz => let ⟨a, t, h1, h2⟩ := (C.2.1 z hz).1 (vk_64 hz); ⟨a, t, h1, h2⟩⟩
theorem pb_.ne (C : pb_ F h0 A h k tt c0) {z : Nat} (hz : z < 64) (e : ¬ hp_vi h 72 A z = -1) : vk_ F k z := Decidable.byContradiction (dec := Classical.propDecidable _) (fun w => e ((C.2.1 z hz).2 w))
theorem pb_.v (C : pb_ F h0 A h k tt c0) (hk : k ≤ 64) {z : Nat} (hz : z < 64) (w : vk_ F k z) : ¬ hp_vi h 72 A z = -1 := by
  obtain ⟨a, t, h1, h2, h3, h4, h5⟩ := (C.2.1 z hz).1 w
  rw [h5]
  have := ct_le a h3
  exact ni_m1 (by omega)
/-- the counts grow -/
theorem ct_up {P : Nat → Prop} {a t : Nat} (h : ct_ P a t) : ∀ n {r : Nat}, a ≤ n → ct_ P n r → t ≤ r
  | 0, r, hn, h' => by
    obtain rfl : a = 0 := by omega
    exact Nat.le_of_eq (ct_fn 0 h h')
  | n + 1, r, hn, ⟨b, hb, h'⟩ => by
    by_cases e : a = n + 1
    · subst e
      exact Nat.le_of_eq (ct_fn _ h ⟨b, hb, h'⟩)
    · have := ct_up h n (by omega) hb
      rcases h' with ⟨-, y⟩ | ⟨-, y⟩ <;> omega
theorem mx_nI {a b : Nat} (ha : a < 2 ^ 31) (hb : b < 2 ^ 31) : mx (nI a) (nI b) = nI (max a b) := by
  show (if nI a < nI b then nI b else nI a) = _
  by_cases w : a < b
  · rw [if_pos (nI_lt w hb), Nat.max_eq_right (by omega)]
  · rw [if_neg (nI_nlt (by omega) ha), Nat.max_eq_left (by omega)]
/-- a start that is joined with a place that stands before it: no -/
theorem st_le {a z : Nat} (h : st_ F a) (c : cn_ F a z) : a ≤ z := Nat.le_of_not_lt (fun w => h z w (cn_sy c))
theorem pr_mo (p9 : pr_ F h A) : ∀ k {r : Nat}, k ≤ 64 → ct_ (st_ F) k r → mo_ (hp_vi h 72 A) k = nI r
  | 0, r, _, hr => by have e : r = 0 := hr; rw [e]; rfl
  | k + 1, r, hk, ⟨r', hr', hx⟩ => by
    have ih := pr_mo p9 k (by omega) hr'
    have hle := ct_le k hr'
    obtain ⟨a, t, h1, h2, h3, h4, h5⟩ := p9.2 k (by omega)
    have hak := st_le h2 h4
    show mx (mo_ (hp_vi h 72 A) k) (hp_vi h 72 A k + 1) = _
    rw [ih, h5, nI_1]
    have htl := ct_le a h3
    rw [mx_nI (by omega) (by omega)]
    congr 1
    by_cases e : a = k
    · subst e
      have := ct_fn a h3 hr'
      rcases hx with ⟨x, y⟩ | ⟨x, y⟩
      · omega
      · exact absurd h2 x
    · have hns : ¬ st_ F k := fun w => w a (by omega) h4
      have h6 := ct_up (a := a + 1) (t := t + 1) ⟨t, h3, Or.inl ⟨h2, rfl⟩⟩ k (by omega) hr'
      rcases hx with ⟨x, y⟩ | ⟨x, y⟩
      · exact absurd x hns
      · omega
/-- counts by twenty and more changed -/
theorem Rp2.cu {A : PH} {c c' : Nat → Nat} {o : Nat → Nat} (R : Rp2 (A, c, o) h) (n2 : c 2 ≤ 8) (e : ∀ j, j < 20 → c' j = c j) : Rp2 (A, c', o) h := by
  obtain ⟨L0, L1, L2, L3, L4, L5⟩ := R.2.1
  refine R.ls rfl (fun t ht => hp_te.rf) ⟨?_, ?_, ?_, ?_, ?_, ?_⟩
  · show q_l h 50 56 (c' 0) _; rw [e 0 (by decide)]; exact L0
  · show q_l h 51 57 (c' 1) _; rw [e 1 (by decide)]; exact L1
  · show q_l h 52 58 (c' 2) _; rw [e 2 (by decide)]; exact L2
  · show q_l h 53 59 (c' 2) _
    rw [e 2 (by decide)]
    refine L3.f (fun k hk => ?_)
    have hk9 : k < c 2 := hk
    show _ = (4, c' (10 + k) + 128)
    rw [e (10 + k) (by omega)]
  · show q_l h 54 60 (c' 5) _; rw [e 5 (by decide)]; exact L4
  · show q_l h 55 61 (c' 3) _; rw [e 3 (by decide)]; exact L5
set_option maxRecDepth 20000 in
theorem Z_X11_pieces {G : GW} {h0 : PH} {Q : RS → PH → Prop} {S : SP} {p A : Nat} (R0 : Rp2 S h0) (i4 : hp_vr S.1 44 p 0 = (63, p)) (i6 : hp_ln S.1 63 p = 64) (hA : hp_ln h0 72 A = 64) (K : ∀ h, fa_ h0 h → (∀ z, z < 64 → hp_vi h 72 A z = -1) → VV G 8 128 3073 yX11_pieces cX11_pieces 4 (some (.array .int)) [] 25 [some (pv_O (44, p)), some (pv_O (72, A)), some (pv_I 0), some (pv_I (nI 64))] [] h Q) : ∀ fuel : Nat, ∀ (k : Nat) (h : PH), k + fuel = 64 → fa_ h0 h → (∀ z, z < k → hp_vi h 72 A z = -1) → VV G 8 128 3073 yX11_pieces cX11_pieces 4 (some (.array .int)) [] 9 [some (pv_O (44, p)), some (pv_O (72, A)), some (pv_I 0), some (pv_I (nI k))] [] h Q := by
  intro fuel
  induction fuel with
  | zero =>
    intro k h hf g hz
    obtain rfl : k = 64 := by omega
    refine v_iload_n 10 dX11_pieces_9 rfl rfl ?_
    refine v_bipushv (v := 64) 12 dX11_pieces_10 (by decide) rfl ?_
    refine v_icmp_ge 25 15 dX11_pieces_12 (by decide) rfl (fun c12 => ?_) (fun c12 => ?_)
    · exact K _ g hz
    · exact absurd (nI_le (Nat.le_refl 64) (by decide)) c12
  | succ fuel ih =>
    intro k h hf g hz
    refine v_iload_n 10 dX11_pieces_9 rfl rfl ?_
    refine v_bipushv (v := 64) 12 dX11_pieces_10 (by decide) rfl ?_
    refine v_icmp_ge 25 15 dX11_pieces_12 (by decide) rfl (fun c12 => ?_) (fun c12 => ?_)
    · exact absurd c12 (nI_ge (a := k) (b := 64) (by omega) (by decide))
    · refine v_aload_n 16 dX11_pieces_15 rfl rfl ?_
      refine v_iload_n 17 dX11_pieces_16 rfl rfl ?_
      refine v_iconstv (v := -1) 18 dX11_pieces_17 (by decide) rfl ?_
      refine v_iast 19 dX11_pieces_18 (by first | assumption | rfl) (by first | assumption | decide) (by rw [g.2.2.1, hA]; exact in_nI (by omega) (by omega)) rfl ?_
      rw [nI_clamp (by omega)]
      refine v_iinc 22 dX11_pieces_19 rfl (by decide) rfl rfl ?_
      dsimp only [List.set]
      refine v_goto 9 dX11_pieces_22 (by decide) ?_
      rw [show nI k + Int32.ofInt 1 = nI (k + 1) from nI_1 k]
      exact ih (k + 1) _ (by omega) (g.tr fa_.i) (fun z hz9 => by
        by_cases w : z = k
        · rw [w]; exact hp_seti_at
        · exact (hp_seti_ne (fun y => w y.2.2)).trans (hz z (by omega)))
set_option maxRecDepth 20000 in
theorem L_X11_pieces {G : GW} {h0 : PH} {Q : RS → PH → Prop} {S : SP} {p A : Nat} (R0 : Rp2 S h0) (i4 : hp_vr S.1 44 p 0 = (63, p)) (i6 : hp_ln S.1 63 p = 64) (hA : hp_ln h0 72 A = 64) (Fr : fr_s h0) (hq : ∀ h', pr_ (hp_vi S.1 63 p) h' A → fa_ h0 h' → Q (.inl (some (pv_O (72, A)))) h') : ∀ fuel : Nat, ∀ (k : Nat) (h : PH) (tt c0 : Nat), k + fuel = 64 → pb_ (hp_vi S.1 63 p) h0 A h k tt c0 → VV G 8 (2 * (64 - c0)) (fs_ 0 (64 - c0)) yX11_pieces cX11_pieces 4 (some (.array .int)) [] 27 [some (pv_O (44, p)), some (pv_O (72, A)), some (pv_I (nI tt)), some (pv_I (nI k))] [] h Q := by
  intro fuel
  induction fuel with
  | zero =>
    intro k h tt c0 hf C
    obtain rfl : k = 64 := by omega
    refine v_iload_n 28 dX11_pieces_27 rfl rfl ?_
    refine v_bipushv (v := 64) 30 dX11_pieces_28 (by decide) rfl ?_
    refine v_icmp_ge 56 33 dX11_pieces_30 (by decide) rfl (fun c30 => ?_) (fun c30 => ?_)
    · refine v_aload_n 57 dX11_pieces_56 rfl rfl ?_
      refine v_areturn dX11_pieces_57 rfl (Or.inr ⟨_, rfl⟩) ?_
      exact hq _ (C.e hA) C.1
    · exact absurd (nI_le (Nat.le_refl 64) (by decide)) c30
  | succ fuel ih =>
    intro k h tt c0 hf C
    refine v_iload_n 28 dX11_pieces_27 rfl rfl ?_
    refine v_bipushv (v := 64) 30 dX11_pieces_28 (by decide) rfl ?_
    refine v_icmp_ge 56 33 dX11_pieces_30 (by decide) rfl (fun c30 => ?_) (fun c30 => ?_)
    · exact absurd c30 (nI_ge (a := k) (b := 64) (by omega) (by decide))
    · refine v_aload_n 34 dX11_pieces_33 rfl rfl ?_
      refine v_iload_n 35 dX11_pieces_34 rfl rfl ?_
      refine v_iald 36 dX11_pieces_35 (by first | assumption | rfl) (by rw [C.1.2.2.1, hA]; exact in_nI (by omega) (by omega)) rfl ?_
      rw [nI_clamp (by omega)]
      refine v_iconstv (v := -1) 37 dX11_pieces_36 (by decide) rfl ?_
      refine v_icmp_ne 50 40 dX11_pieces_37 (by decide) rfl (fun c37 => ?_) (fun c37 => ?_)
      · refine v_iinc 53 dX11_pieces_50 rfl (by decide) rfl rfl ?_
        dsimp only [List.set]
        refine v_goto 27 dX11_pieces_53 (by decide) ?_
        rw [show nI k + Int32.ofInt 1 = nI (k + 1) from nI_1 k]
        exact ih (k + 1) _ _ _ (by omega) (C.y (C.ne (by omega) c37))
      · refine v_aload_n 41 dX11_pieces_40 rfl rfl ?_
        refine v_aload_n 42 dX11_pieces_41 rfl rfl ?_
        refine v_iload_n 43 dX11_pieces_42 rfl rfl ?_
        refine v_iload_n 44 dX11_pieces_43 rfl rfl ?_
        have hv : ¬ vk_ (hp_vi S.1 63 p) k k := fun w => C.v (by omega) (by omega) w c37
        obtain ⟨c1, hc1⟩ := ct_ex (fun z => vk_ (hp_vi S.1 63 p) k z ∨ cn_ (hp_vi S.1 63 p) k z) 64
        have h01 := ct_mo 64 (fun z _ y => y.imp id (fun (e : z = k) => e ▸ cn_rf)) (ct_ad 64 (z := k) (by omega) hv C.2.2.2) hc1
        have h64 := ct_le 64 hc1
        obtain ⟨m1, hm1⟩ : ∃ m1, c0 + m1 + 1 = c1 := ⟨c1 - c0 - 1, by omega⟩
        have htt := ct_le k C.2.2.1
        have hsu := fs_su (a := 64 - c1) (r := m1 + 1)
        rw [show 64 - c1 + (m1 + 1) = 64 - c0 by omega] at hsu
        have hsu : fs_ 0 (64 - c1) + (fs_ 1 m1 + 13) ≤ fs_ 0 (64 - c0) := hsu
        refine VV.less (Nat.le_refl _) (k' := 2 * (64 - c1) + (m1 + 2)) (n' := fs_ 0 (64 - c1) + (fs_ 1 m1 + 13)) (by omega) hsu ?_
        refine v_invv (d' := 7) (k' := m1 + 2) (n' := fs_ 1 m1 + 13) (k2 := 2 * (64 - c1)) (n2 := fs_ 0 (64 - c1)) 47 [_, _, _] dX11_pieces_44 mt_X11_18 mi_X11_fills me_X11_fills (by first | assumption | rfl) (by rfl) rfl rfl (of_decide_eq_true rfl) rfl (by decide) rfl rfl rfl rfl (C_X11_fills (V := vk_ (hp_vi S.1 63 p) k) (c0 := c0) (c1 := c1) (C.1.R R0) i4 i6 (by rw [C.1.2.2.1]; exact hA) (by omega) (by omega) (fun z hz w => C.v (by omega) hz w) hc1 (C.1.2.2.2 Fr) hv C.2.2.2 (fun z hz w => (C.2.1 z hz).2 w) hm1 (fun L h' q n G9 => ?_))
        refine v_iinc 50 dX11_pieces_47 rfl (by decide) rfl rfl ?_
        dsimp only [List.set]
        refine v_iinc 53 dX11_pieces_50 rfl (by decide) rfl rfl ?_
        dsimp only [List.set]
        refine v_goto 27 dX11_pieces_53 (by decide) ?_
        rw [show nI tt + Int32.ofInt 1 = nI (tt + 1) from nI_1 tt, show nI k + Int32.ofInt 1 = nI (k + 1) from nI_1 k]
        exact ih (k + 1) _ _ _ (by omega) (C.st hv G9 hc1)
set_option maxRecDepth 20000 in
theorem C_X11_pieces {G : GW} {h : PH} {Q : RS → PH → Prop} {S : SP} {p : Nat} (R : Rp2 S h) (i4 : hp_vr S.1 44 p 0 = (63, p)) (i6 : hp_ln S.1 63 p = 64) (Fr : fr_s h) (hq : ∀ A h', pr_ (hp_vi S.1 63 p) h' A → fx_ h h' → Q (.inl (some (pv_O (72, A)))) h') : VV G 8 129 3137 yX11_pieces cX11_pieces 4 (some (.array .int)) [] 0 (vv_en 4 [pv_O (44, p)]) [] h Q := by
  show VV G 8 129 3137 yX11_pieces cX11_pieces 4 (some (.array .int)) [] 0 [some (pv_O (44, p)), none, none, none] [] h Q
  obtain ⟨A, hg⟩ := Fr 72 (by decide) (by decide)
  refine v_bipushv (v := 64) 2 dX11_pieces_0 (by decide) rfl ?_
  refine v_newarr (ty := .int) (N := 64) (k1 := 128) (n1 := 3073) 4 72 A dX11_pieces_2 ac_int rfl (by simp [g_tys]) (by rfl) (by decide) (hg A (Nat.le_refl _)) (by decide) (by decide) (by decide) rfl rfl rfl ?_
  refine v_astore_n 5 dX11_pieces_4 (by decide) rfl rfl ?_
  dsimp only [List.set]
  refine v_iconstv (v := 0) 6 dX11_pieces_5 (by decide) rfl ?_
  refine v_istore_n 7 dX11_pieces_6 (by decide) rfl rfl ?_
  dsimp only [List.set]
  refine v_iconstv (v := 0) 8 dX11_pieces_7 (by decide) rfl ?_
  refine v_istore_n 9 dX11_pieces_8 (by decide) rfl rfl ?_
  dsimp only [List.set]
  have R1 : Rp2 S (hp_new h 72 A 64) := R.te (fun t ht => hp_te.n (by omega))
  have Fr1 : fr_s (hp_new h 72 A 64) := fun t a b => fr_t.n (n := 64) (Fr t a b)
  refine Z_X11_pieces R1 i4 i6 hp_new_ln0 (fun h1 f1 hz => ?_) 64 0 _ rfl fa_.rf (fun z hz => absurd hz (Nat.not_lt_zero z))
  refine v_iconstv (v := 0) 26 dX11_pieces_25 (by decide) rfl ?_
  refine v_istore_n 27 dX11_pieces_26 (by decide) rfl rfl ?_
  dsimp only [List.set]
  refine VV.less (Nat.le_refl _) (k' := 2 * (64 - 0)) (n' := fs_ 0 (64 - 0)) (by decide) (Nat.le_of_eq fs_64) ?_
  exact L_X11_pieces R1 i4 i6 hp_new_ln0 Fr1 (fun h' p9 f9 => hq A h' p9 ⟨fun t q1 q2 q3 => (hp_te.n q1).tr (f9.1 t q1 q2 q3), fun _ => f9.2.2.2 Fr1⟩) 64 0 h1 0 0 rfl ⟨f1, fun z hz9 => ⟨fun w => absurd w vk_0, fun _ => hz z hz9⟩, rfl, ct_no 64 (fun _ _ => vk_0)⟩
end VVQ
