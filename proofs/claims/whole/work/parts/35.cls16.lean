def rs_ (S : SP) : Nat → SP
  | 0 => S
  | k + 1 => (hp_seti (rs_ S k).1 43 k 12 0, S.2)
def rc_ (S : SP) : Nat → Nat
  | 0 => 0
  | k + 1 => rc_ S k + (if 0 < hp_vi S.1 43 k 12 then 1 else 0)
def op_rest (S : SP) : Int32 × SP := (nI (rc_ S (nn_ S 2)), rs_ S (nn_ S 2))
theorem rs_2 (S : SP) : ∀ k, (rs_ S k).2 = S.2
  | 0 => rfl
  | _ + 1 => rfl
theorem rs_te (S : SP) {t : Nat} (ht : ¬ t = 43) : ∀ k, hp_te S.1 (rs_ S k).1 t
  | 0 => hp_te.rf
  | k + 1 => (rs_te S ht k).tr (hp_te.i ht)
theorem rs_tx (S : SP) : ∀ (k : Nat) {p : Nat}, k ≤ p → hp_tx S.1 (rs_ S k).1 43 p
  | 0, _, _ => hp_tx.rf
  | k + 1, p, h => (rs_tx S k (by omega)).tr (hp_tx.i (by omega))
set_option maxRecDepth 20000 in
theorem L_X6_rest {G : GW} {h0 : PH} {Q : RS → PH → Prop} {S : SP} (hn : nn_ S 2 ≤ 8) (hq : ∀ h', Rp1 (rs_ S (nn_ S 2)) h' → (∀ t, ¬ t = 13 → hp_te h0 h' t) → Q (.inl (some (pv_I (nI (rc_ S (nn_ S 2)))))) h') : ∀ fuel : Nat, ∀ (k : Nat) (z3 : Option PV) (h : PH), k ≤ nn_ S 2 → nn_ S 2 - k < fuel → Rp1 (rs_ S k) h → (∀ t, ¬ t = 13 → hp_te h0 h t) → VV G 3 0 0 yX6_rest cX6_rest 4 (some .int) [] 4 [some (pv_O (10, 0)), some (pv_I (nI (rc_ S k))), some (pv_I (nI k)), z3] [] h Q := by
  intro fuel
  induction fuel with
  | zero =>
    intro k z3 h h1 h2
    omega
  | succ fuel ih =>
    intro k z3 h h1 h2 R hT
    obtain ⟨R0, RL, R1, R2, R3, R4, R5⟩ := id R
    have hn2 : nn_ (rs_ S k) 2 = nn_ S 2 := by show (rs_ S k).2.1 2 = _; rw [rs_2]
    obtain ⟨cap, LL⟩ := id RL.2.2.1
    refine v_iload_n 5 dX6_rest_4 rfl rfl ?_
    refine v_aload_n 6 dX6_rest_5 rfl rfl ?_
    refine v_getfr 9 dX6_rest_6 fl_X6_19 (by first | assumption | rfl) (by rfl) rfl ?_
    rw [R0.1.2.2.2.1]
    refine v_invv (d' := 0) (k' := 0) (n' := 0) (k2 := 0) (n2 := 0) 12 [] dX6_rest_9 mt_X6_47 mi_Jx4a65c_size_8abf5 me_Jx4a65c_size_8abf5 (by first | assumption | rfl) (by rfl) rfl rfl (of_decide_eq_true rfl) rfl (by decide) rfl rfl rfl rfl (C_Jx4a65c_size_8abf5 (tl := 22) (ta := 27) rfl rfl LL ?_)
    rw [hn2]
    refine v_icmp_ge 48 15 dX6_rest_12 (by decide) rfl (fun c12 => ?_) (fun c12 => ?_)
    · have hkm : k = nn_ S 2 := by
        rcases Nat.lt_or_ge k (nn_ S 2) with q | q
        · exact absurd c12 (nI_ge q (by omega))
        · omega
      subst hkm
      refine v_iload_n 49 dX6_rest_48 rfl rfl ?_
      refine v_ireturn dX6_rest_49 rfl ?_
      exact hq _ R hT
    · have hkm : k < nn_ S 2 := by
        rcases Nat.lt_or_ge k (nn_ S 2) with q | q
        · exact q
        · exact absurd (nI_le q (by omega)) c12
      have F := R3.1 k (by rw [hn2]; exact hkm)
      refine v_aload_n 16 dX6_rest_15 rfl rfl ?_
      refine v_getfr 19 dX6_rest_16 fl_X6_19 (by first | assumption | rfl) (by rfl) rfl ?_
      rw [R0.1.2.2.2.1]
      refine v_iload_n 20 dX6_rest_19 rfl rfl ?_
      refine v_invv (d' := 2) (k' := 0) (n' := 0) (k2 := 0) (n2 := 0) 23 [_] dX6_rest_20 mt_X6_216 mi_Jx4a65c_get_915e3 me_Jx4a65c_get_915e3 (by first | assumption | rfl) (by rfl) rfl rfl (of_decide_eq_true rfl) rfl (by decide) rfl rfl rfl rfl (C_Jx4a65c_get_915e3 (tl := 22) (ta := 27) rfl rfl LL (by rw [hn2]; exact hkm) ?_)
      refine v_cast 26 dX6_rest_23 ⟨_, _, rfl, rfl, cl_X6_108⟩ rfl ?_
      refine v_astore_n 27 dX6_rest_26 (by decide) rfl rfl ?_
      dsimp only [List.set]
      refine v_aload_n 28 dX6_rest_27 rfl rfl ?_
      refine v_getfi 31 dX6_rest_28 fl_X6_220 (by first | assumption | rfl) (by rfl) rfl ?_
      rw [F.2.2.1.2.2.2.2.2.2.1, (rs_tx S k (Nat.le_refl k)).2.2.1]
      refine v_if_le 37 34 dX6_rest_31 (by decide) rfl (fun c31 => ?_) (fun c31 => ?_)
      · refine v_aload_n 38 dX6_rest_37 rfl rfl ?_
        refine v_iconstv (v := 0) 39 dX6_rest_38 (by decide) rfl ?_
        refine v_putfi 42 dX6_rest_39 pf_X6_rest_220 (by first | assumption | rfl) (by first | assumption | decide) (by rfl) rfl rfl rfl ?_
        have NX : Rp1 (rs_ S (k + 1)) (hp_seti h 13 k 12 0) := by
          refine R.pn (p := k) (fun t ht => hp_te.i ht) (fun t ht => hp_te.i ht) (rs_2 S k).symm rfl (fun j hj l => ⟨hp_seti_ne (fun w => hj w.2.1), rfl⟩) (fun j hj l => ⟨hp_seti_ne (fun w => hj w.2.1), rfl⟩) ?_
          obtain ⟨⟨a1, a2, a3⟩, ⟨b1, b2, b3, b4⟩, ⟨d1, d2, d3, d4, d5, d6, d7, d8⟩, e1, e2, e3, e4⟩ := F
          have ec : nn_ (rs_ S (k + 1)) (10 + k) = nn_ (rs_ S k) (10 + k) := by show S.2.1 _ = (rs_ S k).2.1 _; rw [rs_2]
          refine ⟨⟨a1, a2, a3⟩, ⟨?_, ?_, ?_, ?_⟩, ⟨?_, ?_, ?_, ?_, ?_, ?_, ?_, ?_⟩, e1, e2, e3, e4⟩
          · exact (hp_seti_ne (by simp)).trans (b1.trans (hp_seti_ne (by simp)).symm)
          · exact (hp_seti_ne (by simp)).trans (b2.trans (hp_seti_ne (by simp)).symm)
          · rw [ec]; exact (hp_seti_ne (by simp)).trans b3
          · rw [ec, hp_seti_ne (by simp)]; exact b4.trans (hp_seti_ne (by simp)).symm
          · exact (hp_seti_ne (by simp)).trans (d1.trans (hp_seti_ne (by simp)).symm)
          · exact (hp_seti_ne (by simp)).trans (d2.trans (hp_seti_ne (by simp)).symm)
          · exact (hp_seti_ne (by simp)).trans (d3.trans (hp_seti_ne (by simp)).symm)
          · exact (hp_seti_ne (by simp)).trans (d4.trans (hp_seti_ne (by simp)).symm)
          · exact (hp_seti_ne (by simp)).trans (d5.trans (s_lf_te (S := rs_ S k) (S' := rs_ S (k + 1)) (hp_seti_ne (by simp)) rfl (hp_te.i (by decide)) (hp_te.i (by decide))).symm)
          · exact (hp_seti_ne (by simp)).trans (d6.trans (hp_seti_ne (by simp)).symm)
          · exact hp_seti_at.trans hp_seti_at.symm
          · exact (hp_seti_ne (by simp)).trans (d8.trans (hp_seti_ne (by simp)).symm)
        refine v_iinc 45 dX6_rest_42 rfl (by decide) rfl rfl ?_
        dsimp only [List.set]
        refine v_goto 4 dX6_rest_45 (by decide) ?_
        rw [show nI k + Int32.ofInt 1 = nI (k + 1) from nI_1 k]
        have er : rc_ S (k + 1) = rc_ S k := by
          show rc_ S k + (if 0 < hp_vi S.1 43 k 12 then 1 else 0) = _
          rw [if_neg (Int32.not_lt.mpr c31)]; rfl
        rw [← er]
        exact ih (k + 1) _ _ (by omega) (by omega) NX (fun t ht => (hT t ht).tr (hp_te.i ht))
      · refine v_iinc 37 dX6_rest_34 rfl (by decide) rfl rfl ?_
        dsimp only [List.set]
        refine v_aload_n 38 dX6_rest_37 rfl rfl ?_
        refine v_iconstv (v := 0) 39 dX6_rest_38 (by decide) rfl ?_
        refine v_putfi 42 dX6_rest_39 pf_X6_rest_220 (by first | assumption | rfl) (by first | assumption | decide) (by rfl) rfl rfl rfl ?_
        have NX : Rp1 (rs_ S (k + 1)) (hp_seti h 13 k 12 0) := by
          refine R.pn (p := k) (fun t ht => hp_te.i ht) (fun t ht => hp_te.i ht) (rs_2 S k).symm rfl (fun j hj l => ⟨hp_seti_ne (fun w => hj w.2.1), rfl⟩) (fun j hj l => ⟨hp_seti_ne (fun w => hj w.2.1), rfl⟩) ?_
          obtain ⟨⟨a1, a2, a3⟩, ⟨b1, b2, b3, b4⟩, ⟨d1, d2, d3, d4, d5, d6, d7, d8⟩, e1, e2, e3, e4⟩ := F
          have ec : nn_ (rs_ S (k + 1)) (10 + k) = nn_ (rs_ S k) (10 + k) := by show S.2.1 _ = (rs_ S k).2.1 _; rw [rs_2]
          refine ⟨⟨a1, a2, a3⟩, ⟨?_, ?_, ?_, ?_⟩, ⟨?_, ?_, ?_, ?_, ?_, ?_, ?_, ?_⟩, e1, e2, e3, e4⟩
          · exact (hp_seti_ne (by simp)).trans (b1.trans (hp_seti_ne (by simp)).symm)
          · exact (hp_seti_ne (by simp)).trans (b2.trans (hp_seti_ne (by simp)).symm)
          · rw [ec]; exact (hp_seti_ne (by simp)).trans b3
          · rw [ec, hp_seti_ne (by simp)]; exact b4.trans (hp_seti_ne (by simp)).symm
          · exact (hp_seti_ne (by simp)).trans (d1.trans (hp_seti_ne (by simp)).symm)
          · exact (hp_seti_ne (by simp)).trans (d2.trans (hp_seti_ne (by simp)).symm)
          · exact (hp_seti_ne (by simp)).trans (d3.trans (hp_seti_ne (by simp)).symm)
          · exact (hp_seti_ne (by simp)).trans (d4.trans (hp_seti_ne (by simp)).symm)
          · exact (hp_seti_ne (by simp)).trans (d5.trans (s_lf_te (S := rs_ S k) (S' := rs_ S (k + 1)) (hp_seti_ne (by simp)) rfl (hp_te.i (by decide)) (hp_te.i (by decide))).symm)
          · exact (hp_seti_ne (by simp)).trans (d6.trans (hp_seti_ne (by simp)).symm)
          · exact hp_seti_at.trans hp_seti_at.symm
          · exact (hp_seti_ne (by simp)).trans (d8.trans (hp_seti_ne (by simp)).symm)
        refine v_iinc 45 dX6_rest_42 rfl (by decide) rfl rfl ?_
        dsimp only [List.set]
        refine v_goto 4 dX6_rest_45 (by decide) ?_
        rw [show nI k + Int32.ofInt 1 = nI (k + 1) from nI_1 k, show nI (rc_ S k) + Int32.ofInt 1 = nI (rc_ S k + 1) from nI_1 _]
        have er : rc_ S (k + 1) = rc_ S k + 1 := by
          show rc_ S k + (if 0 < hp_vi S.1 43 k 12 then 1 else 0) = _
          rw [if_pos (Int32.not_le.mp c31)]
        rw [← er]
        exact ih (k + 1) _ _ (by omega) (by omega) NX (fun t ht => (hT t ht).tr (hp_te.i ht))
set_option maxRecDepth 20000 in
theorem C_X6_rest {G : GW} {h : PH} {Q : RS → PH → Prop} {S : SP} {N : Nat} (R : Rp1 S h) (I : Iv S N) (hq : ∀ h', Rp1 (op_rest S).2 h' → (∀ t, t < 10 ∨ 40 ≤ t → hp_te h h' t) → Q (.inl (some (pv_I (op_rest S).1))) h') : VV G 3 0 0 yX6_rest cX6_rest 4 (some .int) [] 0 (vv_en 4 [pv_O (10, 0)]) [] h Q := by
  show VV G 3 0 0 yX6_rest cX6_rest 4 (some .int) [] 0 [some (pv_O (10, 0)), none, none, none] [] h Q
  refine v_iconstv (v := 0) 1 dX6_rest_0 (by decide) rfl ?_
  refine v_istore_n 2 dX6_rest_1 (by decide) rfl rfl ?_
  dsimp only [List.set]
  refine v_iconstv (v := 0) 3 dX6_rest_2 (by decide) rfl ?_
  refine v_istore_n 4 dX6_rest_3 (by decide) rfl rfl ?_
  dsimp only [List.set]
  exact L_X6_rest I.cs.2.2.1 (fun h' q1 q2 => hq h' q1 (fun t ht => q2 t (by omega))) (nn_ S 2 + 1) 0 _ h (Nat.zero_le _) (by omega) R (fun _ _ => hp_te.rf)
