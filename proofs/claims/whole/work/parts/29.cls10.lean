def op_slit (S : SP) (x : Int32) : Nat × Int32 × SP := if ok_i x (nn_ S 2) then (if hp_vi S.1 43 (cl_ x) 8 = 0 then (2, 0, S) else (0, hp_vi S.1 43 (cl_ x) 8 - 1, (hp_seti S.1 43 (cl_ x) 8 (hp_vi S.1 43 (cl_ x) 8 - 1), S.2))) else (1, 0, S)
def op_air (S : SP) (x : Int32) : Nat × Int32 × SP := if 4 ≤ x ∧ x ≤ 20 then (0, hp_vi S.1 40 0 11, (hp_seti S.1 40 0 11 x, S.2)) else (1, 0, S)
def op_scrape (S : SP) (x a : Int32) : Nat × Int32 × SP := if ok_i x (nn_ S 2) then (if 1 ≤ a ∧ a ≤ 99 then (if hp_vi S.1 43 (cl_ x) 6 = 0 then (3, 0, S) else if ¬ (s_fa S (cl_ x)).1 = 0 ∧ s_lf S (cl_ x) ≤ 10 then (3, 0, S) else (0, mx 0 (s_lf S (cl_ x) - a), (hp_seti S.1 43 (cl_ x) 9 (hp_vi S.1 43 (cl_ x) 9 + a), S.2))) else (2, 0, S)) else (1, 0, S)
def s_sh (S : SP) (p : Nat) (a : Int32) : Int32 := mn a (mx 0 (3 - hp_vi S.1 43 p 12))
def op_pad (S : SP) (x a : Int32) : Nat × Int32 × SP := if ok_i x (nn_ S 2) then (if 1 ≤ a ∧ a ≤ 9 then (if hp_vi S.1 43 (cl_ x) 6 = 0 then (3, 0, S) else (0, mn 99 (hp_vi S.1 43 (cl_ x) 10 + 2 * s_sh S (cl_ x) a), (hp_seti (hp_seti (hp_seti S.1 43 (cl_ x) 10 (mn 99 (hp_vi S.1 43 (cl_ x) 10 + 2 * s_sh S (cl_ x) a))) 43 (cl_ x) 11 (hp_vi S.1 43 (cl_ x) 11 + (a - s_sh S (cl_ x) a))) 43 (cl_ x) 12 (hp_vi S.1 43 (cl_ x) 12 + a), S.2))) else (2, 0, S)) else (1, 0, S)
/-- blisters of a press -/
def s_bl (S : SP) (p : Nat) (w mi wa : Int32) : Int32 :=
  let b1 : Int32 := if wa ≤ 4 + w / 3 then 0 else 0 + 2 * hp_vi S.1 46 p 2
  if 20 + nI (nn_ S (10 + p)) / 4 - w / 3 ≤ mi then b1 else b1 + hp_vi S.1 46 p 2
def op_press (S : SP) (x w mi wa : Int32) : Nat × Int32 × SP := if ok_i x (nn_ S 2) then (if (0 ≤ w ∧ w ≤ 60) ∧ (1 ≤ mi ∧ mi ≤ 99) ∧ (0 ≤ wa ∧ wa ≤ 60) then (if (s_fa S (cl_ x)).1 = 0 then (3, 0, S) else if hp_vi S.1 43 (cl_ x) 6 = 0 then (0, s_bl S (cl_ x) w mi wa, (hp_seti (hp_seti (hp_seti S.1 43 (cl_ x) 6 1) 43 (cl_ x) 7 (hp_vi S.1 40 0 11)) 43 (cl_ x) 8 (s_bl S (cl_ x) w mi wa), S.2)) else (3, 0, S)) else (2, 0, S)) else (1, 0, S)
theorem s_lf_te {S S' : SP} {p : Nat} (f : hp_vi S'.1 43 p 9 = hp_vi S.1 43 p 9) (f2 : hp_vr S'.1 43 p 3 = hp_vr S.1 43 p 3) (f0 : hp_te S.1 S'.1 42) (f1 : hp_te S.1 S'.1 46) : s_lf S' p = s_lf S p := by
  unfold s_lf
  rw [show s_fa S' p = s_fa S p from f2, f1.2.2.2.1, f0.2.2.1, f]
/-- a panel changed, in the class and in the state -/
theorem Rp1.pn {S S' : SP} {h h' : PH} {p : Nat} (R : Rp1 S h) (e : ∀ t, ¬ t = 13 → hp_te h h' t) (f : ∀ t, ¬ t = 43 → hp_te S.1 S'.1 t) (c : S'.2 = S.2) (ea : hp_al h' 13 = hp_al h 13) (e3 : ∀ j, ¬ j = p → ∀ k, hp_vi h' 13 j k = hp_vi h 13 j k ∧ hp_vr h' 13 j k = hp_vr h 13 j k) (f3 : ∀ j, ¬ j = p → ∀ k, hp_vi S'.1 43 j k = hp_vi S.1 43 j k ∧ hp_vr S'.1 43 j k = hp_vr S.1 43 j k) (F : pn_1 S' h' p) : Rp1 S' h' := by
  obtain ⟨R0, RL, R1, R2, R3, R4, R5⟩ := R
  exact ⟨R0.te (e _ (by decide)) (f 40 (by decide)).2.2.1, RL.te (fun t ht => e t (by omega)) c, R1.te (e _ (by decide)) (f _ (by decide)) (by rw [c]), R2.te (e _ (by decide)) (e _ (by decide)) (e _ (by decide)) (e _ (by decide)) (f _ (by decide)) (f _ (by decide)) (f _ (by decide)) (by rw [c]), R3.up e3 ea (e _ (by decide)) (e _ (by decide)) f3 (f _ (by decide)) (f _ (by decide)) (f _ (by decide)) (by rw [c]) F, R4.te (e _ (by decide)) (e _ (by decide)) (e _ (by decide)) (e _ (by decide)) (e _ (by decide)) (e _ (by decide)) (f _ (by decide)) (f _ (by decide)) (f _ (by decide)) (f _ (by decide)) (by rw [c]) (fun _ _ => by rw [c]; exact ⟨rfl, rfl⟩), R5.te (e _ (by decide)) (f _ (by decide)) c⟩
theorem nI_z {w : Nat} {x : Int32} (e : x = nI w) (hw : w < 2 ^ 31) (h : ¬ 0 < x) : x = 0 := by
  rcases Nat.eq_zero_or_pos w with q | q
  · rw [e, q]; rfl
  · exact absurd (e ▸ nI_lt (a := 0) q hw) h
theorem mx_sub {a b : Nat} (ha : a < 2 ^ 30) (hb : b < 2 ^ 30) : mx 0 (nI a - nI b) = nI (a - b) := by
  rcases Nat.lt_or_ge b a with q | q
  · rw [pk_sub (by omega)]
    exact if_pos (nI_lt (a := 0) (by omega) (by omega))
  · rw [show a - b = 0 from by omega]
    refine if_neg (fun w => ?_)
    rw [Int32.lt_iff_toInt_lt, pk_sub_toInt ha hb] at w
    have : (0 : Int32).toInt = 0 := rfl
    omega
theorem a_nat {x : Int32} {lo hi : Nat} (h : nI lo ≤ x ∧ x ≤ nI hi) (hh : hi < 2 ^ 31) (hl : lo < 2 ^ 31) : ∃ j : Nat, lo ≤ j ∧ j ≤ hi ∧ x = nI j := by
  have h1 := Int32.le_iff_toInt_le.mp h.1
  have h2 := Int32.le_iff_toInt_le.mp h.2
  rw [nI_toInt hl] at h1
  rw [nI_toInt hh] at h2
  obtain ⟨j, hj, e⟩ := nI_of (x := x) (fun q => by
    have := Int32.lt_iff_toInt_lt.mp q
    have h0 : (0 : Int32).toInt = 0 := rfl
    omega)
  rw [e, nI_toInt hj] at h1 h2
  exact ⟨j, by omega, by omega, e⟩
theorem sc_lf {S : SP} {N p w : Nat} {a : Int32} (I : Iv S N) (hp : p < nn_ S 2) (ew : hp_vi S.1 43 p 9 = nI w) (hw : w ≤ 400) (ha : 1 ≤ a ∧ a ≤ 99) : mx 0 (s_lf S p - a) = s_lf (hp_seti S.1 43 p 9 (hp_vi S.1 43 p 9 + a), S.2) p := by
  obtain ⟨j, h1, h2, rfl⟩ := a_nat (lo := 1) (hi := 99) ha (by decide) (by decide)
  unfold s_lf
  by_cases q : (s_fa S p).1 = 0
  · rw [if_pos q, if_pos (show (s_fa (hp_seti S.1 43 p 9 (hp_vi S.1 43 p 9 + nI j), S.2) p).1 = 0 from q)]
    exact (mx_sub (a := 0) (b := j) (by omega) (by omega)).trans (congrArg nI (Nat.zero_sub j))
  · rw [if_neg q, if_neg (show ¬ (s_fa (hp_seti S.1 43 p 9 (hp_vi S.1 43 p 9 + nI j), S.2) p).1 = 0 from q)]
    obtain ⟨t, et, ht1, ht2⟩ := (I.2.2.1 _ (I.fa hp q).2.2.2.1).2.2.1
    show mx 0 (mx 0 (10 * hp_vi S.1 42 (hp_vr S.1 46 p 0).2 2 - hp_vi S.1 43 p 9) - nI j) = mx 0 (10 * hp_vi S.1 42 (hp_vr S.1 46 p 0).2 2 - hp_vi (hp_seti S.1 43 p 9 (hp_vi S.1 43 p 9 + nI j)) 43 p 9)
    rw [hp_seti_at, et, ew, nI_add, show (10 : Int32) * nI t = nI (10 * t) from pk_mul 10 t, mx_sub (by omega) (by omega), mx_sub (by omega) (by omega), mx_sub (by omega) (by omega)]
    exact congrArg nI (by omega)
set_option maxRecDepth 20000 in
theorem C_X6_slit {G : GW} {h : PH} {Q : RS → PH → Prop} {S : SP} {N : Nat} (R : Rp1 S h) (I : Iv S N) {x : Int32} (hq : ∀ h', Rp1 (op_slit S x).2.2 h' → (∀ t, t < 10 ∨ 40 ≤ t → hp_te h h' t) → Q (an_ "java/lang/IndexOutOfBoundsException" "java/util/NoSuchElementException" "" ((op_slit S x).1, (op_slit S x).2.1)) h') : VV G 7 2 12 yX6_slit cX6_slit 3 (some .int) [] 0 (vv_en 3 [pv_O (10, 0), pv_I x]) [] h Q := by
  show VV G 7 2 12 yX6_slit cX6_slit 3 (some .int) [] 0 [some (pv_O (10, 0)), some (pv_I x), none] [] h Q
  obtain ⟨R0, RL, R1, R2, R3, R4, R5⟩ := id R
  obtain ⟨z0, z1, z2, z3, z4, z5⟩ := I.cs
  unfold op_slit at hq
  refine v_aload_n 1 dX6_slit_0 rfl rfl ?_
  refine v_iload_n 2 dX6_slit_1 rfl rfl ?_
  refine v_invv (d' := 6) (k' := 1) (n' := 6) (k2 := 1) (n2 := 6) 5 [_] dX6_slit_2 mt_X6_113 mi_X6_panelOf me_X6_panelOf (by first | assumption | rfl) (by rfl) rfl rfl (of_decide_eq_true rfl) rfl (by decide) rfl rfl rfl rfl (C_X6_panelOf R0 RL (fun e => ?_) (fun ho => ?_))
  · rw [if_neg e] at hq
    exact vv_out (hq h R (fun _ _ => hp_te.rf))
  rw [if_pos ho] at hq
  have hc := ho.cl (by omega)
  have F := R3.1 _ hc.1
  have hfa := fun w => R2.1 _ (I.fa hc.1 w).2.2.2.1
  have hba := fun w => R2.1 _ (I.ba hc.1 w).2.2.2.1
  obtain ⟨j0, j1, j2, j3, j4, j5, j6, j7, j8, j9, j10, j11⟩ := I.2.2.2.1 _ hc.1
  obtain ⟨w, ew, hw⟩ := j8
  refine v_astore_n 6 dX6_slit_5 (by decide) rfl rfl ?_
  dsimp only [List.set]
  refine v_aload_n 7 dX6_slit_6 rfl rfl ?_
  refine v_getfi 10 dX6_slit_7 fl_X6_174 (by first | assumption | rfl) (by rfl) rfl ?_
  rw [F.2.2.1.2.2.2.1]
  refine v_if_gt 21 13 dX6_slit_10 (by decide) rfl (fun c10 => ?_) (fun c10 => ?_)
  · rw [if_neg (fun q => by rw [q] at c10; exact absurd c10 (by decide))] at hq
    refine v_aload_n 22 dX6_slit_21 rfl rfl ?_
    refine v_dup 23 dX6_slit_22 rfl rfl ?_
    refine v_getfi 26 dX6_slit_23 fl_X6_174 (by first | assumption | rfl) (by rfl) rfl ?_
    rw [F.2.2.1.2.2.2.1]
    refine v_iconstv (v := 1) 27 dX6_slit_26 (by decide) rfl ?_
    refine v_isub 28 dX6_slit_27 rfl ?_
    refine v_putfi 31 dX6_slit_28 pf_X6_slit_174 (by first | assumption | rfl) (by first | assumption | decide) (by rfl) rfl rfl rfl ?_
    refine v_aload_n 32 dX6_slit_31 rfl rfl ?_
    refine v_getfi 35 dX6_slit_32 fl_X6_174 (by first | assumption | rfl) (by rfl) rfl ?_
    rw [hp_seti_at]
    refine v_ireturn dX6_slit_35 rfl ?_
    dsimp only at hq
    refine hq _ (R.pn (p := cl_ x) (fun t ht => (by repeat' first | exact hp_te.rf | refine hp_te.tr ?_ (hp_te.i (by first | decide | omega)) | refine hp_te.tr ?_ (hp_te.r (by first | decide | omega)) | refine hp_te.tr ?_ (hp_te.n (by first | decide | omega)))) (fun t ht => (by repeat' first | exact hp_te.rf | refine hp_te.tr ?_ (hp_te.i (by first | decide | omega)) | refine hp_te.tr ?_ (hp_te.r (by first | decide | omega)) | refine hp_te.tr ?_ (hp_te.n (by first | decide | omega)))) rfl rfl (fun j hj k => ⟨?_, rfl⟩) (fun j hj k => ⟨?_, rfl⟩) ?_) (fun t ht => (by repeat' first | exact hp_te.rf | refine hp_te.tr ?_ (hp_te.i (by first | decide | omega)) | refine hp_te.tr ?_ (hp_te.r (by first | decide | omega)) | refine hp_te.tr ?_ (hp_te.n (by first | decide | omega))))
    · simp [vi_i, hj]
    · simp [vi_i, hj]
    · obtain ⟨⟨a1, a2, a3⟩, ⟨b1, b2, b3, b4⟩, ⟨d1, d2, d3, d4, d5, d6, d7, d8⟩, e1, e2, e3, e4⟩ := F
      refine ⟨⟨a1, a2, a3⟩, ⟨?_, ?_, ?_, ?_⟩, ⟨?_, ?_, ?_, ?_, ?_, ?_, ?_, ?_⟩, e1, e2, e3, e4⟩
      · first | exact b1 | (simp only [vi_i]; simp; exact b1)
      · first | exact b2 | (simp only [vi_i]; simp; exact b2)
      · first | exact b3 | (simp only [vi_i]; simp; exact b3)
      · first | exact b4 | (simp only [vi_i]; simp; exact b4)
      · first | exact d1 | (simp only [vi_i]; simp; exact d1)
      · first | exact d2 | (simp only [vi_i]; simp; exact d2)
      · first | exact d3 | (simp only [vi_i]; simp; exact d3)
      · rw [hp_seti_at]; exact hp_seti_at.symm
      · refine Eq.trans (b := s_lf S (cl_ x)) ?_ (Eq.symm ?_)
        · first | exact d5 | (simp only [vi_i]; simp; exact d5)
        · refine s_lf_te ?_ ?_ ?_ ?_
          · simp [vi_i]
          · rfl
          · exact (by repeat' first | exact hp_te.rf | refine hp_te.tr ?_ (hp_te.i (by first | decide | omega)) | refine hp_te.tr ?_ (hp_te.r (by first | decide | omega)) | refine hp_te.tr ?_ (hp_te.n (by first | decide | omega)))
          · exact (by repeat' first | exact hp_te.rf | refine hp_te.tr ?_ (hp_te.i (by first | decide | omega)) | refine hp_te.tr ?_ (hp_te.r (by first | decide | omega)) | refine hp_te.tr ?_ (hp_te.n (by first | decide | omega)))
      · first | exact d6 | (simp only [vi_i]; simp; exact d6)
      · first | exact d7 | (simp only [vi_i]; simp; exact d7)
      · first | exact d8 | (simp only [vi_i]; simp; exact d8)
  · rw [if_pos (nI_z ew (by omega) c10)] at hq
    refine v_throw dX6_slit_13 dX6_slit_16 dX6_slit_17 dX6_slit_20 rfl th_X6_168_170 rfl (by decide) (by decide) (by decide) ?_
    exact hq h R (fun _ _ => hp_te.rf)
set_option maxRecDepth 20000 in
theorem C_X6_scrape {G : GW} {h : PH} {Q : RS → PH → Prop} {S : SP} {N : Nat} (R : Rp1 S h) (I : Iv S N) {x a : Int32} (hq : ∀ h', Rp1 (op_scrape S x a).2.2 h' → (∀ t, t < 10 ∨ 40 ≤ t → hp_te h h' t) → Q (an_ "java/lang/IndexOutOfBoundsException" "java/lang/IllegalArgumentException" "java/lang/UnsupportedOperationException" ((op_scrape S x a).1, (op_scrape S x a).2.1)) h') : VV G 7 2 12 yX6_scrape cX6_scrape 4 (some .int) [] 0 (vv_en 4 [pv_O (10, 0), pv_I x, pv_I a]) [] h Q := by
  show VV G 7 2 12 yX6_scrape cX6_scrape 4 (some .int) [] 0 [some (pv_O (10, 0)), some (pv_I x), some (pv_I a), none] [] h Q
  obtain ⟨R0, RL, R1, R2, R3, R4, R5⟩ := id R
  obtain ⟨z0, z1, z2, z3, z4, z5⟩ := I.cs
  unfold op_scrape at hq
  refine v_aload_n 1 dX6_scrape_0 rfl rfl ?_
  refine v_iload_n 2 dX6_scrape_1 rfl rfl ?_
  refine v_invv (d' := 6) (k' := 1) (n' := 6) (k2 := 1) (n2 := 6) 5 [_] dX6_scrape_2 mt_X6_113 mi_X6_panelOf me_X6_panelOf (by first | assumption | rfl) (by rfl) rfl rfl (of_decide_eq_true rfl) rfl (by decide) rfl rfl rfl rfl (C_X6_panelOf R0 RL (fun e => ?_) (fun ho => ?_))
  · rw [if_neg e] at hq
    exact vv_out (hq h R (fun _ _ => hp_te.rf))
  rw [if_pos ho] at hq
  have hc := ho.cl (by omega)
  have F := R3.1 _ hc.1
  have hfa := fun w => R2.1 _ (I.fa hc.1 w).2.2.2.1
  have hba := fun w => R2.1 _ (I.ba hc.1 w).2.2.2.1
  obtain ⟨j0, j1, j2, j3, j4, j5, j6, j7, j8, j9, j10, j11⟩ := I.2.2.2.1 _ hc.1
  obtain ⟨w, ew, hw⟩ := j9
  refine v_astore_n 6 dX6_scrape_5 (by decide) rfl rfl ?_
  dsimp only [List.set]
  refine v_iload_n 7 dX6_scrape_6 rfl rfl ?_
  refine v_iconstv (v := 1) 8 dX6_scrape_7 (by decide) rfl ?_
  refine v_bipushv (v := 99) 10 dX6_scrape_8 (by decide) rfl ?_
  refine v_invs (d' := 0) (k' := 0) (n' := 0) (k2 := 1) (n2 := 6) 13 [_, _, _] dX6_scrape_10 mt_X6_40 ms_X6_isIn rfl rfl (of_decide_eq_true rfl) rfl (by decide) rfl rfl rfl rfl (C_X6_isIn ?_)
  refine v_if_ne 24 16 dX6_scrape_13 (by decide) rfl (fun c13 => ?_) (fun c13 => ?_)
  · have c13 := Decidable.not_not.mp (fun q => c13 (f1_0.mpr q))
    rw [if_pos c13] at hq
    refine v_aload_n 25 dX6_scrape_24 rfl rfl ?_
    refine v_getfi 28 dX6_scrape_25 fl_X6_162 (by first | assumption | rfl) (by rfl) rfl ?_
    rw [F.2.2.1.2.1]
    refine v_if_eq 38 31 dX6_scrape_28 (by decide) rfl (fun c28 => ?_) (fun c28 => ?_)
    · rw [if_pos c28] at hq
      refine v_throw dX6_scrape_38 dX6_scrape_41 dX6_scrape_42 dX6_scrape_45 rfl th_X6_73_75 rfl (by decide) (by decide) (by decide) ?_
      exact hq h R (fun _ _ => hp_te.rf)
    · rw [if_neg c28] at hq
      refine v_aload_n 32 dX6_scrape_31 rfl rfl ?_
      refine v_invv (d' := 0) (k' := 0) (n' := 0) (k2 := 1) (n2 := 6) 35 [] dX6_scrape_32 mt_X6_199 mi_X4_isWornThrough me_X4_isWornThrough (by first | assumption | rfl) (by rfl) rfl rfl (of_decide_eq_true rfl) rfl (by decide) rfl rfl rfl rfl (C_X4_isWornThrough F ?_)
      refine v_if_eq 46 38 dX6_scrape_35 (by decide) rfl (fun c35 => ?_) (fun c35 => ?_)
      · have c35 := f1_0.mp c35
        rw [if_neg c35] at hq
        refine v_aload_n 47 dX6_scrape_46 rfl rfl ?_
        refine v_iconstv (v := 0) 48 dX6_scrape_47 (by decide) rfl ?_
        refine v_aload_n 49 dX6_scrape_48 rfl rfl ?_
        refine v_getfi 52 dX6_scrape_49 fl_X6_146 (by first | assumption | rfl) (by rfl) rfl ?_
        rw [F.2.2.1.2.2.2.2.1]
        refine v_iload_n 53 dX6_scrape_52 rfl rfl ?_
        refine v_isub 54 dX6_scrape_53 rfl ?_
        refine v_max 57 dX6_scrape_54 ma_X6_203 ma_s_max ma_i rfl (by decide) rfl ?_
        refine v_putfi 60 dX6_scrape_57 pf_X6_scrape_146 (by first | assumption | rfl) (by first | assumption | decide) (by rfl) rfl rfl rfl ?_
        refine v_aload_n 61 dX6_scrape_60 rfl rfl ?_
        refine v_getfi 64 dX6_scrape_61 fl_X6_146 (by first | assumption | rfl) (by rfl) rfl ?_
        rw [hp_seti_at]
        refine v_ireturn dX6_scrape_64 rfl ?_
        dsimp only at hq
        refine hq _ (R.pn (p := cl_ x) (fun t ht => (by repeat' first | exact hp_te.rf | refine hp_te.tr ?_ (hp_te.i (by first | decide | omega)) | refine hp_te.tr ?_ (hp_te.r (by first | decide | omega)) | refine hp_te.tr ?_ (hp_te.n (by first | decide | omega)))) (fun t ht => (by repeat' first | exact hp_te.rf | refine hp_te.tr ?_ (hp_te.i (by first | decide | omega)) | refine hp_te.tr ?_ (hp_te.r (by first | decide | omega)) | refine hp_te.tr ?_ (hp_te.n (by first | decide | omega)))) rfl rfl (fun j hj k => ⟨?_, rfl⟩) (fun j hj k => ⟨?_, rfl⟩) ?_) (fun t ht => (by repeat' first | exact hp_te.rf | refine hp_te.tr ?_ (hp_te.i (by first | decide | omega)) | refine hp_te.tr ?_ (hp_te.r (by first | decide | omega)) | refine hp_te.tr ?_ (hp_te.n (by first | decide | omega))))
        · simp [vi_i, hj]
        · simp [vi_i, hj]
        · obtain ⟨⟨a1, a2, a3⟩, ⟨b1, b2, b3, b4⟩, ⟨d1, d2, d3, d4, d5, d6, d7, d8⟩, e1, e2, e3, e4⟩ := F
          refine ⟨⟨a1, a2, a3⟩, ⟨?_, ?_, ?_, ?_⟩, ⟨?_, ?_, ?_, ?_, ?_, ?_, ?_, ?_⟩, e1, e2, e3, e4⟩
          · first | exact b1 | (simp only [vi_i]; simp; exact b1)
          · first | exact b2 | (simp only [vi_i]; simp; exact b2)
          · first | exact b3 | (simp only [vi_i]; simp; exact b3)
          · first | exact b4 | (simp only [vi_i]; simp; exact b4)
          · first | exact d1 | (simp only [vi_i]; simp; exact d1)
          · first | exact d2 | (simp only [vi_i]; simp; exact d2)
          · first | exact d3 | (simp only [vi_i]; simp; exact d3)
          · first | exact d4 | (simp only [vi_i]; simp; exact d4)
          · rw [hp_seti_at]; exact sc_lf I hc.1 ew hw c13
          · first | exact d6 | (simp only [vi_i]; simp; exact d6)
          · first | exact d7 | (simp only [vi_i]; simp; exact d7)
          · first | exact d8 | (simp only [vi_i]; simp; exact d8)
      · have c35 := Decidable.not_not.mp (fun q => c35 (f1_0.mpr q))
        rw [if_pos c35] at hq
        refine v_throw dX6_scrape_38 dX6_scrape_41 dX6_scrape_42 dX6_scrape_45 rfl th_X6_73_75 rfl (by decide) (by decide) (by decide) ?_
        exact hq h R (fun _ _ => hp_te.rf)
  · have c13 := f1_0.mp c13
    rw [if_neg c13] at hq
    refine v_throw dX6_scrape_16 dX6_scrape_19 dX6_scrape_20 dX6_scrape_23 rfl th_X6_44_46 rfl (by decide) (by decide) (by decide) ?_
    exact hq h R (fun _ _ => hp_te.rf)
set_option maxRecDepth 20000 in
theorem C_X6_pad {G : GW} {h : PH} {Q : RS → PH → Prop} {S : SP} {N : Nat} (R : Rp1 S h) (I : Iv S N) {x a : Int32} (hq : ∀ h', Rp1 (op_pad S x a).2.2 h' → (∀ t, t < 10 ∨ 40 ≤ t → hp_te h h' t) → Q (an_ "java/lang/IndexOutOfBoundsException" "java/lang/IllegalArgumentException" "java/lang/UnsupportedOperationException" ((op_pad S x a).1, (op_pad S x a).2.1)) h') : VV G 7 2 12 yX6_pad cX6_pad 4 (some .int) [] 0 (vv_en 4 [pv_O (10, 0), pv_I x, pv_I a]) [] h Q := by
  show VV G 7 2 12 yX6_pad cX6_pad 4 (some .int) [] 0 [some (pv_O (10, 0)), some (pv_I x), some (pv_I a), none] [] h Q
  obtain ⟨R0, RL, R1, R2, R3, R4, R5⟩ := id R
  obtain ⟨z0, z1, z2, z3, z4, z5⟩ := I.cs
  unfold op_pad at hq
  refine v_aload_n 1 dX6_pad_0 rfl rfl ?_
  refine v_iload_n 2 dX6_pad_1 rfl rfl ?_
  refine v_invv (d' := 6) (k' := 1) (n' := 6) (k2 := 1) (n2 := 6) 5 [_] dX6_pad_2 mt_X6_113 mi_X6_panelOf me_X6_panelOf (by first | assumption | rfl) (by rfl) rfl rfl (of_decide_eq_true rfl) rfl (by decide) rfl rfl rfl rfl (C_X6_panelOf R0 RL (fun e => ?_) (fun ho => ?_))
  · rw [if_neg e] at hq
    exact vv_out (hq h R (fun _ _ => hp_te.rf))
  rw [if_pos ho] at hq
  have hc := ho.cl (by omega)
  have F := R3.1 _ hc.1
  have hfa := fun w => R2.1 _ (I.fa hc.1 w).2.2.2.1
  have hba := fun w => R2.1 _ (I.ba hc.1 w).2.2.2.1
  obtain ⟨j0, j1, j2, j3, j4, j5, j6, j7, j8, j9, j10, j11⟩ := I.2.2.2.1 _ hc.1
  refine v_astore_n 6 dX6_pad_5 (by decide) rfl rfl ?_
  dsimp only [List.set]
  refine v_iload_n 7 dX6_pad_6 rfl rfl ?_
  refine v_iconstv (v := 1) 8 dX6_pad_7 (by decide) rfl ?_
  refine v_bipushv (v := 9) 10 dX6_pad_8 (by decide) rfl ?_
  refine v_invs (d' := 0) (k' := 0) (n' := 0) (k2 := 1) (n2 := 6) 13 [_, _, _] dX6_pad_10 mt_X6_40 ms_X6_isIn rfl rfl (of_decide_eq_true rfl) rfl (by decide) rfl rfl rfl rfl (C_X6_isIn ?_)
  refine v_if_ne 24 16 dX6_pad_13 (by decide) rfl (fun c13 => ?_) (fun c13 => ?_)
  · have c13 := Decidable.not_not.mp (fun q => c13 (f1_0.mpr q))
    rw [if_pos c13] at hq
    refine v_aload_n 25 dX6_pad_24 rfl rfl ?_
    refine v_invs (d' := 6) (k' := 1) (n' := 6) (k2 := 0) (n2 := 0) 28 [_] dX6_pad_25 mt_X6_181 ms_X6_pressedOnly rfl rfl (of_decide_eq_true rfl) rfl (by decide) rfl rfl rfl rfl (C_X6_pressedOnly F (fun e => ?_) (fun hp => ?_))
    · rw [if_pos e] at hq
      exact vv_out (hq h R (fun _ _ => hp_te.rf))
    rw [if_neg hp] at hq
    refine v_iload_n 29 dX6_pad_28 rfl rfl ?_
    refine v_invv (d' := 1) (k' := 0) (n' := 0) (k2 := 0) (n2 := 0) 32 [_] dX6_pad_29 mt_X6_209 mi_X4_polish me_X4_polish (by first | assumption | rfl) (by rfl) rfl rfl (of_decide_eq_true rfl) rfl (by decide) rfl rfl rfl rfl (C_X4_polish ?_)
    have g6 := F.2.2.1.2.2.2.2.2.1
    have g7 := F.2.2.1.2.2.2.2.2.2.1
    have g8 := F.2.2.1.2.2.2.2.2.2.2
    rw [g6, g7]
    refine v_aload_n 33 dX6_pad_32 rfl rfl ?_
    refine v_getfi 36 dX6_pad_33 fl_X6_213 (by first | assumption | rfl) (by rfl) rfl ?_
    rw [hp_seti_ne (by simp), hp_seti_ne (by simp), hp_seti_at]
    refine v_ireturn dX6_pad_36 rfl ?_
    dsimp only at hq
    refine hq _ (R.pn (p := cl_ x) (fun t ht => (by repeat' first | exact hp_te.rf | refine hp_te.tr ?_ (hp_te.i (by first | decide | omega)) | refine hp_te.tr ?_ (hp_te.r (by first | decide | omega)) | refine hp_te.tr ?_ (hp_te.n (by first | decide | omega)))) (fun t ht => (by repeat' first | exact hp_te.rf | refine hp_te.tr ?_ (hp_te.i (by first | decide | omega)) | refine hp_te.tr ?_ (hp_te.r (by first | decide | omega)) | refine hp_te.tr ?_ (hp_te.n (by first | decide | omega)))) rfl rfl (fun j hj k => ⟨?_, rfl⟩) (fun j hj k => ⟨?_, rfl⟩) ?_) (fun t ht => (by repeat' first | exact hp_te.rf | refine hp_te.tr ?_ (hp_te.i (by first | decide | omega)) | refine hp_te.tr ?_ (hp_te.r (by first | decide | omega)) | refine hp_te.tr ?_ (hp_te.n (by first | decide | omega))))
    · simp [vi_i, hj]
    · simp [vi_i, hj]
    · obtain ⟨⟨a1, a2, a3⟩, ⟨b1, b2, b3, b4⟩, ⟨d1, d2, d3, d4, d5, d6, d7, d8⟩, e1, e2, e3, e4⟩ := F
      refine ⟨⟨a1, a2, a3⟩, ⟨?_, ?_, ?_, ?_⟩, ⟨?_, ?_, ?_, ?_, ?_, ?_, ?_, ?_⟩, e1, e2, e3, e4⟩
      · first | exact b1 | (simp only [vi_i]; simp; exact b1)
      · first | exact b2 | (simp only [vi_i]; simp; exact b2)
      · first | exact b3 | (simp only [vi_i]; simp; exact b3)
      · first | exact b4 | (simp only [vi_i]; simp; exact b4)
      · first | exact d1 | (simp only [vi_i]; simp; exact d1)
      · first | exact d2 | (simp only [vi_i]; simp; exact d2)
      · first | exact d3 | (simp only [vi_i]; simp; exact d3)
      · first | exact d4 | (simp only [vi_i]; simp; exact d4)
      · refine Eq.trans (b := s_lf S (cl_ x)) ?_ (Eq.symm ?_)
        · first | exact d5 | (simp only [vi_i]; simp; exact d5)
        · refine s_lf_te ?_ ?_ ?_ ?_
          · simp [vi_i]
          · rfl
          · exact (by repeat' first | exact hp_te.rf | refine hp_te.tr ?_ (hp_te.i (by first | decide | omega)) | refine hp_te.tr ?_ (hp_te.r (by first | decide | omega)) | refine hp_te.tr ?_ (hp_te.n (by first | decide | omega)))
          · exact (by repeat' first | exact hp_te.rf | refine hp_te.tr ?_ (hp_te.i (by first | decide | omega)) | refine hp_te.tr ?_ (hp_te.r (by first | decide | omega)) | refine hp_te.tr ?_ (hp_te.n (by first | decide | omega)))
      · simp [vi_i, s_sh]
      · simp [vi_i, s_sh, g7]
      · simp [vi_i, s_sh, g8]
  · have c13 := f1_0.mp c13
    rw [if_neg c13] at hq
    refine v_throw dX6_pad_16 dX6_pad_19 dX6_pad_20 dX6_pad_23 rfl th_X6_44_46 rfl (by decide) (by decide) (by decide) ?_
    exact hq h R (fun _ _ => hp_te.rf)
set_option maxRecDepth 20000 in
theorem C_X6_press {G : GW} {h : PH} {Q : RS → PH → Prop} {S : SP} {N : Nat} (R : Rp1 S h) (I : Iv S N) {x w mi wa : Int32} (hq : ∀ h', Rp1 (op_press S x w mi wa).2.2 h' → (∀ t, t < 10 ∨ 40 ≤ t → hp_te h h' t) → Q (an_ "java/lang/IndexOutOfBoundsException" "java/lang/IllegalArgumentException" "java/lang/UnsupportedOperationException" ((op_press S x w mi wa).1, (op_press S x w mi wa).2.1)) h') : VV G 7 2 12 yX6_press cX6_press 7 (some .int) [] 0 (vv_en 7 [pv_O (10, 0), pv_I x, pv_I w, pv_I mi, pv_I wa]) [] h Q := by
  show VV G 7 2 12 yX6_press cX6_press 7 (some .int) [] 0 [some (pv_O (10, 0)), some (pv_I x), some (pv_I w), some (pv_I mi), some (pv_I wa), none, none] [] h Q
  obtain ⟨R0, RL, R1, R2, R3, R4, R5⟩ := id R
  obtain ⟨z0, z1, z2, z3, z4, z5⟩ := I.cs
  unfold op_press at hq
  refine v_aload_n 1 dX6_press_0 rfl rfl ?_
  refine v_iload_n 2 dX6_press_1 rfl rfl ?_
  refine v_invv (d' := 6) (k' := 1) (n' := 6) (k2 := 1) (n2 := 6) 5 [_] dX6_press_2 mt_X6_113 mi_X6_panelOf me_X6_panelOf (by first | assumption | rfl) (by rfl) rfl rfl (of_decide_eq_true rfl) rfl (by decide) rfl rfl rfl rfl (C_X6_panelOf R0 RL (fun e => ?_) (fun ho => ?_))
  · rw [if_neg e] at hq
    exact vv_out (hq h R (fun _ _ => hp_te.rf))
  rw [if_pos ho] at hq
  have hc := ho.cl (by omega)
  have F := R3.1 _ hc.1
  have hfa := fun w => R2.1 _ (I.fa hc.1 w).2.2.2.1
  have hba := fun w => R2.1 _ (I.ba hc.1 w).2.2.2.1
  obtain ⟨j0, j1, j2, j3, j4, j5, j6, j7, j8, j9, j10, j11⟩ := I.2.2.2.1 _ hc.1
  refine v_astore 7 dX6_press_5 (by decide) rfl rfl ?_
  dsimp only [List.set]
  refine v_iload_n 8 dX6_press_7 rfl rfl ?_
  refine v_iconstv (v := 0) 9 dX6_press_8 (by decide) rfl ?_
  refine v_bipushv (v := 60) 11 dX6_press_9 (by decide) rfl ?_
  refine v_invs (d' := 0) (k' := 0) (n' := 0) (k2 := 1) (n2 := 6) 14 [_, _, _] dX6_press_11 mt_X6_40 ms_X6_isIn rfl rfl (of_decide_eq_true rfl) rfl (by decide) rfl rfl rfl rfl (C_X6_isIn ?_)
  refine v_if_eq 38 17 dX6_press_14 (by decide) rfl (fun c14 => ?_) (fun c14 => ?_)
  · have c14 := f1_0.mp c14
    rw [if_neg (fun q => by first | exact c14 q.1 | exact c24 q.2.1 | exact c35 q.2.2)] at hq
    refine v_throw dX6_press_38 dX6_press_41 dX6_press_42 dX6_press_45 rfl th_X6_44_46 rfl (by decide) (by decide) (by decide) ?_
    exact hq h R (fun _ _ => hp_te.rf)
  · have c14 := Decidable.not_not.mp (fun q => c14 (f1_0.mpr q))
    refine v_iload_n 18 dX6_press_17 rfl rfl ?_
    refine v_iconstv (v := 1) 19 dX6_press_18 (by decide) rfl ?_
    refine v_bipushv (v := 99) 21 dX6_press_19 (by decide) rfl ?_
    refine v_invs (d' := 0) (k' := 0) (n' := 0) (k2 := 1) (n2 := 6) 24 [_, _, _] dX6_press_21 mt_X6_40 ms_X6_isIn rfl rfl (of_decide_eq_true rfl) rfl (by decide) rfl rfl rfl rfl (C_X6_isIn ?_)
    refine v_if_eq 38 27 dX6_press_24 (by decide) rfl (fun c24 => ?_) (fun c24 => ?_)
    · have c24 := f1_0.mp c24
      rw [if_neg (fun q => by first | exact c14 q.1 | exact c24 q.2.1 | exact c35 q.2.2)] at hq
      refine v_throw dX6_press_38 dX6_press_41 dX6_press_42 dX6_press_45 rfl th_X6_44_46 rfl (by decide) (by decide) (by decide) ?_
      exact hq h R (fun _ _ => hp_te.rf)
    · have c24 := Decidable.not_not.mp (fun q => c24 (f1_0.mpr q))
      refine v_iload 29 dX6_press_27 rfl rfl ?_
      refine v_iconstv (v := 0) 30 dX6_press_29 (by decide) rfl ?_
      refine v_bipushv (v := 60) 32 dX6_press_30 (by decide) rfl ?_
      refine v_invs (d' := 0) (k' := 0) (n' := 0) (k2 := 1) (n2 := 6) 35 [_, _, _] dX6_press_32 mt_X6_40 ms_X6_isIn rfl rfl (of_decide_eq_true rfl) rfl (by decide) rfl rfl rfl rfl (C_X6_isIn ?_)
      refine v_if_ne 46 38 dX6_press_35 (by decide) rfl (fun c35 => ?_) (fun c35 => ?_)
      · have c35 := Decidable.not_not.mp (fun q => c35 (f1_0.mpr q))
        rw [if_pos ⟨c14, c24, c35⟩] at hq
        refine v_aload 48 dX6_press_46 rfl rfl ?_
        refine v_getfr 51 dX6_press_48 fl_X6_123 (by first | assumption | rfl) (by rfl) rfl ?_
        refine v_astore 53 dX6_press_51 (by decide) rfl rfl ?_
        dsimp only [List.set]
        refine v_aload 55 dX6_press_53 rfl rfl ?_
        refine v_ifnull 66 58 dX6_press_55 (by decide) rfl (fun c55 => ?_) (fun c55 => ?_)
        · have w9 := ((rr_0 (by decide) F.1.2.1).1 c55).1
          rw [if_pos w9] at hq
          refine v_throw dX6_press_66 dX6_press_69 dX6_press_70 dX6_press_73 rfl th_X6_73_75 rfl (by decide) (by decide) (by decide) ?_
          exact hq h R (fun _ _ => hp_te.rf)
        · obtain ⟨w9, v9⟩ := (rr_0 (by decide) F.1.2.1).2 c55
          rw [if_neg w9] at hq
          have E := (F.2.2.2.2.1 w9).2.2.2
          have d2 := F.2.2.1.2.1
          have d4 := F.2.2.1.2.2.2.1
          have b3 := F.2.1.2.2.1
          rw [v9]
          refine v_aload 60 dX6_press_58 rfl rfl ?_
          refine v_getfi 63 dX6_press_60 fl_X6_162 (by first | assumption | rfl) (by rfl) rfl ?_
          rw [d2]
          refine v_if_eq 74 66 dX6_press_63 (by decide) rfl (fun c63 => ?_) (fun c63 => ?_)
          · rw [if_pos c63] at hq
            have b0 : hp_vi S.1 43 (cl_ x) 8 = 0 := by
              rcases j7 with q | q
              · exact q.2
              · rw [q.1] at c63; exact absurd c63 (by decide)
            refine v_aload 76 dX6_press_74 rfl rfl ?_
            refine v_iconstv (v := 1) 77 dX6_press_76 (by decide) rfl ?_
            refine v_putfi 80 dX6_press_77 pf_X6_press_162 (by first | assumption | rfl) (by first | assumption | decide) (by rfl) (by first | rfl | decide | assumption) (by first | rfl | decide | assumption) rfl ?_
            refine v_aload 82 dX6_press_80 rfl rfl ?_
            refine v_aload_n 83 dX6_press_82 rfl rfl ?_
            refine v_getfi 86 dX6_press_83 fl_X6_28 (by first | assumption | rfl) (by rfl) rfl ?_
            rw [show hp_vi (hp_seti h 13 (cl_ x) 7 1) 10 0 5 = hp_vi S.1 40 0 11 from R0.2.1]
            refine v_putfi 89 dX6_press_86 pf_X6_press_171 (by first | assumption | rfl) (by first | assumption | decide) (by rfl) rfl rfl rfl ?_
            refine v_iload 91 dX6_press_89 rfl rfl ?_
            refine v_iconstv (v := 4) 92 dX6_press_91 (by decide) rfl ?_
            refine v_iload_n 93 dX6_press_92 rfl rfl ?_
            refine v_iconstv (v := 3) 94 dX6_press_93 (by decide) rfl ?_
            refine v_idiv 95 dX6_press_94 (by decide) rfl ?_
            refine v_iadd 96 dX6_press_95 rfl ?_
            refine v_icmp_le 116 99 dX6_press_96 (by decide) rfl (fun c96 => ?_) (fun c96 => ?_)
            · refine v_iload_n 117 dX6_press_116 rfl rfl ?_
              refine v_bipushv (v := 20) 119 dX6_press_117 (by decide) rfl ?_
              refine v_aload 121 dX6_press_119 rfl rfl ?_
              refine v_getfi 124 dX6_press_121 fl_X6_180 (by first | assumption | rfl) (by rfl) rfl ?_
              repeat rw [hp_seti_ne (by simp)]
              rw [b3]
              refine v_iconstv (v := 4) 125 dX6_press_124 (by decide) rfl ?_
              refine v_idiv 126 dX6_press_125 (by decide) rfl ?_
              refine v_iadd 127 dX6_press_126 rfl ?_
              refine v_iload_n 128 dX6_press_127 rfl rfl ?_
              refine v_iconstv (v := 3) 129 dX6_press_128 (by decide) rfl ?_
              refine v_idiv 130 dX6_press_129 (by decide) rfl ?_
              refine v_isub 131 dX6_press_130 rfl ?_
              refine v_icmp_ge 149 134 dX6_press_131 (by decide) rfl (fun c131 => ?_) (fun c131 => ?_)
              · have eb : s_bl S (cl_ x) w mi wa = 0 := by
                  unfold s_bl
                  rw [if_pos c96, if_pos c131]
                rw [eb] at hq
                refine v_aload 151 dX6_press_149 rfl rfl ?_
                refine v_getfi 154 dX6_press_151 fl_X6_174 (by first | assumption | rfl) (by rfl) rfl ?_
                first | rw [hp_seti_at] | rw [hp_seti_ne (by simp), hp_seti_ne (by simp), d4, b0]
                refine v_ireturn dX6_press_154 rfl ?_
                dsimp only at hq
                refine hq _ (R.pn (p := cl_ x) (fun t ht => (by repeat' first | exact hp_te.rf | refine hp_te.tr ?_ (hp_te.i (by first | decide | omega)) | refine hp_te.tr ?_ (hp_te.r (by first | decide | omega)) | refine hp_te.tr ?_ (hp_te.n (by first | decide | omega)))) (fun t ht => (by repeat' first | exact hp_te.rf | refine hp_te.tr ?_ (hp_te.i (by first | decide | omega)) | refine hp_te.tr ?_ (hp_te.r (by first | decide | omega)) | refine hp_te.tr ?_ (hp_te.n (by first | decide | omega)))) rfl rfl (fun j hj k => ⟨?_, rfl⟩) (fun j hj k => ⟨?_, rfl⟩) ?_) (fun t ht => (by repeat' first | exact hp_te.rf | refine hp_te.tr ?_ (hp_te.i (by first | decide | omega)) | refine hp_te.tr ?_ (hp_te.r (by first | decide | omega)) | refine hp_te.tr ?_ (hp_te.n (by first | decide | omega))))
                · simp [vi_i, hj]
                · simp [vi_i, hj]
                · obtain ⟨⟨a1, a2, a3⟩, ⟨b1, b2, b3, b4⟩, ⟨d1, d2, d3, d4, d5, d6, d7, d8⟩, e1, e2, e3, e4⟩ := F
                  refine ⟨⟨a1, a2, a3⟩, ⟨?_, ?_, ?_, ?_⟩, ⟨?_, ?_, ?_, ?_, ?_, ?_, ?_, ?_⟩, e1, e2, e3, e4⟩
                  · first | exact b1 | (simp only [vi_i]; simp; exact b1)
                  · first | exact b2 | (simp only [vi_i]; simp; exact b2)
                  · first | exact b3 | (simp only [vi_i]; simp; exact b3)
                  · first | exact b4 | (simp only [vi_i]; simp; exact b4)
                  · first | exact d1 | (simp only [vi_i]; simp; exact d1)
                  · simp [vi_i]
                  · simp [vi_i]
                  · first | exact hp_seti_at.trans hp_seti_at.symm | (rw [hp_seti_at, hp_seti_ne (by simp), hp_seti_ne (by simp), d4, b0])
                  · refine Eq.trans (b := s_lf S (cl_ x)) ?_ (Eq.symm ?_)
                    · first | exact d5 | (simp only [vi_i]; simp; exact d5)
                    · refine s_lf_te ?_ ?_ ?_ ?_
                      · simp [vi_i]
                      · rfl
                      · exact (by repeat' first | exact hp_te.rf | refine hp_te.tr ?_ (hp_te.i (by first | decide | omega)) | refine hp_te.tr ?_ (hp_te.r (by first | decide | omega)) | refine hp_te.tr ?_ (hp_te.n (by first | decide | omega)))
                      · exact (by repeat' first | exact hp_te.rf | refine hp_te.tr ?_ (hp_te.i (by first | decide | omega)) | refine hp_te.tr ?_ (hp_te.r (by first | decide | omega)) | refine hp_te.tr ?_ (hp_te.n (by first | decide | omega)))
                  · first | exact d6 | (simp only [vi_i]; simp; exact d6)
                  · first | exact d7 | (simp only [vi_i]; simp; exact d7)
                  · first | exact d8 | (simp only [vi_i]; simp; exact d8)
              · have eb : s_bl S (cl_ x) w mi wa = 0 + hp_vi S.1 46 (cl_ x) 2 := by
                  unfold s_bl
                  rw [if_pos c96, if_neg c131]
                rw [eb] at hq
                refine v_aload 136 dX6_press_134 rfl rfl ?_
                refine v_dup 137 dX6_press_136 rfl rfl ?_
                refine v_getfi 140 dX6_press_137 fl_X6_174 (by first | assumption | rfl) (by rfl) rfl ?_
                first | rw [hp_seti_at] | rw [hp_seti_ne (by simp), hp_seti_ne (by simp), d4, b0]
                refine v_aload 142 dX6_press_140 rfl rfl ?_
                refine v_getfi 145 dX6_press_142 fl_X6_177 (by first | assumption | rfl) (by rfl) rfl ?_
                repeat rw [hp_seti_ne (by simp)]
                rw [E]
                refine v_iadd 146 dX6_press_145 rfl ?_
                refine v_putfi 149 dX6_press_146 pf_X6_press_174 (by first | assumption | rfl) (by first | assumption | decide) (by rfl) rfl rfl rfl ?_
                refine v_aload 151 dX6_press_149 rfl rfl ?_
                refine v_getfi 154 dX6_press_151 fl_X6_174 (by first | assumption | rfl) (by rfl) rfl ?_
                first | rw [hp_seti_at] | rw [hp_seti_ne (by simp), hp_seti_ne (by simp), d4, b0]
                refine v_ireturn dX6_press_154 rfl ?_
                dsimp only at hq
                refine hq _ (R.pn (p := cl_ x) (fun t ht => (by repeat' first | exact hp_te.rf | refine hp_te.tr ?_ (hp_te.i (by first | decide | omega)) | refine hp_te.tr ?_ (hp_te.r (by first | decide | omega)) | refine hp_te.tr ?_ (hp_te.n (by first | decide | omega)))) (fun t ht => (by repeat' first | exact hp_te.rf | refine hp_te.tr ?_ (hp_te.i (by first | decide | omega)) | refine hp_te.tr ?_ (hp_te.r (by first | decide | omega)) | refine hp_te.tr ?_ (hp_te.n (by first | decide | omega)))) rfl rfl (fun j hj k => ⟨?_, rfl⟩) (fun j hj k => ⟨?_, rfl⟩) ?_) (fun t ht => (by repeat' first | exact hp_te.rf | refine hp_te.tr ?_ (hp_te.i (by first | decide | omega)) | refine hp_te.tr ?_ (hp_te.r (by first | decide | omega)) | refine hp_te.tr ?_ (hp_te.n (by first | decide | omega))))
                · simp [vi_i, hj]
                · simp [vi_i, hj]
                · obtain ⟨⟨a1, a2, a3⟩, ⟨b1, b2, b3, b4⟩, ⟨d1, d2, d3, d4, d5, d6, d7, d8⟩, e1, e2, e3, e4⟩ := F
                  refine ⟨⟨a1, a2, a3⟩, ⟨?_, ?_, ?_, ?_⟩, ⟨?_, ?_, ?_, ?_, ?_, ?_, ?_, ?_⟩, e1, e2, e3, e4⟩
                  · first | exact b1 | (simp only [vi_i]; simp; exact b1)
                  · first | exact b2 | (simp only [vi_i]; simp; exact b2)
                  · first | exact b3 | (simp only [vi_i]; simp; exact b3)
                  · first | exact b4 | (simp only [vi_i]; simp; exact b4)
                  · first | exact d1 | (simp only [vi_i]; simp; exact d1)
                  · simp [vi_i]
                  · simp [vi_i]
                  · first | exact hp_seti_at.trans hp_seti_at.symm | (rw [hp_seti_at, hp_seti_ne (by simp), hp_seti_ne (by simp), d4, b0])
                  · refine Eq.trans (b := s_lf S (cl_ x)) ?_ (Eq.symm ?_)
                    · first | exact d5 | (simp only [vi_i]; simp; exact d5)
                    · refine s_lf_te ?_ ?_ ?_ ?_
                      · simp [vi_i]
                      · rfl
                      · exact (by repeat' first | exact hp_te.rf | refine hp_te.tr ?_ (hp_te.i (by first | decide | omega)) | refine hp_te.tr ?_ (hp_te.r (by first | decide | omega)) | refine hp_te.tr ?_ (hp_te.n (by first | decide | omega)))
                      · exact (by repeat' first | exact hp_te.rf | refine hp_te.tr ?_ (hp_te.i (by first | decide | omega)) | refine hp_te.tr ?_ (hp_te.r (by first | decide | omega)) | refine hp_te.tr ?_ (hp_te.n (by first | decide | omega)))
                  · first | exact d6 | (simp only [vi_i]; simp; exact d6)
                  · first | exact d7 | (simp only [vi_i]; simp; exact d7)
                  · first | exact d8 | (simp only [vi_i]; simp; exact d8)
            · refine v_aload 101 dX6_press_99 rfl rfl ?_
              refine v_dup 102 dX6_press_101 rfl rfl ?_
              refine v_getfi 105 dX6_press_102 fl_X6_174 (by first | assumption | rfl) (by rfl) rfl ?_
              rw [hp_seti_ne (by simp), hp_seti_ne (by simp), d4, b0]
              refine v_iconstv (v := 2) 106 dX6_press_105 (by decide) rfl ?_
              refine v_aload 108 dX6_press_106 rfl rfl ?_
              refine v_getfi 111 dX6_press_108 fl_X6_177 (by first | assumption | rfl) (by rfl) rfl ?_
              rw [hp_seti_ne (by simp), hp_seti_ne (by simp), E]
              refine v_imul 112 dX6_press_111 rfl ?_
              refine v_iadd 113 dX6_press_112 rfl ?_
              refine v_putfi 116 dX6_press_113 pf_X6_press_174 (by first | assumption | rfl) (by first | assumption | decide) (by rfl) rfl rfl rfl ?_
              refine v_iload_n 117 dX6_press_116 rfl rfl ?_
              refine v_bipushv (v := 20) 119 dX6_press_117 (by decide) rfl ?_
              refine v_aload 121 dX6_press_119 rfl rfl ?_
              refine v_getfi 124 dX6_press_121 fl_X6_180 (by first | assumption | rfl) (by rfl) rfl ?_
              repeat rw [hp_seti_ne (by simp)]
              rw [b3]
              refine v_iconstv (v := 4) 125 dX6_press_124 (by decide) rfl ?_
              refine v_idiv 126 dX6_press_125 (by decide) rfl ?_
              refine v_iadd 127 dX6_press_126 rfl ?_
              refine v_iload_n 128 dX6_press_127 rfl rfl ?_
              refine v_iconstv (v := 3) 129 dX6_press_128 (by decide) rfl ?_
              refine v_idiv 130 dX6_press_129 (by decide) rfl ?_
              refine v_isub 131 dX6_press_130 rfl ?_
              refine v_icmp_ge 149 134 dX6_press_131 (by decide) rfl (fun c131 => ?_) (fun c131 => ?_)
              · have eb : s_bl S (cl_ x) w mi wa = 0 + 2 * hp_vi S.1 46 (cl_ x) 2 := by
                  unfold s_bl
                  rw [if_neg c96, if_pos c131]
                rw [eb] at hq
                refine v_aload 151 dX6_press_149 rfl rfl ?_
                refine v_getfi 154 dX6_press_151 fl_X6_174 (by first | assumption | rfl) (by rfl) rfl ?_
                first | rw [hp_seti_at] | rw [hp_seti_ne (by simp), hp_seti_ne (by simp), d4, b0]
                refine v_ireturn dX6_press_154 rfl ?_
                dsimp only at hq
                refine hq _ (R.pn (p := cl_ x) (fun t ht => (by repeat' first | exact hp_te.rf | refine hp_te.tr ?_ (hp_te.i (by first | decide | omega)) | refine hp_te.tr ?_ (hp_te.r (by first | decide | omega)) | refine hp_te.tr ?_ (hp_te.n (by first | decide | omega)))) (fun t ht => (by repeat' first | exact hp_te.rf | refine hp_te.tr ?_ (hp_te.i (by first | decide | omega)) | refine hp_te.tr ?_ (hp_te.r (by first | decide | omega)) | refine hp_te.tr ?_ (hp_te.n (by first | decide | omega)))) rfl rfl (fun j hj k => ⟨?_, rfl⟩) (fun j hj k => ⟨?_, rfl⟩) ?_) (fun t ht => (by repeat' first | exact hp_te.rf | refine hp_te.tr ?_ (hp_te.i (by first | decide | omega)) | refine hp_te.tr ?_ (hp_te.r (by first | decide | omega)) | refine hp_te.tr ?_ (hp_te.n (by first | decide | omega))))
                · simp [vi_i, hj]
                · simp [vi_i, hj]
                · obtain ⟨⟨a1, a2, a3⟩, ⟨b1, b2, b3, b4⟩, ⟨d1, d2, d3, d4, d5, d6, d7, d8⟩, e1, e2, e3, e4⟩ := F
                  refine ⟨⟨a1, a2, a3⟩, ⟨?_, ?_, ?_, ?_⟩, ⟨?_, ?_, ?_, ?_, ?_, ?_, ?_, ?_⟩, e1, e2, e3, e4⟩
                  · first | exact b1 | (simp only [vi_i]; simp; exact b1)
                  · first | exact b2 | (simp only [vi_i]; simp; exact b2)
                  · first | exact b3 | (simp only [vi_i]; simp; exact b3)
                  · first | exact b4 | (simp only [vi_i]; simp; exact b4)
                  · first | exact d1 | (simp only [vi_i]; simp; exact d1)
                  · simp [vi_i]
                  · simp [vi_i]
                  · first | exact hp_seti_at.trans hp_seti_at.symm | (rw [hp_seti_at, hp_seti_ne (by simp), hp_seti_ne (by simp), d4, b0])
                  · refine Eq.trans (b := s_lf S (cl_ x)) ?_ (Eq.symm ?_)
                    · first | exact d5 | (simp only [vi_i]; simp; exact d5)
                    · refine s_lf_te ?_ ?_ ?_ ?_
                      · simp [vi_i]
                      · rfl
                      · exact (by repeat' first | exact hp_te.rf | refine hp_te.tr ?_ (hp_te.i (by first | decide | omega)) | refine hp_te.tr ?_ (hp_te.r (by first | decide | omega)) | refine hp_te.tr ?_ (hp_te.n (by first | decide | omega)))
                      · exact (by repeat' first | exact hp_te.rf | refine hp_te.tr ?_ (hp_te.i (by first | decide | omega)) | refine hp_te.tr ?_ (hp_te.r (by first | decide | omega)) | refine hp_te.tr ?_ (hp_te.n (by first | decide | omega)))
                  · first | exact d6 | (simp only [vi_i]; simp; exact d6)
                  · first | exact d7 | (simp only [vi_i]; simp; exact d7)
                  · first | exact d8 | (simp only [vi_i]; simp; exact d8)
              · have eb : s_bl S (cl_ x) w mi wa = 0 + 2 * hp_vi S.1 46 (cl_ x) 2 + hp_vi S.1 46 (cl_ x) 2 := by
                  unfold s_bl
                  rw [if_neg c96, if_neg c131]
                rw [eb] at hq
                refine v_aload 136 dX6_press_134 rfl rfl ?_
                refine v_dup 137 dX6_press_136 rfl rfl ?_
                refine v_getfi 140 dX6_press_137 fl_X6_174 (by first | assumption | rfl) (by rfl) rfl ?_
                first | rw [hp_seti_at] | rw [hp_seti_ne (by simp), hp_seti_ne (by simp), d4, b0]
                refine v_aload 142 dX6_press_140 rfl rfl ?_
                refine v_getfi 145 dX6_press_142 fl_X6_177 (by first | assumption | rfl) (by rfl) rfl ?_
                repeat rw [hp_seti_ne (by simp)]
                rw [E]
                refine v_iadd 146 dX6_press_145 rfl ?_
                refine v_putfi 149 dX6_press_146 pf_X6_press_174 (by first | assumption | rfl) (by first | assumption | decide) (by rfl) rfl rfl rfl ?_
                refine v_aload 151 dX6_press_149 rfl rfl ?_
                refine v_getfi 154 dX6_press_151 fl_X6_174 (by first | assumption | rfl) (by rfl) rfl ?_
                first | rw [hp_seti_at] | rw [hp_seti_ne (by simp), hp_seti_ne (by simp), d4, b0]
                refine v_ireturn dX6_press_154 rfl ?_
                dsimp only at hq
                refine hq _ (R.pn (p := cl_ x) (fun t ht => (by repeat' first | exact hp_te.rf | refine hp_te.tr ?_ (hp_te.i (by first | decide | omega)) | refine hp_te.tr ?_ (hp_te.r (by first | decide | omega)) | refine hp_te.tr ?_ (hp_te.n (by first | decide | omega)))) (fun t ht => (by repeat' first | exact hp_te.rf | refine hp_te.tr ?_ (hp_te.i (by first | decide | omega)) | refine hp_te.tr ?_ (hp_te.r (by first | decide | omega)) | refine hp_te.tr ?_ (hp_te.n (by first | decide | omega)))) rfl rfl (fun j hj k => ⟨?_, rfl⟩) (fun j hj k => ⟨?_, rfl⟩) ?_) (fun t ht => (by repeat' first | exact hp_te.rf | refine hp_te.tr ?_ (hp_te.i (by first | decide | omega)) | refine hp_te.tr ?_ (hp_te.r (by first | decide | omega)) | refine hp_te.tr ?_ (hp_te.n (by first | decide | omega))))
                · simp [vi_i, hj]
                · simp [vi_i, hj]
                · obtain ⟨⟨a1, a2, a3⟩, ⟨b1, b2, b3, b4⟩, ⟨d1, d2, d3, d4, d5, d6, d7, d8⟩, e1, e2, e3, e4⟩ := F
                  refine ⟨⟨a1, a2, a3⟩, ⟨?_, ?_, ?_, ?_⟩, ⟨?_, ?_, ?_, ?_, ?_, ?_, ?_, ?_⟩, e1, e2, e3, e4⟩
                  · first | exact b1 | (simp only [vi_i]; simp; exact b1)
                  · first | exact b2 | (simp only [vi_i]; simp; exact b2)
                  · first | exact b3 | (simp only [vi_i]; simp; exact b3)
                  · first | exact b4 | (simp only [vi_i]; simp; exact b4)
                  · first | exact d1 | (simp only [vi_i]; simp; exact d1)
                  · simp [vi_i]
                  · simp [vi_i]
                  · first | exact hp_seti_at.trans hp_seti_at.symm | (rw [hp_seti_at, hp_seti_ne (by simp), hp_seti_ne (by simp), d4, b0])
                  · refine Eq.trans (b := s_lf S (cl_ x)) ?_ (Eq.symm ?_)
                    · first | exact d5 | (simp only [vi_i]; simp; exact d5)
                    · refine s_lf_te ?_ ?_ ?_ ?_
                      · simp [vi_i]
                      · rfl
                      · exact (by repeat' first | exact hp_te.rf | refine hp_te.tr ?_ (hp_te.i (by first | decide | omega)) | refine hp_te.tr ?_ (hp_te.r (by first | decide | omega)) | refine hp_te.tr ?_ (hp_te.n (by first | decide | omega)))
                      · exact (by repeat' first | exact hp_te.rf | refine hp_te.tr ?_ (hp_te.i (by first | decide | omega)) | refine hp_te.tr ?_ (hp_te.r (by first | decide | omega)) | refine hp_te.tr ?_ (hp_te.n (by first | decide | omega)))
                  · first | exact d6 | (simp only [vi_i]; simp; exact d6)
                  · first | exact d7 | (simp only [vi_i]; simp; exact d7)
                  · first | exact d8 | (simp only [vi_i]; simp; exact d8)
          · rw [if_neg c63] at hq
            refine v_throw dX6_press_66 dX6_press_69 dX6_press_70 dX6_press_73 rfl th_X6_73_75 rfl (by decide) (by decide) (by decide) ?_
            exact hq h R (fun _ _ => hp_te.rf)
      · have c35 := f1_0.mp c35
        rw [if_neg (fun q => by first | exact c14 q.1 | exact c24 q.2.1 | exact c35 q.2.2)] at hq
        refine v_throw dX6_press_38 dX6_press_41 dX6_press_42 dX6_press_45 rfl th_X6_44_46 rfl (by decide) (by decide) (by decide) ?_
        exact hq h R (fun _ _ => hp_te.rf)
set_option maxRecDepth 20000 in
theorem C_X6_air {G : GW} {h : PH} {Q : RS → PH → Prop} {S : SP} {N : Nat} (R : Rp1 S h) (I : Iv S N) {x : Int32} (hq : ∀ h', Rp1 (op_air S x).2.2 h' → (∀ t, t < 10 ∨ 40 ≤ t → hp_te h h' t) → Q (an_ "java/lang/IllegalArgumentException" "" "" ((op_air S x).1, (op_air S x).2.1)) h') : VV G 6 1 6 yX6_air cX6_air 3 (some .int) [] 0 (vv_en 3 [pv_O (10, 0), pv_I x]) [] h Q := by
  show VV G 6 1 6 yX6_air cX6_air 3 (some .int) [] 0 [some (pv_O (10, 0)), some (pv_I x), none] [] h Q
  obtain ⟨R0, RL, R1, R2, R3, R4, R5⟩ := id R
  obtain ⟨z0, z1, z2, z3, z4, z5⟩ := I.cs
  unfold op_air at hq
  refine v_iload_n 1 dX6_air_0 rfl rfl ?_
  refine v_iconstv (v := 4) 2 dX6_air_1 (by decide) rfl ?_
  refine v_bipushv (v := 20) 4 dX6_air_2 (by decide) rfl ?_
  refine v_invs (d' := 0) (k' := 0) (n' := 0) (k2 := 1) (n2 := 6) 7 [_, _, _] dX6_air_4 mt_X6_40 ms_X6_isIn rfl rfl (of_decide_eq_true rfl) rfl (by decide) rfl rfl rfl rfl (C_X6_isIn ?_)
  refine v_if_ne 18 10 dX6_air_7 (by decide) rfl (fun c7 => ?_) (fun c7 => ?_)
  · have c7 := Decidable.not_not.mp (fun q => c7 (f1_0.mpr q))
    rw [if_pos c7] at hq
    refine v_aload_n 19 dX6_air_18 rfl rfl ?_
    refine v_getfi 22 dX6_air_19 fl_X6_28 (by first | assumption | rfl) (by rfl) rfl ?_
    rw [R0.2.1]
    refine v_istore_n 23 dX6_air_22 (by decide) rfl rfl ?_
    dsimp only [List.set]
    refine v_aload_n 24 dX6_air_23 rfl rfl ?_
    refine v_iload_n 25 dX6_air_24 rfl rfl ?_
    refine v_putfi 28 dX6_air_25 pf_X6_air_28 (by first | assumption | rfl) (by first | assumption | decide) (by rfl) rfl rfl rfl ?_
    refine v_iload_n 29 dX6_air_28 rfl rfl ?_
    refine v_ireturn dX6_air_29 rfl ?_
    refine hq _ ⟨?_, RL.te (fun t ht => (by repeat' first | exact hp_te.rf | refine hp_te.tr ?_ (hp_te.i (by first | decide | omega)) | refine hp_te.tr ?_ (hp_te.r (by first | decide | omega)) | refine hp_te.tr ?_ (hp_te.n (by first | decide | omega)))) rfl, R1.te (by repeat' first | exact hp_te.rf | refine hp_te.tr ?_ (hp_te.i (by first | decide | omega)) | refine hp_te.tr ?_ (hp_te.r (by first | decide | omega)) | refine hp_te.tr ?_ (hp_te.n (by first | decide | omega))) (by repeat' first | exact hp_te.rf | refine hp_te.tr ?_ (hp_te.i (by first | decide | omega)) | refine hp_te.tr ?_ (hp_te.r (by first | decide | omega)) | refine hp_te.tr ?_ (hp_te.n (by first | decide | omega))) rfl, R2.te (by repeat' first | exact hp_te.rf | refine hp_te.tr ?_ (hp_te.i (by first | decide | omega)) | refine hp_te.tr ?_ (hp_te.r (by first | decide | omega)) | refine hp_te.tr ?_ (hp_te.n (by first | decide | omega))) (by repeat' first | exact hp_te.rf | refine hp_te.tr ?_ (hp_te.i (by first | decide | omega)) | refine hp_te.tr ?_ (hp_te.r (by first | decide | omega)) | refine hp_te.tr ?_ (hp_te.n (by first | decide | omega))) (by repeat' first | exact hp_te.rf | refine hp_te.tr ?_ (hp_te.i (by first | decide | omega)) | refine hp_te.tr ?_ (hp_te.r (by first | decide | omega)) | refine hp_te.tr ?_ (hp_te.n (by first | decide | omega))) (by repeat' first | exact hp_te.rf | refine hp_te.tr ?_ (hp_te.i (by first | decide | omega)) | refine hp_te.tr ?_ (hp_te.r (by first | decide | omega)) | refine hp_te.tr ?_ (hp_te.n (by first | decide | omega))) (by repeat' first | exact hp_te.rf | refine hp_te.tr ?_ (hp_te.i (by first | decide | omega)) | refine hp_te.tr ?_ (hp_te.r (by first | decide | omega)) | refine hp_te.tr ?_ (hp_te.n (by first | decide | omega))) (by repeat' first | exact hp_te.rf | refine hp_te.tr ?_ (hp_te.i (by first | decide | omega)) | refine hp_te.tr ?_ (hp_te.r (by first | decide | omega)) | refine hp_te.tr ?_ (hp_te.n (by first | decide | omega))) (by repeat' first | exact hp_te.rf | refine hp_te.tr ?_ (hp_te.i (by first | decide | omega)) | refine hp_te.tr ?_ (hp_te.r (by first | decide | omega)) | refine hp_te.tr ?_ (hp_te.n (by first | decide | omega))) rfl, R3.te (by repeat' first | exact hp_te.rf | refine hp_te.tr ?_ (hp_te.i (by first | decide | omega)) | refine hp_te.tr ?_ (hp_te.r (by first | decide | omega)) | refine hp_te.tr ?_ (hp_te.n (by first | decide | omega))) (by repeat' first | exact hp_te.rf | refine hp_te.tr ?_ (hp_te.i (by first | decide | omega)) | refine hp_te.tr ?_ (hp_te.r (by first | decide | omega)) | refine hp_te.tr ?_ (hp_te.n (by first | decide | omega))) (by repeat' first | exact hp_te.rf | refine hp_te.tr ?_ (hp_te.i (by first | decide | omega)) | refine hp_te.tr ?_ (hp_te.r (by first | decide | omega)) | refine hp_te.tr ?_ (hp_te.n (by first | decide | omega))) (by repeat' first | exact hp_te.rf | refine hp_te.tr ?_ (hp_te.i (by first | decide | omega)) | refine hp_te.tr ?_ (hp_te.r (by first | decide | omega)) | refine hp_te.tr ?_ (hp_te.n (by first | decide | omega))) (by repeat' first | exact hp_te.rf | refine hp_te.tr ?_ (hp_te.i (by first | decide | omega)) | refine hp_te.tr ?_ (hp_te.r (by first | decide | omega)) | refine hp_te.tr ?_ (hp_te.n (by first | decide | omega))) (by repeat' first | exact hp_te.rf | refine hp_te.tr ?_ (hp_te.i (by first | decide | omega)) | refine hp_te.tr ?_ (hp_te.r (by first | decide | omega)) | refine hp_te.tr ?_ (hp_te.n (by first | decide | omega))) (by repeat' first | exact hp_te.rf | refine hp_te.tr ?_ (hp_te.i (by first | decide | omega)) | refine hp_te.tr ?_ (hp_te.r (by first | decide | omega)) | refine hp_te.tr ?_ (hp_te.n (by first | decide | omega))) rfl (fun _ _ => rfl), R4.te (by repeat' first | exact hp_te.rf | refine hp_te.tr ?_ (hp_te.i (by first | decide | omega)) | refine hp_te.tr ?_ (hp_te.r (by first | decide | omega)) | refine hp_te.tr ?_ (hp_te.n (by first | decide | omega))) (by repeat' first | exact hp_te.rf | refine hp_te.tr ?_ (hp_te.i (by first | decide | omega)) | refine hp_te.tr ?_ (hp_te.r (by first | decide | omega)) | refine hp_te.tr ?_ (hp_te.n (by first | decide | omega))) (by repeat' first | exact hp_te.rf | refine hp_te.tr ?_ (hp_te.i (by first | decide | omega)) | refine hp_te.tr ?_ (hp_te.r (by first | decide | omega)) | refine hp_te.tr ?_ (hp_te.n (by first | decide | omega))) (by repeat' first | exact hp_te.rf | refine hp_te.tr ?_ (hp_te.i (by first | decide | omega)) | refine hp_te.tr ?_ (hp_te.r (by first | decide | omega)) | refine hp_te.tr ?_ (hp_te.n (by first | decide | omega))) (by repeat' first | exact hp_te.rf | refine hp_te.tr ?_ (hp_te.i (by first | decide | omega)) | refine hp_te.tr ?_ (hp_te.r (by first | decide | omega)) | refine hp_te.tr ?_ (hp_te.n (by first | decide | omega))) (by repeat' first | exact hp_te.rf | refine hp_te.tr ?_ (hp_te.i (by first | decide | omega)) | refine hp_te.tr ?_ (hp_te.r (by first | decide | omega)) | refine hp_te.tr ?_ (hp_te.n (by first | decide | omega))) (by repeat' first | exact hp_te.rf | refine hp_te.tr ?_ (hp_te.i (by first | decide | omega)) | refine hp_te.tr ?_ (hp_te.r (by first | decide | omega)) | refine hp_te.tr ?_ (hp_te.n (by first | decide | omega))) (by repeat' first | exact hp_te.rf | refine hp_te.tr ?_ (hp_te.i (by first | decide | omega)) | refine hp_te.tr ?_ (hp_te.r (by first | decide | omega)) | refine hp_te.tr ?_ (hp_te.n (by first | decide | omega))) (by repeat' first | exact hp_te.rf | refine hp_te.tr ?_ (hp_te.i (by first | decide | omega)) | refine hp_te.tr ?_ (hp_te.r (by first | decide | omega)) | refine hp_te.tr ?_ (hp_te.n (by first | decide | omega))) (by repeat' first | exact hp_te.rf | refine hp_te.tr ?_ (hp_te.i (by first | decide | omega)) | refine hp_te.tr ?_ (hp_te.r (by first | decide | omega)) | refine hp_te.tr ?_ (hp_te.n (by first | decide | omega))) rfl (fun _ _ => ⟨rfl, rfl⟩), R5.te (by repeat' first | exact hp_te.rf | refine hp_te.tr ?_ (hp_te.i (by first | decide | omega)) | refine hp_te.tr ?_ (hp_te.r (by first | decide | omega)) | refine hp_te.tr ?_ (hp_te.n (by first | decide | omega))) (by repeat' first | exact hp_te.rf | refine hp_te.tr ?_ (hp_te.i (by first | decide | omega)) | refine hp_te.tr ?_ (hp_te.r (by first | decide | omega)) | refine hp_te.tr ?_ (hp_te.n (by first | decide | omega))) rfl⟩ (fun t ht => (by repeat' first | exact hp_te.rf | refine hp_te.tr ?_ (hp_te.i (by first | decide | omega)) | refine hp_te.tr ?_ (hp_te.r (by first | decide | omega)) | refine hp_te.tr ?_ (hp_te.n (by first | decide | omega))))
    obtain ⟨r0, r1, r2, r3, r4, r5, r6⟩ := R0
    refine ⟨r0, ?_, ?_, ?_, ?_, ?_, ?_⟩
    · exact hp_seti_at.trans hp_seti_at.symm
    · exact r2
    · exact r3
    · exact r4
    · exact r5
    · exact r6
  · have c7 := f1_0.mp c7
    rw [if_neg c7] at hq
    refine v_throw dX6_air_10 dX6_air_13 dX6_air_14 dX6_air_17 rfl th_X6_44_46 rfl (by decide) (by decide) (by decide) ?_
    exact hq h R (fun _ _ => hp_te.rf)
