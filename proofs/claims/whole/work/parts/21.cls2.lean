theorem rq_is : ∀ (N R x : Nat), R * R ≤ x → x < (R + 1) * (R + 1) → R ≤ N → rq_ N x = R
  | 0, R, x, _, _, h => (Nat.le_zero.mp h).symm
  | N + 1, R, x, h1, h2, h3 => by
    unfold rq_
    by_cases e : (N + 1) * (N + 1) ≤ x
    · rw [if_pos e]
      rcases Nat.lt_or_ge R (N + 1) with q | q
      · have := Nat.mul_le_mul (show R + 1 ≤ N + 1 from q) (show R + 1 ≤ N + 1 from q)
        omega
      · omega
    · rw [if_neg e]
      rcases Nat.lt_or_ge N R with q | q
      · obtain rfl : R = N + 1 := by omega
        exact absurd h1 e
      · exact rq_is N R x h1 h2 q
theorem sq_is {R m : Nat} (h1 : R * R ≤ m) (h2 : m < (R + 1) * (R + 1)) (hm : m < 360000) : nI R = sq_ (nI m) := by
  unfold sq_
  rw [nI_clamp (by omega), rq_is 600 R m h1 h2 ?_]
  rcases Nat.lt_or_ge 600 R with q | q
  · have := Nat.mul_le_mul (Nat.le_of_lt q) (Nat.le_of_lt q)
    omega
  · exact q
set_option maxRecDepth 20000 in
theorem L_X0_rootOf {G : GW} {h : PH} {Q : RS → PH → Prop} {m : Nat} (hm : m < 360000) (hq : Q (.inl (some (pv_I (sq_ (nI m))))) h) : ∀ fuel : Nat, ∀ R, R * R ≤ m → m < (R + 2 ^ fuel) * (R + 2 ^ fuel) → R + 2 ^ fuel ≤ 1024 → VV G 0 0 0 yX0_rootOf cX0_rootOf 3 (some .int) [] 6 [some (pv_I (nI m)), some (pv_I (nI R)), some (pv_I (nI (2 ^ fuel / 2)))] [] h Q := by
  intro fuel
  induction fuel with
  | zero =>
    intro R h1 h2 h3
    refine v_iload_n 7 dX0_rootOf_6 rfl rfl ?_
    refine v_if_le 32 10 dX0_rootOf_7 (by decide) rfl (fun c7 => ?_) (fun c7 => absurd (show (nI (2 ^ 0 / 2) : Int32) ≤ 0 by decide) c7)
    refine v_iload_n 33 dX0_rootOf_32 rfl rfl ?_
    refine v_ireturn dX0_rootOf_33 rfl ?_
    exact vq_i hq (sq_is h1 h2 hm).symm
  | succ fuel ih =>
    intro R h1 h2 h3
    rw [Nat.pow_succ, show R + 2 ^ fuel * 2 = R + 2 ^ fuel + 2 ^ fuel from by omega] at h2 h3
    have hp := Nat.two_pow_pos fuel
    rw [show 2 ^ (fuel + 1) / 2 = 2 ^ fuel from by rw [Nat.pow_succ]; omega]
    have hbb : (R + 2 ^ fuel) * (R + 2 ^ fuel) < 2 ^ 31 := by
      have := Nat.mul_le_mul (show R + 2 ^ fuel ≤ 1024 by omega) (show R + 2 ^ fuel ≤ 1024 by omega)
      omega
    refine v_iload_n 7 dX0_rootOf_6 rfl rfl ?_
    refine v_if_le 32 10 dX0_rootOf_7 (by decide) rfl (fun c7 => ?_) (fun c7 => ?_)
    · exact absurd (Nat.two_pow_pos fuel) (by
        intro q
        exact absurd (nI_lt (a := 0) q (by omega)) (Int32.not_lt.mpr c7))
    · refine v_iload_n 11 dX0_rootOf_10 rfl rfl ?_
      refine v_iload_n 12 dX0_rootOf_11 rfl rfl ?_
      refine v_iadd 13 dX0_rootOf_12 rfl ?_
      refine v_iload_n 14 dX0_rootOf_13 rfl rfl ?_
      refine v_iload_n 15 dX0_rootOf_14 rfl rfl ?_
      refine v_iadd 16 dX0_rootOf_15 rfl ?_
      refine v_imul 17 dX0_rootOf_16 rfl ?_
      rw [nI_add, pk_mul]
      refine v_iload_n 18 dX0_rootOf_17 rfl rfl ?_
      refine v_icmp_gt 25 21 dX0_rootOf_18 (by decide) rfl (fun c18 => ?_) (fun c18 => ?_)
      · have h4 : m < (R + 2 ^ fuel) * (R + 2 ^ fuel) := by
          rcases Nat.lt_or_ge m ((R + 2 ^ fuel) * (R + 2 ^ fuel)) with q | q
          · exact q
          · exact absurd c18 (nI_nlt q (by omega))
        refine v_iload_n 26 dX0_rootOf_25 rfl rfl ?_
        refine v_iconstv (v := 2) 27 dX0_rootOf_26 (by decide) rfl ?_
        refine v_idiv 28 dX0_rootOf_27 (by decide) rfl ?_
        rw [show nI (2 ^ fuel) / 2 = nI (2 ^ fuel / 2) from pk_div (d := 2) (by omega) (by decide) (by decide)]
        refine v_istore_n 29 dX0_rootOf_28 (by decide) rfl rfl ?_
        dsimp only [List.set]
        refine v_goto 6 dX0_rootOf_29 (by decide) ?_
        exact ih _ (by omega) (by omega) (by omega)
      · have h4 : (R + 2 ^ fuel) * (R + 2 ^ fuel) ≤ m := by
          rcases Nat.lt_or_ge m ((R + 2 ^ fuel) * (R + 2 ^ fuel)) with q | q
          · exact absurd (nI_lt q hbb) c18
          · exact q
        refine v_iload_n 22 dX0_rootOf_21 rfl rfl ?_
        refine v_iload_n 23 dX0_rootOf_22 rfl rfl ?_
        refine v_iadd 24 dX0_rootOf_23 rfl ?_
        rw [nI_add]
        refine v_istore_n 25 dX0_rootOf_24 (by decide) rfl rfl ?_
        dsimp only [List.set]
        refine v_iload_n 26 dX0_rootOf_25 rfl rfl ?_
        refine v_iconstv (v := 2) 27 dX0_rootOf_26 (by decide) rfl ?_
        refine v_idiv 28 dX0_rootOf_27 (by decide) rfl ?_
        rw [show nI (2 ^ fuel) / 2 = nI (2 ^ fuel / 2) from pk_div (d := 2) (by omega) (by decide) (by decide)]
        refine v_istore_n 29 dX0_rootOf_28 (by decide) rfl rfl ?_
        dsimp only [List.set]
        refine v_goto 6 dX0_rootOf_29 (by decide) ?_
        exact ih _ (by omega) (by omega) (by omega)
set_option maxRecDepth 20000 in
theorem C_X0_rootOf {G : GW} {h : PH} {Q : RS → PH → Prop} {m : Nat} (hm : m < 360000) (hq : Q (.inl (some (pv_I (sq_ (nI m))))) h) : VV G 0 0 0 yX0_rootOf cX0_rootOf 3 (some .int) [] 0 (vv_en 3 [pv_I (nI m)]) [] h Q := by
  show VV G 0 0 0 yX0_rootOf cX0_rootOf 3 (some .int) [] 0 [some (pv_I (nI m)), none, none] [] h Q
  refine v_iconstv (v := 0) 1 dX0_rootOf_0 (by decide) rfl ?_
  refine v_istore_n 2 dX0_rootOf_1 (by decide) rfl rfl ?_
  dsimp only [List.set]
  refine v_sipushv (v := 512) 5 dX0_rootOf_2 (by decide) rfl ?_
  refine v_istore_n 6 dX0_rootOf_5 (by decide) rfl rfl ?_
  dsimp only [List.set]
  exact L_X0_rootOf hm hq 10 0 (by omega) (by omega) (by omega)
set_option maxRecDepth 20000 in
theorem L_X12_root {G : GW} {h : PH} {Q : RS → PH → Prop} {m : Nat} (hm : m < 360000) (hq : Q (.inl (some (pv_I (sq_ (nI m))))) h) : ∀ fuel : Nat, ∀ R, R * R ≤ m → 600 - R < fuel → VV G 0 0 0 yX12_root cX12_root 2 (some .int) [] 2 [some (pv_I (nI m)), some (pv_I (nI R))] [] h Q := by
  intro fuel
  induction fuel with
  | zero =>
    intro R h1 h2
    omega
  | succ fuel ih =>
    intro R h1 h2
    have h5 : R < 600 := by
      rcases Nat.lt_or_ge R 600 with q | q
      · exact q
      · have := Nat.mul_le_mul q q
        omega
    have hbb : (R + 1) * (R + 1) < 2 ^ 31 := by
      have := Nat.mul_le_mul (show R + 1 ≤ 600 by omega) (show R + 1 ≤ 600 by omega)
      omega
    refine v_iload_n 3 dX12_root_2 rfl rfl ?_
    refine v_iconstv (v := 1) 4 dX12_root_3 (by decide) rfl ?_
    refine v_iadd 5 dX12_root_4 rfl ?_
    refine v_iload_n 6 dX12_root_5 rfl rfl ?_
    refine v_iconstv (v := 1) 7 dX12_root_6 (by decide) rfl ?_
    refine v_iadd 8 dX12_root_7 rfl ?_
    rw [show nI R + 1 = nI (R + 1) from nI_1 R]
    refine v_imul 9 dX12_root_8 rfl ?_
    rw [pk_mul]
    refine v_iload_n 10 dX12_root_9 rfl rfl ?_
    refine v_icmp_gt 19 13 dX12_root_10 (by decide) rfl (fun c10 => ?_) (fun c10 => ?_)
    · have h4 : m < (R + 1) * (R + 1) := by
        rcases Nat.lt_or_ge m ((R + 1) * (R + 1)) with q | q
        · exact q
        · exact absurd c10 (nI_nlt q (by omega))
      refine v_iload_n 20 dX12_root_19 rfl rfl ?_
      refine v_ireturn dX12_root_20 rfl ?_
      exact vq_i hq (sq_is h1 h4 hm).symm
    · have h4 : (R + 1) * (R + 1) ≤ m := by
        rcases Nat.lt_or_ge m ((R + 1) * (R + 1)) with q | q
        · exact absurd (nI_lt q hbb) c10
        · exact q
      have h6 : R + 1 < 600 := by
        rcases Nat.lt_or_ge (R + 1) 600 with q | q
        · exact q
        · have := Nat.mul_le_mul q q
          omega
      refine v_iinc 16 dX12_root_13 rfl (by decide) rfl rfl ?_
      dsimp only [List.set]
      refine v_goto 2 dX12_root_16 (by decide) ?_
      rw [show nI R + Int32.ofInt 1 = nI (R + 1) from nI_1 R]
      exact ih _ h4 (by omega)
set_option maxRecDepth 20000 in
theorem C_X12_root {G : GW} {h : PH} {Q : RS → PH → Prop} {m : Nat} (hm : m < 360000) (hq : Q (.inl (some (pv_I (sq_ (nI m))))) h) : VV G 0 0 0 yX12_root cX12_root 2 (some .int) [] 0 (vv_en 2 [pv_I (nI m)]) [] h Q := by
  show VV G 0 0 0 yX12_root cX12_root 2 (some .int) [] 0 [some (pv_I (nI m)), none] [] h Q
  refine v_iconstv (v := 0) 1 dX12_root_0 (by decide) rfl ?_
  refine v_istore_n 2 dX12_root_1 (by decide) rfl rfl ?_
  dsimp only [List.set]
  exact L_X12_root hm hq 601 0 (by omega) (by omega)
theorem i32_neg_sq (a b : Int32) : (a - b) * (a - b) = (b - a) * (b - a) := by
  rw [← Int32.neg_sub (a := b) (b := a), Int32.neg_mul_neg]
/-- what is under the root -/
theorem rt_in {D e : Nat} (h1 : 50 ≤ D) (h2 : D < 500) (h3 : e ≤ 69) : ∃ m, m < 360000 ∧ nI D * nI D - (nI D / 2 - nI e) * (nI D / 2 - nI e) = nI m := by
  have hsq : D * D < 250000 := by
    have := Nat.mul_le_mul (show D ≤ 499 by omega) (show D ≤ 499 by omega)
    omega
  rw [show nI D / 2 = nI (D / 2) from pk_div (d := 2) (by omega) (by decide) (by decide)]
  rcases Nat.le_total e (D / 2) with q | q
  · have hle : (D / 2 - e) * (D / 2 - e) ≤ D * D := Nat.mul_le_mul (by omega) (by omega)
    exact ⟨D * D - (D / 2 - e) * (D / 2 - e), by omega, by rw [pk_sub q, pk_mul, pk_mul, pk_sub hle]⟩
  · have hle : (e - D / 2) * (e - D / 2) ≤ D * D := Nat.mul_le_mul (by omega) (by omega)
    exact ⟨D * D - (e - D / 2) * (e - D / 2), by omega, by rw [i32_neg_sq, pk_sub q, pk_mul, pk_mul, pk_sub hle]⟩
set_option maxRecDepth 20000 in
theorem C_X0_cutWidth {G : GW} {h : PH} {Q : RS → PH → Prop} {i dd e : Nat} {way : Int32} (hd : hp_vi h 11 i 1 = nI dd) (h1 : 100 ≤ dd) (h2 : dd < 1000) (h3 : e ≤ 69) (hy : way = 102 ∨ way = 113 ∨ way = 114 ∨ way = 115) (hq : Q (.inl (some (pv_I (pw_c way (nI dd) (nI e))))) h) : VV G 1 0 0 yX0_cutWidth cX0_cutWidth 5 (some .int) [] 0 (vv_en 5 [pv_O (11, i), pv_I way, pv_I (nI e)]) [] h Q := by
  show VV G 1 0 0 yX0_cutWidth cX0_cutWidth 5 (some .int) [] 0 [some (pv_O (11, i)), some (pv_I way), some (pv_I (nI e)), none, none] [] h Q
  have hD : nI dd / 2 = nI (dd / 2) := pk_div (d := 2) (by omega) (by decide) (by decide)
  unfold pw_c at hq
  rw [hD] at hq
  refine v_aload_n 1 dX0_cutWidth_0 rfl rfl ?_
  refine v_invv (d' := 0) (k' := 0) (n' := 0) (k2 := 0) (n2 := 0) 4 [] dX0_cutWidth_1 mt_X0_38 mi_X1_radius me_X1_radius (by first | assumption | rfl) (by rfl) rfl rfl (of_decide_eq_true rfl) rfl (by decide) rfl rfl rfl rfl (C_X1_radius ?_)
  rw [hd, hD]
  refine v_istore_n 5 dX0_cutWidth_4 (by decide) rfl rfl ?_
  dsimp only [List.set]
  refine v_iload_n 6 dX0_cutWidth_5 rfl rfl ?_
  refine v_bipushv (v := 102) 8 dX0_cutWidth_6 (by decide) rfl ?_
  refine v_icmp_ne 33 11 dX0_cutWidth_8 (by decide) rfl (fun c8 => ?_) (fun c8 => ?_)
  · rw [if_neg c8] at hq
    refine v_iload_n 34 dX0_cutWidth_33 rfl rfl ?_
    refine v_bipushv (v := 115) 36 dX0_cutWidth_34 (by decide) rfl ?_
    refine v_icmp_ne 51 39 dX0_cutWidth_36 (by decide) rfl (fun c36 => ?_) (fun c36 => ?_)
    · skip
      refine v_iload_n 52 dX0_cutWidth_51 rfl rfl ?_
      refine v_bipushv (v := 113) 54 dX0_cutWidth_52 (by decide) rfl ?_
      refine v_icmp_ne 64 57 dX0_cutWidth_54 (by decide) rfl (fun c54 => ?_) (fun c54 => ?_)
      · rw [if_neg c54, if_pos (by rcases hy with q | q | q | q <;> first | exact q | exact absurd q c8 | exact absurd q c36 | exact absurd q c54)] at hq
        refine v_iload_n 65 dX0_cutWidth_64 rfl rfl ?_
        refine v_bipushv (v := 20) 67 dX0_cutWidth_65 (by decide) rfl ?_
        refine v_isub 68 dX0_cutWidth_67 rfl ?_
        refine v_iconstv (v := 4) 69 dX0_cutWidth_68 (by decide) rfl ?_
        refine v_imul 70 dX0_cutWidth_69 rfl ?_
        refine v_iconstv (v := 5) 71 dX0_cutWidth_70 (by decide) rfl ?_
        refine v_idiv 72 dX0_cutWidth_71 (by decide) rfl ?_
        refine v_ireturn dX0_cutWidth_72 rfl ?_
        exact hq
      · rw [if_pos c54] at hq
        refine v_iload_n 58 dX0_cutWidth_57 rfl rfl ?_
        refine v_bipushv (v := 20) 60 dX0_cutWidth_58 (by decide) rfl ?_
        refine v_isub 61 dX0_cutWidth_60 rfl ?_
        refine v_goto 72 dX0_cutWidth_61 (by decide) ?_
        refine v_ireturn dX0_cutWidth_72 rfl ?_
        exact hq
    · rw [if_neg (by rw [c36]; decide), if_neg (by rw [c36]; decide)] at hq
      refine v_iconstv (v := 3) 40 dX0_cutWidth_39 (by decide) rfl ?_
      refine v_aload_n 41 dX0_cutWidth_40 rfl rfl ?_
      refine v_getfi 44 dX0_cutWidth_41 fl_X0_71 (by first | assumption | rfl) (by rfl) rfl ?_
      rw [hd]
      refine v_imul 45 dX0_cutWidth_44 rfl ?_
      refine v_bipushv (v := 6) 47 dX0_cutWidth_45 (by decide) rfl ?_
      refine v_iload_n 48 dX0_cutWidth_47 rfl rfl ?_
      refine v_imul 49 dX0_cutWidth_48 rfl ?_
      refine v_isub 50 dX0_cutWidth_49 rfl ?_
      refine v_ireturn dX0_cutWidth_50 rfl ?_
      exact hq
  · rw [if_pos c8] at hq
    obtain ⟨m, hm, em⟩ := rt_in (D := dd / 2) (by omega) (by omega) h3
    rw [em] at hq
    refine v_iload_n 12 dX0_cutWidth_11 rfl rfl ?_
    refine v_iconstv (v := 2) 13 dX0_cutWidth_12 (by decide) rfl ?_
    refine v_idiv 14 dX0_cutWidth_13 (by decide) rfl ?_
    refine v_iload_n 15 dX0_cutWidth_14 rfl rfl ?_
    refine v_isub 16 dX0_cutWidth_15 rfl ?_
    refine v_istore 18 dX0_cutWidth_16 (by decide) rfl rfl ?_
    dsimp only [List.set]
    refine v_iconstv (v := 2) 19 dX0_cutWidth_18 (by decide) rfl ?_
    refine v_iload_n 20 dX0_cutWidth_19 rfl rfl ?_
    refine v_iload_n 21 dX0_cutWidth_20 rfl rfl ?_
    refine v_imul 22 dX0_cutWidth_21 rfl ?_
    refine v_iload 24 dX0_cutWidth_22 rfl rfl ?_
    refine v_iload 26 dX0_cutWidth_24 rfl rfl ?_
    refine v_imul 27 dX0_cutWidth_26 rfl ?_
    refine v_isub 28 dX0_cutWidth_27 rfl ?_
    rw [em]
    refine v_invs (d' := 0) (k' := 0) (n' := 0) (k2 := 0) (n2 := 0) 31 [_] dX0_cutWidth_28 mt_X0_67 ms_X0_rootOf rfl rfl (of_decide_eq_true rfl) rfl (by decide) rfl rfl rfl rfl (C_X0_rootOf hm ?_)
    refine v_imul 32 dX0_cutWidth_31 rfl ?_
    refine v_ireturn dX0_cutWidth_32 rfl ?_
    exact hq
set_option maxRecDepth 20000 in
theorem C_X0_wayFigure {G : GW} {h : PH} {Q : RS → PH → Prop} {i : Nat} {way l wd form : Int32} (hw : hp_vi h 11 i 0 = wd_c wd) (hf : hp_vi h 11 i 3 = form) (hq : Q (.inl (some (pv_I (pw_g way wd form l)))) h) : VV G 1 0 0 yX0_wayFigure cX0_wayFigure 3 (some .int) [] 0 (vv_en 3 [pv_O (11, i), pv_I way, pv_I l]) [] h Q := by
  show VV G 1 0 0 yX0_wayFigure cX0_wayFigure 3 (some .int) [] 0 [some (pv_O (11, i)), some (pv_I way), some (pv_I l)] [] h Q
  unfold pw_g at hq
  rw [show (if wd = 2 then (30 : Int32) else 10) = (if wd_c wd = 111 then 30 else 10) from by unfold wd_c; split <;> first | (rename_i q; subst q; rfl) | (split <;> first | (rename_i q; subst q; rfl) | (split <;> first | rfl | (rename_i q; subst q; rfl)))] at hq
  refine v_iload_n 1 dX0_wayFigure_0 rfl rfl ?_
  refine v_bipushv (v := 102) 3 dX0_wayFigure_1 (by decide) rfl ?_
  refine v_icmp_ne 14 6 dX0_wayFigure_3 (by decide) rfl (fun c3 => ?_) (fun c3 => ?_)
  · rw [if_neg c3] at hq
    refine v_iload_n 15 dX0_wayFigure_14 rfl rfl ?_
    refine v_bipushv (v := 113) 17 dX0_wayFigure_15 (by decide) rfl ?_
    refine v_icmp_ne 47 20 dX0_wayFigure_17 (by decide) rfl (fun c17 => ?_) (fun c17 => ?_)
    · rw [if_neg c17] at hq
      refine v_iload_n 48 dX0_wayFigure_47 rfl rfl ?_
      refine v_bipushv (v := 114) 50 dX0_wayFigure_48 (by decide) rfl ?_
      refine v_icmp_ne 55 53 dX0_wayFigure_50 (by decide) rfl (fun c50 => ?_) (fun c50 => ?_)
      · rw [if_neg c50] at hq
        refine v_bipushv (v := 20) 57 dX0_wayFigure_55 (by decide) rfl ?_
        refine v_aload_n 58 dX0_wayFigure_57 rfl rfl ?_
        refine v_getfi 61 dX0_wayFigure_58 fl_X0_52 (by first | assumption | rfl) (by rfl) rfl ?_
        rw [hf]
        refine v_bipushv (v := 98) 63 dX0_wayFigure_61 (by decide) rfl ?_
        refine v_icmp_ne 71 66 dX0_wayFigure_63 (by decide) rfl (fun c63 => ?_) (fun c63 => ?_)
        · rw [if_neg c63] at hq
          refine v_iconstv (v := 0) 72 dX0_wayFigure_71 (by decide) rfl ?_
          refine v_iadd 73 dX0_wayFigure_72 rfl ?_
          refine v_iload_n 74 dX0_wayFigure_73 rfl rfl ?_
          refine v_iconstv (v := 2) 75 dX0_wayFigure_74 (by decide) rfl ?_
          refine v_idiv 76 dX0_wayFigure_75 (by decide) rfl ?_
          refine v_isub 77 dX0_wayFigure_76 rfl ?_
          refine v_ireturn dX0_wayFigure_77 rfl ?_
          exact hq
        · rw [if_pos c63] at hq
          refine v_bipushv (v := 30) 68 dX0_wayFigure_66 (by decide) rfl ?_
          refine v_goto 72 dX0_wayFigure_68 (by decide) ?_
          refine v_iadd 73 dX0_wayFigure_72 rfl ?_
          refine v_iload_n 74 dX0_wayFigure_73 rfl rfl ?_
          refine v_iconstv (v := 2) 75 dX0_wayFigure_74 (by decide) rfl ?_
          refine v_idiv 76 dX0_wayFigure_75 (by decide) rfl ?_
          refine v_isub 77 dX0_wayFigure_76 rfl ?_
          refine v_ireturn dX0_wayFigure_77 rfl ?_
          exact hq
      · rw [if_pos c50] at hq
        refine v_iconstv (v := 5) 54 dX0_wayFigure_53 (by decide) rfl ?_
        refine v_ireturn dX0_wayFigure_54 rfl ?_
        exact hq
    · rw [if_pos c17] at hq
      refine v_aload_n 21 dX0_wayFigure_20 rfl rfl ?_
      refine v_getfi 24 dX0_wayFigure_21 fl_X0_74 (by first | assumption | rfl) (by rfl) rfl ?_
      rw [hw]
      refine v_bipushv (v := 111) 26 dX0_wayFigure_24 (by decide) rfl ?_
      refine v_icmp_ne 34 29 dX0_wayFigure_26 (by decide) rfl (fun c26 => ?_) (fun c26 => ?_)
      · rw [if_neg c26] at hq
        refine v_bipushv (v := 10) 36 dX0_wayFigure_34 (by decide) rfl ?_
        refine v_iload_n 37 dX0_wayFigure_36 rfl rfl ?_
        refine v_bipushv (v := 12) 39 dX0_wayFigure_37 (by decide) rfl ?_
        refine v_isub 40 dX0_wayFigure_39 rfl ?_
        refine v_abs 43 dX0_wayFigure_40 ma_X0_77 ma_s_abs ma_i rfl (by decide) rfl ?_
        refine v_iconstv (v := 2) 44 dX0_wayFigure_43 (by decide) rfl ?_
        refine v_idiv 45 dX0_wayFigure_44 (by decide) rfl ?_
        refine v_isub 46 dX0_wayFigure_45 rfl ?_
        refine v_ireturn dX0_wayFigure_46 rfl ?_
        exact hq
      · rw [if_pos c26] at hq
        refine v_bipushv (v := 30) 31 dX0_wayFigure_29 (by decide) rfl ?_
        refine v_goto 36 dX0_wayFigure_31 (by decide) ?_
        refine v_iload_n 37 dX0_wayFigure_36 rfl rfl ?_
        refine v_bipushv (v := 12) 39 dX0_wayFigure_37 (by decide) rfl ?_
        refine v_isub 40 dX0_wayFigure_39 rfl ?_
        refine v_abs 43 dX0_wayFigure_40 ma_X0_77 ma_s_abs ma_i rfl (by decide) rfl ?_
        refine v_iconstv (v := 2) 44 dX0_wayFigure_43 (by decide) rfl ?_
        refine v_idiv 45 dX0_wayFigure_44 (by decide) rfl ?_
        refine v_isub 46 dX0_wayFigure_45 rfl ?_
        refine v_ireturn dX0_wayFigure_46 rfl ?_
        exact hq
  · rw [if_pos c3] at hq
    refine v_bipushv (v := 15) 8 dX0_wayFigure_6 (by decide) rfl ?_
    refine v_iload_n 9 dX0_wayFigure_8 rfl rfl ?_
    refine v_bipushv (v := 8) 11 dX0_wayFigure_9 (by decide) rfl ?_
    refine v_irem 12 dX0_wayFigure_11 (by decide) rfl ?_
    refine v_isub 13 dX0_wayFigure_12 rfl ?_
    refine v_ireturn dX0_wayFigure_13 rfl ?_
    exact hq
