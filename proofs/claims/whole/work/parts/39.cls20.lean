/-- the place beside one: at its right, below, at its left, above -/
def nb_ (k : Nat) : Nat → Int32
  | 0 => if k % 8 < 7 then nI (k + 1) else -1
  | 1 => if k / 8 < 7 then nI (k + 8) else -1
  | 2 => if 0 < k % 8 then nI (k - 1) else -1
  | _ => if 0 < k / 8 then nI (k - 8) else -1
theorem nb_in {k d : Nat} (hk : k < 64) (hd : d < 4) : nb_ k d = -1 ∨ ∃ j, j < 64 ∧ nb_ k d = nI j ∧ ad_ k j := by
  have e : d = 0 ∨ d = 1 ∨ d = 2 ∨ d = 3 := by omega
  rcases e with rfl | rfl | rfl | rfl
  · by_cases q : k % 8 < 7
    · exact Or.inr ⟨k + 1, by omega, if_pos q, hk, by omega, Or.inl ⟨rfl, q⟩⟩
    · exact Or.inl (if_neg q)
  · by_cases q : k / 8 < 7
    · exact Or.inr ⟨k + 8, by omega, if_pos q, hk, by omega, Or.inr (Or.inr (Or.inl rfl))⟩
    · exact Or.inl (if_neg q)
  · by_cases q : 0 < k % 8
    · exact Or.inr ⟨k - 1, by omega, if_pos q, hk, by omega, Or.inr (Or.inl ⟨by omega, by omega⟩)⟩
    · exact Or.inl (if_neg q)
  · by_cases q : 0 < k / 8
    · exact Or.inr ⟨k - 8, by omega, if_pos q, hk, by omega, Or.inr (Or.inr (Or.inr (by omega)))⟩
    · exact Or.inl (if_neg q)
set_option maxRecDepth 20000 in
theorem C_X6_neighbour {G : GW} {h : PH} {Q : RS → PH → Prop} {k d : Nat} (hk : k < 64) (hd : d < 4) (hq : Q (.inl (some (pv_I (nb_ k d)))) h) : VV G 0 0 0 yX6_neighbour cX6_neighbour 4 (some .int) [] 0 (vv_en 4 [pv_I (nI k), pv_I (nI d)]) [] h Q := by
  show VV G 0 0 0 yX6_neighbour cX6_neighbour 4 (some .int) [] 0 [some (pv_I (nI k)), some (pv_I (nI d)), none, none] [] h Q
  refine v_iload_n 1 dX6_neighbour_0 rfl rfl ?_
  refine v_bipushv (v := 8) 3 dX6_neighbour_1 (by decide) rfl ?_
  refine v_idiv 4 dX6_neighbour_3 (by decide) rfl ?_
  rw [show nI k / 8 = nI (k / 8) from pk_div (d := 8) (by omega) (by decide) (by decide)]
  refine v_istore_n 5 dX6_neighbour_4 (by decide) rfl rfl ?_
  dsimp only [List.set]
  refine v_iload_n 6 dX6_neighbour_5 rfl rfl ?_
  refine v_bipushv (v := 8) 8 dX6_neighbour_6 (by decide) rfl ?_
  refine v_irem 9 dX6_neighbour_8 (by decide) rfl ?_
  rw [show nI k - nI k / 8 * 8 = nI (k % 8) from pk_rem (d := 8) (by omega) (by decide) (by decide)]
  refine v_istore_n 10 dX6_neighbour_9 (by decide) rfl rfl ?_
  dsimp only [List.set]
  refine v_iload_n 11 dX6_neighbour_10 rfl rfl ?_
  have e : d = 0 ∨ d = 1 ∨ d = 2 ∨ d = 3 := by omega
  rcases e with rfl | rfl | rfl | rfl
  · refine v_tblIn 36 dX6_neighbour_11 (by decide) (by decide) rfl (by decide) ?_
    refine v_iload_n 37 dX6_neighbour_36 rfl rfl ?_
    refine v_bipushv (v := 7) 39 dX6_neighbour_37 (by decide) rfl ?_
    refine v_icmp_ge 48 42 dX6_neighbour_39 (by decide) rfl (fun c39 => ?_) (fun c39 => ?_)
    · have q : ¬ k % 8 < 7 := fun q => absurd c39 (nI_ge (b := 7) q (by decide))
      rw [show nb_ k 0 = -1 from if_neg q] at hq
      refine v_iconstv (v := -1) 49 dX6_neighbour_48 (by decide) rfl ?_
      refine v_ireturn dX6_neighbour_49 rfl ?_
      exact hq
    · have q : k % 8 < 7 := Nat.lt_of_not_le (fun q => c39 (nI_le (a := 7) q (by omega)))
      rw [show nb_ k 0 = nI (k + 1) from if_pos q] at hq
      refine v_iload_n 43 dX6_neighbour_42 rfl rfl ?_
      refine v_iconstv (v := 1) 44 dX6_neighbour_43 (by decide) rfl ?_
      refine v_iadd 45 dX6_neighbour_44 rfl ?_
      rw [nI_1]
      refine v_goto 49 dX6_neighbour_45 (by decide) ?_
      refine v_ireturn dX6_neighbour_49 rfl ?_
      exact hq
  · refine v_tblIn 50 dX6_neighbour_11 (by decide) (by decide) rfl (by decide) ?_
    refine v_iload_n 51 dX6_neighbour_50 rfl rfl ?_
    refine v_bipushv (v := 7) 53 dX6_neighbour_51 (by decide) rfl ?_
    refine v_icmp_ge 63 56 dX6_neighbour_53 (by decide) rfl (fun c53 => ?_) (fun c53 => ?_)
    · have q : ¬ k / 8 < 7 := fun q => absurd c53 (nI_ge (b := 7) q (by decide))
      rw [show nb_ k 1 = -1 from if_neg q] at hq
      refine v_iconstv (v := -1) 64 dX6_neighbour_63 (by decide) rfl ?_
      refine v_ireturn dX6_neighbour_64 rfl ?_
      exact hq
    · have q : k / 8 < 7 := Nat.lt_of_not_le (fun q => c53 (nI_le (a := 7) q (by omega)))
      rw [show nb_ k 1 = nI (k + 8) from if_pos q] at hq
      refine v_iload_n 57 dX6_neighbour_56 rfl rfl ?_
      refine v_bipushv (v := 8) 59 dX6_neighbour_57 (by decide) rfl ?_
      refine v_iadd 60 dX6_neighbour_59 rfl ?_
      rw [show nI k + 8 = nI (k + 8) from nI_add k 8]
      refine v_goto 64 dX6_neighbour_60 (by decide) ?_
      refine v_ireturn dX6_neighbour_64 rfl ?_
      exact hq
  · refine v_tblIn 65 dX6_neighbour_11 (by decide) (by decide) rfl (by decide) ?_
    refine v_iload_n 66 dX6_neighbour_65 rfl rfl ?_
    refine v_if_le 75 69 dX6_neighbour_66 (by decide) rfl (fun c66 => ?_) (fun c66 => ?_)
    · have q : ¬ 0 < (k % 8) := fun q => absurd c66 (Int32.not_le.mpr (nI_lt (a := 0) q (by omega)))
      rw [show nb_ k 2 = -1 from if_neg q] at hq
      refine v_iconstv (v := -1) 76 dX6_neighbour_75 (by decide) rfl ?_
      refine v_ireturn dX6_neighbour_76 rfl ?_
      exact hq
    · have q : 0 < (k % 8) := Nat.pos_of_ne_zero (fun q => c66 (by rw [q]; decide))
      rw [show nb_ k 2 = nI (k - 1) from if_pos q] at hq
      refine v_iload_n 70 dX6_neighbour_69 rfl rfl ?_
      refine v_iconstv (v := 1) 71 dX6_neighbour_70 (by decide) rfl ?_
      refine v_isub 72 dX6_neighbour_71 rfl ?_
      rw [show nI k - 1 = nI (k - 1) from pk_sub (a := k) (b := 1) (by omega)]
      refine v_goto 76 dX6_neighbour_72 (by decide) ?_
      refine v_ireturn dX6_neighbour_76 rfl ?_
      exact hq
  · refine v_tblOut 77 dX6_neighbour_11 (Or.inr (by decide)) (by decide) ?_
    refine v_iload_n 78 dX6_neighbour_77 rfl rfl ?_
    refine v_if_le 88 81 dX6_neighbour_78 (by decide) rfl (fun c78 => ?_) (fun c78 => ?_)
    · have q : ¬ 0 < (k / 8) := fun q => absurd c78 (Int32.not_le.mpr (nI_lt (a := 0) q (by omega)))
      rw [show nb_ k 3 = -1 from if_neg q] at hq
      refine v_iconstv (v := -1) 89 dX6_neighbour_88 (by decide) rfl ?_
      refine v_ireturn dX6_neighbour_89 rfl ?_
      exact hq
    · have q : 0 < (k / 8) := Nat.pos_of_ne_zero (fun q => c78 (by rw [q]; decide))
      rw [show nb_ k 3 = nI (k - 8) from if_pos q] at hq
      refine v_iload_n 82 dX6_neighbour_81 rfl rfl ?_
      refine v_bipushv (v := 8) 84 dX6_neighbour_82 (by decide) rfl ?_
      refine v_isub 85 dX6_neighbour_84 rfl ?_
      rw [show nI k - 8 = nI (k - 8) from pk_sub (a := k) (b := 8) (by omega)]
      refine v_goto 89 dX6_neighbour_85 (by decide) ?_
      refine v_ireturn dX6_neighbour_89 rfl ?_
      exact hq
/-- the figure of a copy's leaf at a place -/
def fg_ (S : SP) (p : Nat) (c : Int32) (k : Nat) : Int32 := s_f S (hp_vr S.1 48 p 0).2 (s_lo S p c k)
def ed_ (S : SP) (p : Nat) (c : Int32) (k d : Nat) : Int32 := if nb_ k d < 0 then 0 else if hp_vi S.1 63 p k = hp_vi S.1 63 p (cl_ (nb_ k d)) then 0 else ab_ (fg_ S p c k - fg_ S p c (cl_ (nb_ k d)))
def cs_ (S : SP) (p : Nat) (c : Int32) : Nat → Int32
  | 0 => 0
  | k + 1 => cs_ S p c k + ed_ S p c k 0 + ed_ S p c k 1
def op_contrast (S : SP) (x c : Int32) : Nat × Int32 := if ok_i x (nn_ S 3) then (if ok_c_ S (cl_ x) c then (0, cs_ S (cl_ x) c 64) else (2, 0)) else (1, 0)
/-- a copy's leaf is a leaf -/
theorem lo_ok {S : SP} {p k : Nat} {c : Int32} (hf : ∃ w : Nat, hp_vi S.1 63 p k = nI w ∧ w < 8) (hc : 0 ≤ c ∧ c < hp_vi S.1 48 p 2) (J : i_pk S 48 p 2) (h24 : s_n S (hp_vr S.1 48 p 0).2 ≤ 24) : ok_i (s_lo S p c k) (s_n S (hp_vr S.1 48 p 0).2) := by
  obtain ⟨-, -, -, a, m, e1, e2, e3, e4, e5⟩ := J
  obtain ⟨w, ew, hw⟩ := hf
  rw [e2] at hc
  obtain ⟨j, hj, rfl⟩ := ok_i.nat (n := m) hc (by omega)
  unfold s_lo
  rw [e1, e2, ew, nI_add, show rm_ (nI (w + j)) (nI m) = nI ((w + j) % m) from pk_rem (by omega) (by omega) (by omega), nI_add]
  have := Nat.mod_lt (w + j) (show 0 < m by omega)
  exact ok_i.of (by omega) (by omega)
set_option maxRecDepth 20000 in
theorem C_X6_edgeContrast {G : GW} {h : PH} {Q : RS → PH → Prop} {S : SP} {N : Nat} (R : Rp1 S h) (I : Iv S N) {p k d : Nat} {c : Int32} (hp : p < nn_ S 3) (hk : k < 64) (hd : d < 4) (hc : ok_c_ S p c) (hq : Q (.inl (some (pv_I (ed_ S p c k d)))) h) : VV G 2 0 0 yX6_edgeContrast cX6_edgeContrast 7 (some .int) [] 0 (vv_en 7 [pv_O (14, p), pv_O (18, p), pv_I c, pv_I (nI k), pv_I (nb_ k d)]) [] h Q := by
  show VV G 2 0 0 yX6_edgeContrast cX6_edgeContrast 7 (some .int) [] 0 [some (pv_O (14, p)), some (pv_O (18, p)), some (pv_I c), some (pv_I (nI k)), some (pv_I (nb_ k d)), none, none] [] h Q
  obtain ⟨R0, RL, R1, R2, R3, R4, R5⟩ := id R
  have F := R4.1 p hp
  obtain ⟨I0, I1, I2, I3, I4⟩ := I.2.2.2.2.1 p hp
  have J := (I.pa hp hc.1).2
  have E := F.2.2.2.2.2.2 hc.1
  have F2 := R2.1 _ J.2.2.1
  have h24 := I.n24 J.2.2.1
  unfold ed_ at hq
  refine v_iload 2 dX6_edgeContrast_0 rfl rfl ?_
  refine v_if_lt 19 5 dX6_edgeContrast_2 (by decide) rfl (fun c2 => ?_) (fun c2 => ?_)
  · rw [if_pos c2] at hq
    refine v_iconstv (v := 0) 20 dX6_edgeContrast_19 (by decide) rfl ?_
    refine v_ireturn dX6_edgeContrast_20 rfl ?_
    exact hq
  · rw [if_neg c2] at hq
    obtain ⟨j, hj, ej, -⟩ := (nb_in hk hd).resolve_left (fun q => c2 (by rw [q]; decide))
    have ecj : cl_ (nb_ k d) = j := by unfold cl_; rw [ej, nI_clamp (by omega)]
    rw [ecj] at hq
    rw [ej]
    refine v_aload_n 6 dX6_edgeContrast_5 rfl rfl ?_
    refine v_iload_n 7 dX6_edgeContrast_6 rfl rfl ?_
    refine v_invv (d' := 0) (k' := 0) (n' := 0) (k2 := 0) (n2 := 0) 10 [_] dX6_edgeContrast_7 mt_X6_255 mi_X5_fieldOf me_X5_fieldOf (by first | assumption | rfl) (by rfl) rfl rfl (of_decide_eq_true rfl) rfl (by decide) rfl rfl rfl rfl (C_X5_fieldOf F hk ?_)
    refine v_aload_n 11 dX6_edgeContrast_10 rfl rfl ?_
    refine v_iload 13 dX6_edgeContrast_11 rfl rfl ?_
    refine v_invv (d' := 0) (k' := 0) (n' := 0) (k2 := 0) (n2 := 0) 16 [_] dX6_edgeContrast_13 mt_X6_255 mi_X5_fieldOf me_X5_fieldOf (by first | assumption | rfl) (by rfl) rfl rfl (of_decide_eq_true rfl) rfl (by decide) rfl rfl rfl rfl (C_X5_fieldOf F hj ?_)
    refine v_icmp_ne 21 19 dX6_edgeContrast_16 (by decide) rfl (fun c16 => ?_) (fun c16 => ?_)
    · rw [if_neg c16] at hq
      refine v_aload_n 22 dX6_edgeContrast_21 rfl rfl ?_
      refine v_getfr 25 dX6_edgeContrast_22 fl_X6_366 (by first | assumption | rfl) (by rfl) rfl ?_
      rw [E.2.1]
      refine v_aload_n 26 dX6_edgeContrast_25 rfl rfl ?_
      refine v_aload_n 27 dX6_edgeContrast_26 rfl rfl ?_
      refine v_iload_n 28 dX6_edgeContrast_27 rfl rfl ?_
      refine v_invv (d' := 0) (k' := 0) (n' := 0) (k2 := 0) (n2 := 0) 31 [_] dX6_edgeContrast_28 mt_X6_255 mi_X5_fieldOf me_X5_fieldOf (by first | assumption | rfl) (by rfl) rfl rfl (of_decide_eq_true rfl) rfl (by decide) rfl rfl rfl rfl (C_X5_fieldOf F hk ?_)
      refine v_iload_n 32 dX6_edgeContrast_31 rfl rfl ?_
      refine v_invv (d' := 0) (k' := 0) (n' := 0) (k2 := 0) (n2 := 0) 35 [_, _] dX6_edgeContrast_32 mt_X6_277 mi_X3_leafFor me_X3_leafFor (by first | assumption | rfl) (by rfl) rfl rfl (of_decide_eq_true rfl) rfl (by decide) rfl rfl rfl rfl (C_X3_leafFor rfl (by rw [E.2.2.2]; obtain ⟨-, -, -, a9, m9, u1, u2, u3, u4, -⟩ := J; rw [u2]; exact nI_lt (a := 0) (by omega) (by omega)) ?_)
      rw [show hp_vi h 18 p 1 + rm_ (hp_vi S.1 63 p k + c) (hp_vi h 18 p 2) = s_lo S p c k from by rw [E.2.2.1, E.2.2.2]; rfl]
      refine v_invv (d' := 1) (k' := 0) (n' := 0) (k2 := 0) (n2 := 0) 38 [_] dX6_edgeContrast_35 mt_X6_99 mi_X0_figureOf me_X0_figureOf (by first | assumption | rfl) (by rfl) rfl rfl (of_decide_eq_true rfl) rfl (by decide) rfl rfl rfl rfl (C_X0_figureOf F2 h24 ?_)
      rw [if_pos (lo_ok (I2 k hk) hc.2 J h24)]
      refine v_istore 40 dX6_edgeContrast_38 (by decide) rfl rfl ?_
      dsimp only [List.set]
      refine v_aload_n 41 dX6_edgeContrast_40 rfl rfl ?_
      refine v_getfr 44 dX6_edgeContrast_41 fl_X6_366 (by first | assumption | rfl) (by rfl) rfl ?_
      rw [E.2.1]
      refine v_aload_n 45 dX6_edgeContrast_44 rfl rfl ?_
      refine v_aload_n 46 dX6_edgeContrast_45 rfl rfl ?_
      refine v_iload 48 dX6_edgeContrast_46 rfl rfl ?_
      refine v_invv (d' := 0) (k' := 0) (n' := 0) (k2 := 0) (n2 := 0) 51 [_] dX6_edgeContrast_48 mt_X6_255 mi_X5_fieldOf me_X5_fieldOf (by first | assumption | rfl) (by rfl) rfl rfl (of_decide_eq_true rfl) rfl (by decide) rfl rfl rfl rfl (C_X5_fieldOf F hj ?_)
      refine v_iload_n 52 dX6_edgeContrast_51 rfl rfl ?_
      refine v_invv (d' := 0) (k' := 0) (n' := 0) (k2 := 0) (n2 := 0) 55 [_, _] dX6_edgeContrast_52 mt_X6_277 mi_X3_leafFor me_X3_leafFor (by first | assumption | rfl) (by rfl) rfl rfl (of_decide_eq_true rfl) rfl (by decide) rfl rfl rfl rfl (C_X3_leafFor rfl (by rw [E.2.2.2]; obtain ⟨-, -, -, a9, m9, u1, u2, u3, u4, -⟩ := J; rw [u2]; exact nI_lt (a := 0) (by omega) (by omega)) ?_)
      rw [show hp_vi h 18 p 1 + rm_ (hp_vi S.1 63 p j + c) (hp_vi h 18 p 2) = s_lo S p c j from by rw [E.2.2.1, E.2.2.2]; rfl]
      refine v_invv (d' := 1) (k' := 0) (n' := 0) (k2 := 0) (n2 := 0) 58 [_] dX6_edgeContrast_55 mt_X6_99 mi_X0_figureOf me_X0_figureOf (by first | assumption | rfl) (by rfl) rfl rfl (of_decide_eq_true rfl) rfl (by decide) rfl rfl rfl rfl (C_X0_figureOf F2 h24 ?_)
      rw [if_pos (lo_ok (I2 j hj) hc.2 J h24)]
      refine v_istore 60 dX6_edgeContrast_58 (by decide) rfl rfl ?_
      dsimp only [List.set]
      refine v_iload 62 dX6_edgeContrast_60 rfl rfl ?_
      refine v_iload 64 dX6_edgeContrast_62 rfl rfl ?_
      refine v_isub 65 dX6_edgeContrast_64 rfl ?_
      refine v_abs 68 dX6_edgeContrast_65 ma_X6_363 ma_s_abs ma_i rfl (by decide) rfl ?_
      refine v_ireturn dX6_edgeContrast_68 rfl ?_
      exact hq
    · rw [if_pos c16] at hq
      refine v_iconstv (v := 0) 20 dX6_edgeContrast_19 (by decide) rfl ?_
      refine v_ireturn dX6_edgeContrast_20 rfl ?_
      exact hq
set_option maxRecDepth 20000 in
theorem L_X6_contrast {G : GW} {h : PH} {Q : RS → PH → Prop} {S : SP} {N : Nat} (R : Rp1 S h) (I : Iv S N) {p : Nat} {x c : Int32} (hp : p < nn_ S 3) (hc : ok_c_ S p c) (hq : Q (.inl (some (pv_I (cs_ S p c 64)))) h) : ∀ fuel : Nat, ∀ (k : Nat), k ≤ 64 → 64 - k < fuel → VV G 3 0 0 yX6_contrast cX6_contrast 7 (some .int) [] 19 [some (pv_O (10, 0)), some (pv_I x), some (pv_I c), some (pv_O (14, p)), some (pv_O (18, p)), some (pv_I (cs_ S p c k)), some (pv_I (nI k))] [] h Q := by
  intro fuel
  induction fuel with
  | zero =>
    intro k h1 h2
    omega
  | succ fuel ih =>
    intro k h1 h2
    refine v_iload 21 dX6_contrast_19 rfl rfl ?_
    refine v_bipushv (v := 64) 23 dX6_contrast_21 (by decide) rfl ?_
    refine v_icmp_ge 72 26 dX6_contrast_23 (by decide) rfl (fun c23 => ?_) (fun c23 => ?_)
    · have hkm : k = 64 := by
        rcases Nat.lt_or_ge k 64 with q | q
        · exact absurd c23 (nI_ge (b := 64) q (by omega))
        · omega
      subst hkm
      refine v_iload 74 dX6_contrast_72 rfl rfl ?_
      refine v_ireturn dX6_contrast_74 rfl ?_
      exact hq
    · have hkm : k < 64 := by
        rcases Nat.lt_or_ge k 64 with q | q
        · exact q
        · exact absurd (nI_le (a := 64) q (by omega)) c23
      refine v_iload 28 dX6_contrast_26 rfl rfl ?_
      refine v_aload_n 29 dX6_contrast_28 rfl rfl ?_
      refine v_aload 31 dX6_contrast_29 rfl rfl ?_
      refine v_iload_n 32 dX6_contrast_31 rfl rfl ?_
      refine v_iload 34 dX6_contrast_32 rfl rfl ?_
      refine v_iload 36 dX6_contrast_34 rfl rfl ?_
      refine v_iconstv (v := 0) 37 dX6_contrast_36 (by decide) rfl ?_
      refine v_invs (d' := 0) (k' := 0) (n' := 0) (k2 := 0) (n2 := 0) 40 [_, _] dX6_contrast_37 mt_X6_280 ms_X6_neighbour rfl rfl (of_decide_eq_true rfl) rfl (by decide) rfl rfl rfl rfl (C_X6_neighbour (d := 0) hkm (by decide) ?_)
      refine v_invs (d' := 2) (k' := 0) (n' := 0) (k2 := 0) (n2 := 0) 43 [_, _, _, _, _] dX6_contrast_40 mt_X6_283 ms_X6_edgeContrast rfl rfl (of_decide_eq_true rfl) rfl (by decide) rfl rfl rfl rfl (C_X6_edgeContrast R I hp hkm (d := 0) (by decide) hc ?_)
      refine v_iadd 44 dX6_contrast_43 rfl ?_
      refine v_istore 46 dX6_contrast_44 (by decide) rfl rfl ?_
      dsimp only [List.set]
      refine v_iload 48 dX6_contrast_46 rfl rfl ?_
      refine v_aload_n 49 dX6_contrast_48 rfl rfl ?_
      refine v_aload 51 dX6_contrast_49 rfl rfl ?_
      refine v_iload_n 52 dX6_contrast_51 rfl rfl ?_
      refine v_iload 54 dX6_contrast_52 rfl rfl ?_
      refine v_iload 56 dX6_contrast_54 rfl rfl ?_
      refine v_iconstv (v := 1) 57 dX6_contrast_56 (by decide) rfl ?_
      refine v_invs (d' := 0) (k' := 0) (n' := 0) (k2 := 0) (n2 := 0) 60 [_, _] dX6_contrast_57 mt_X6_280 ms_X6_neighbour rfl rfl (of_decide_eq_true rfl) rfl (by decide) rfl rfl rfl rfl (C_X6_neighbour (d := 1) hkm (by decide) ?_)
      refine v_invs (d' := 2) (k' := 0) (n' := 0) (k2 := 0) (n2 := 0) 63 [_, _, _, _, _] dX6_contrast_60 mt_X6_283 ms_X6_edgeContrast rfl rfl (of_decide_eq_true rfl) rfl (by decide) rfl rfl rfl rfl (C_X6_edgeContrast R I hp hkm (d := 1) (by decide) hc ?_)
      refine v_iadd 64 dX6_contrast_63 rfl ?_
      refine v_istore 66 dX6_contrast_64 (by decide) rfl rfl ?_
      dsimp only [List.set]
      refine v_iinc 69 dX6_contrast_66 rfl (by decide) rfl rfl ?_
      dsimp only [List.set]
      refine v_goto 19 dX6_contrast_69 (by decide) ?_
      rw [show nI k + Int32.ofInt 1 = nI (k + 1) from nI_1 k]
      exact ih (k + 1) (by omega) (by omega)
set_option maxRecDepth 20000 in
theorem C_X6_contrast {G : GW} {h : PH} {Q : RS → PH → Prop} {S : SP} {N : Nat} (R : Rp1 S h) (I : Iv S N) {x c : Int32} (hq : Q (an_ "java/lang/IndexOutOfBoundsException" "java/util/NoSuchElementException" "" (op_contrast S x c)) h) : VV G 7 2 12 yX6_contrast cX6_contrast 7 (some .int) [] 0 (vv_en 7 [pv_O (10, 0), pv_I x, pv_I c]) [] h Q := by
  show VV G 7 2 12 yX6_contrast cX6_contrast 7 (some .int) [] 0 [some (pv_O (10, 0)), some (pv_I x), some (pv_I c), none, none, none, none] [] h Q
  obtain ⟨R0, RL, R1, R2, R3, R4, R5⟩ := id R
  obtain ⟨z0, z1, z2, z3, z4, z5⟩ := I.cs
  unfold op_contrast at hq
  refine v_aload_n 1 dX6_contrast_0 rfl rfl ?_
  refine v_iload_n 2 dX6_contrast_1 rfl rfl ?_
  refine v_invv (d' := 6) (k' := 1) (n' := 6) (k2 := 1) (n2 := 6) 5 [_] dX6_contrast_2 mt_X6_229 mi_X6_pictureOf me_X6_pictureOf (by first | assumption | rfl) (by rfl) rfl rfl (of_decide_eq_true rfl) rfl (by decide) rfl rfl rfl rfl (C_X6_pictureOf R0 RL (fun e => ?_) (fun ho => ?_))
  · rw [if_neg e] at hq
    exact vv_out hq
  rw [if_pos ho] at hq
  have hc := ho.cl (by omega)
  have F := R4.1 _ hc.1
  refine v_astore_n 6 dX6_contrast_5 (by decide) rfl rfl ?_
  dsimp only [List.set]
  refine v_aload_n 7 dX6_contrast_6 rfl rfl ?_
  refine v_iload_n 8 dX6_contrast_7 rfl rfl ?_
  refine v_invs (d' := 6) (k' := 1) (n' := 6) (k2 := 0) (n2 := 0) 11 [_, _] dX6_contrast_8 mt_X6_273 ms_X6_packetWithCopy rfl rfl (of_decide_eq_true rfl) rfl (by decide) rfl rfl rfl rfl (C_X6_packetWithCopy F (fun e => ?_) (fun hp => ?_))
  · rw [if_neg e] at hq
    exact vv_out hq
  rw [if_pos hp] at hq
  refine v_astore 13 dX6_contrast_11 (by decide) rfl rfl ?_
  dsimp only [List.set]
  refine v_iconstv (v := 0) 14 dX6_contrast_13 (by decide) rfl ?_
  refine v_istore 16 dX6_contrast_14 (by decide) rfl rfl ?_
  dsimp only [List.set]
  refine v_iconstv (v := 0) 17 dX6_contrast_16 (by decide) rfl ?_
  refine v_istore 19 dX6_contrast_17 (by decide) rfl rfl ?_
  dsimp only [List.set]
  exact VV.less (by decide) (by decide) (by decide) (L_X6_contrast R I hc.1 hp hq 65 0 (Nat.zero_le _) (by omega))
