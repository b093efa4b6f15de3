section VVSP
/-- small sums, as the code has them -/
abbrev mx (x z : Int32) : Int32 := if x < z then z else x
abbrev mn (x z : Int32) : Int32 := if z < x then z else x
abbrev ab_ (x : Int32) : Int32 := if 0 ≤ x then x else 0 - x
abbrev rm_ (x z : Int32) : Int32 := x - x / z * z
/-- the greatest n up to a bound whose square is not above x -/
def rq_ : Nat → Nat → Nat
  | 0, _ => 0
  | n + 1, x => if (n + 1) * (n + 1) ≤ x then n + 1 else rq_ n x
def sq_ (x : Int32) : Int32 := nI (rq_ 600 x.toNatClampNeg)
/-- where a sign stands first in a row of signs -/
def ixf_ (c : Int32) : List Nat → Nat → Int32
  | [], _ => -1
  | a :: t, k => if nI a = c then nI k else ixf_ c t (k + 1)
theorem ixf_is {c : Int32} : ∀ (L : List Nat) (k0 : Nat) (r : Int32), ((∃ k, k < L.length ∧ nI (L.getD k 0) = c ∧ (∀ j, j < k → nI (L.getD j 0) ≠ c) ∧ r = nI (k0 + k)) ∨ ((∀ k, k < L.length → nI (L.getD k 0) ≠ c) ∧ r = -1)) → r = ixf_ c L k0
  | [], k0, r, h => by
    rcases h with ⟨k, h, -⟩ | ⟨-, h⟩
    · exact absurd h (Nat.not_lt_zero k)
    · exact h
  | a :: t, k0, r, h => by
    unfold ixf_
    by_cases e : nI a = c
    · rw [if_pos e]
      rcases h with ⟨k, h1, h2, h3, h4⟩ | ⟨h1, h2⟩
      · rcases Nat.eq_zero_or_pos k with q | q
        · rw [h4, q]; rfl
        · exact absurd e (h3 0 q)
      · exact absurd e (h1 0 (Nat.succ_pos _))
    · rw [if_neg e]
      refine ixf_is t (k0 + 1) r ?_
      rcases h with ⟨k, h1, h2, h3, h4⟩ | ⟨h1, h2⟩
      · rcases k with _ | k
        · exact absurd h2 e
        · exact Or.inl ⟨k, Nat.lt_of_succ_lt_succ h1, h2, fun j hj => h3 (j + 1) (Nat.succ_lt_succ hj), by rw [h4]; exact congrArg nI (by omega)⟩
      · exact Or.inr ⟨fun k hk => h1 (k + 1) (Nat.succ_lt_succ hk), h2⟩
theorem ix_is.ixf {L : List Nat} {c r : Int32} (h : ix_is L c r) : r = ixf_ c L 0 := by
  refine ixf_is L 0 r ?_
  rcases h with ⟨k, h1, h2, h3, h4⟩ | h
  · exact Or.inl ⟨k, h1, h2, h3, by rw [Nat.zero_add]; exact h4⟩
  · exact Or.inr h
abbrev tx_w : List Nat := [119, 109, 111, 104]
abbrev tx_f : List Nat := [112, 99, 98]
abbrev tx_y : List Nat := [102, 113, 114, 115]
abbrev tx_c : List Nat := [115, 99, 98]
abbrev tx_m : List Nat := [98, 115, 114]
abbrev tx_a : List Nat := [102, 98, 112, 111, 114, 119, 108]
/-- a leaf's width, figure; how many leaves -/
def pw_c (way dia dp : Int32) : Int32 :=
  if way = 102 then 2 * sq_ (dia / 2 * (dia / 2) - (dia / 2 / 2 - dp) * (dia / 2 / 2 - dp))
  else if way = 113 then dia / 2 - 20 else if way = 114 then (dia / 2 - 20) * 4 / 5 else 3 * dia - 6 * dp
def pw_w (way dia thk l : Int32) : Int32 := pw_c way dia (l * thk / 10)
def pw_g (way wd form l : Int32) : Int32 := if way = 102 then 15 - rm_ l 8 else if way = 113 then (if wd = 2 then 30 else 10) - ab_ (l - 12) / 2 else if way = 114 then 5 else 20 + (if form = 98 then 30 else 0) - l / 2
def pw_b (form : Int32) : Int32 := if form = 112 then 10 else if form = 99 then 40 else 60
def pw_f (way wd form l : Int32) : Int32 := mx 0 (mn 99 (pw_b form + pw_g way wd form l))
def pw_n (way dia thk : Int32) : Int32 := if way = 102 then 10 * (dia / 2 / 2) / thk + 1 else 10 * (dia / 2) / thk
/-- a wood's sign and its swelling -/
def wd_c (wd : Int32) : Int32 := if wd = 0 then 119 else if wd = 1 then 109 else if wd = 2 then 111 else 104
def wd_s (wd : Int32) : Int32 := if wd = 0 then 6 else if wd = 1 then 8 else if wd = 2 then 9 else 4
def co_m (core : Int32) : Int32 := if core = 115 then 1 else if core = 99 then 3 else 2
/-- the state: the reference's things, counts, the offcuts' names -/
abbrev SP : Type := PH × (Nat → Nat) × (Nat → Nat)
abbrev s_lg (S : SP) (f : Nat) : Nat := (hp_vr S.1 42 f 0).2
abbrev s_n (S : SP) (f : Nat) : Nat := hp_ln S.1 62 f
def s_w (S : SP) (f : Nat) (l : Int32) : Int32 := pw_w (hp_vi S.1 42 f 1) (hp_vi S.1 41 (s_lg S f) 1) (hp_vi S.1 42 f 2) l
def s_a (S : SP) (f : Nat) (l : Int32) : Int32 := s_w S f l * hp_vi S.1 41 (s_lg S f) 2
def s_f (S : SP) (f : Nat) (l : Int32) : Int32 := pw_f (hp_vi S.1 42 f 1) (hp_vi S.1 41 (s_lg S f) 0) (hp_vi S.1 41 (s_lg S f) 3) l
/-- how many of the first leaves are used -/
def s_uc (S : SP) (f : Nat) : Nat → Nat
  | 0 => 0
  | l + 1 => s_uc S f l + (if hp_vi S.1 62 f l = 0 then 0 else 1)
abbrev ok_i (x : Int32) (n : Nat) : Prop := 0 ≤ x ∧ x < nI n
abbrev cl_ (x : Int32) : Nat := x.toNatClampNeg
theorem nz_if {p : Prop} [Decidable p] : narrow .boolean (.int (if p then 1 else 0)) = .int (if p then 1 else 0) := by split <;> rfl
theorem nz_fi {p : Prop} [Decidable p] : narrow .boolean (.int (if p then 0 else 1)) = .int (if p then 0 else 1) := by split <;> rfl
theorem f1_0 {p : Prop} [Decidable p] : ((if p then (1 : Int32) else 0) = 0) ↔ ¬ p := by by_cases h : p <;> simp [h]
theorem f0_0 {p : Prop} [Decidable p] : ((if p then (0 : Int32) else 1) = 0) ↔ p := by by_cases h : p <;> simp [h]
end VVSP

theorem C_ixf {G : GW} {h : PH} {Q : RS → PH → Prop} {i0 : Nat} (hi0 : i0 < 11) {c : Int32} (hc0 : 0 ≤ c) (hq : Q (.inl (some (pv_I (ixf_ c (g_txt.getD i0 []) 0)))) h) : VV G 3 0 0 yJ0_indexOf_0f7a4 cJ0_indexOf_0f7a4 2 (some .int) [] 0 (vv_en 2 [pv_O (1, i0), pv_I c]) [] h Q := C_J0_indexOf_0f7a4 hi0 hc0 (fun r hr => vq_i (hr.ixf ▸ hq) rfl)
set_option maxRecDepth 20000 in
theorem C_X6_isIn {G : GW} {h : PH} {Q : RS → PH → Prop} {x lo hi : Int32} (hq : Q (.inl (some (pv_I (if lo ≤ x ∧ x ≤ hi then 1 else 0)))) h) : VV G 0 0 0 yX6_isIn cX6_isIn 3 (some .boolean) [] 0 (vv_en 3 [pv_I x, pv_I lo, pv_I hi]) [] h Q := by
  show VV G 0 0 0 yX6_isIn cX6_isIn 3 (some .boolean) [] 0 [some (pv_I x), some (pv_I lo), some (pv_I hi)] [] h Q
  refine v_iload_n 1 dX6_isIn_0 rfl rfl ?_
  refine v_iload_n 2 dX6_isIn_1 rfl rfl ?_
  refine v_icmp_lt 14 5 dX6_isIn_2 (by decide) rfl (fun c2 => ?_) (fun c2 => ?_)
  · refine v_iconstv (v := 0) 15 dX6_isIn_14 (by decide) rfl ?_
    refine v_zreturn (ty := .boolean) (by first | rfl | decide | exact nz_if | exact nz_fi) dX6_isIn_15 rfl ?_
    refine vq_i hq ?_
    clear hq
    simp only [f1_0, f0_0, Decidable.not_not, Int32.lt_iff_toInt_lt, Int32.le_iff_toInt_le] at *
    repeat' split
    all_goals first | rfl | (exfalso; omega) | (intros; omega) | simp_all
  · refine v_iload_n 6 dX6_isIn_5 rfl rfl ?_
    refine v_iload_n 7 dX6_isIn_6 rfl rfl ?_
    refine v_icmp_gt 14 10 dX6_isIn_7 (by decide) rfl (fun c7 => ?_) (fun c7 => ?_)
    · refine v_iconstv (v := 0) 15 dX6_isIn_14 (by decide) rfl ?_
      refine v_zreturn (ty := .boolean) (by first | rfl | decide | exact nz_if | exact nz_fi) dX6_isIn_15 rfl ?_
      refine vq_i hq ?_
      clear hq
      simp only [f1_0, f0_0, Decidable.not_not, Int32.lt_iff_toInt_lt, Int32.le_iff_toInt_le] at *
      repeat' split
      all_goals first | rfl | (exfalso; omega) | (intros; omega) | simp_all
    · refine v_iconstv (v := 1) 11 dX6_isIn_10 (by decide) rfl ?_
      refine v_goto 15 dX6_isIn_11 (by decide) ?_
      refine v_zreturn (ty := .boolean) (by first | rfl | decide | exact nz_if | exact nz_fi) dX6_isIn_15 rfl ?_
      refine vq_i hq ?_
      clear hq
      simp only [f1_0, f0_0, Decidable.not_not, Int32.lt_iff_toInt_lt, Int32.le_iff_toInt_le] at *
      repeat' split
      all_goals first | rfl | (exfalso; omega) | (intros; omega) | simp_all
set_option maxRecDepth 20000 in
theorem C_X6_within {G : GW} {h : PH} {Q : RS → PH → Prop} {x lo hi : Int32} (hq : Q (.inl (some (pv_I (mx lo (mn hi x))))) h) : VV G 1 0 0 yX6_within cX6_within 3 (some .int) [] 0 (vv_en 3 [pv_I x, pv_I lo, pv_I hi]) [] h Q := by
  show VV G 1 0 0 yX6_within cX6_within 3 (some .int) [] 0 [some (pv_I x), some (pv_I lo), some (pv_I hi)] [] h Q
  refine v_iload_n 1 dX6_within_0 rfl rfl ?_
  refine v_iload_n 2 dX6_within_1 rfl rfl ?_
  refine v_iload_n 3 dX6_within_2 rfl rfl ?_
  refine v_min 6 dX6_within_3 ma_X6_346 ma_s_min ma_i rfl (by decide) rfl ?_
  refine v_max 9 dX6_within_6 ma_X6_203 ma_s_max ma_i rfl (by decide) rfl ?_
  refine v_ireturn dX6_within_9 rfl ?_
  exact hq
set_option maxRecDepth 20000 in
theorem C_X6_isOneOf {G : GW} {h : PH} {Q : RS → PH → Prop} {i0 : Nat} (hi0 : i0 < 11) {c : Int32} (hc0 : 0 ≤ c) (hq : Q (.inl (some (pv_I (if ixf_ c (g_txt.getD i0 []) 0 < 0 then 0 else 1)))) h) : VV G 4 0 0 yX6_isOneOf cX6_isOneOf 2 (some .boolean) [] 0 (vv_en 2 [pv_O (1, i0), pv_I c]) [] h Q := by
  show VV G 4 0 0 yX6_isOneOf cX6_isOneOf 2 (some .boolean) [] 0 [some (pv_O (1, i0)), some (pv_I c)] [] h Q
  refine v_aload_n 1 dX6_isOneOf_0 rfl rfl ?_
  refine v_iload_n 2 dX6_isOneOf_1 rfl rfl ?_
  refine v_invv (d' := 3) (k' := 0) (n' := 0) (k2 := 0) (n2 := 0) 5 [_] dX6_isOneOf_2 mt_X6_349 mi_J0_indexOf_0f7a4 me_J0_indexOf_0f7a4 (by first | assumption | rfl) (by rfl) rfl rfl (of_decide_eq_true rfl) rfl (by decide) rfl rfl rfl rfl (C_ixf hi0 hc0 ?_)
  refine v_if_lt 12 8 dX6_isOneOf_5 (by decide) rfl (fun c5 => ?_) (fun c5 => ?_)
  · refine v_iconstv (v := 0) 13 dX6_isOneOf_12 (by decide) rfl ?_
    refine v_zreturn (ty := .boolean) (by first | rfl | decide | exact nz_if | exact nz_fi) dX6_isOneOf_13 rfl ?_
    refine vq_i hq ?_
    simp_all [Int32.not_lt, Int32.not_le]
  · refine v_iconstv (v := 1) 9 dX6_isOneOf_8 (by decide) rfl ?_
    refine v_goto 13 dX6_isOneOf_9 (by decide) ?_
    refine v_zreturn (ty := .boolean) (by first | rfl | decide | exact nz_if | exact nz_fi) dX6_isOneOf_13 rfl ?_
    refine vq_i hq ?_
    simp_all [Int32.not_lt, Int32.not_le]
set_option maxRecDepth 20000 in
theorem C_X6_isPlace {G : GW} {h : PH} {Q : RS → PH → Prop} {x z : Int32} (hq : Q (.inl (some (pv_I (if (0 ≤ x ∧ x ≤ 7) ∧ (0 ≤ z ∧ z ≤ 7) then 1 else 0)))) h) : VV G 1 0 0 yX6_isPlace cX6_isPlace 2 (some .boolean) [] 0 (vv_en 2 [pv_I x, pv_I z]) [] h Q := by
  show VV G 1 0 0 yX6_isPlace cX6_isPlace 2 (some .boolean) [] 0 [some (pv_I x), some (pv_I z)] [] h Q
  refine v_iload_n 1 dX6_isPlace_0 rfl rfl ?_
  refine v_iconstv (v := 0) 2 dX6_isPlace_1 (by decide) rfl ?_
  refine v_bipushv (v := 7) 4 dX6_isPlace_2 (by decide) rfl ?_
  refine v_invs (d' := 0) (k' := 0) (n' := 0) (k2 := 0) (n2 := 0) 7 [_, _, _] dX6_isPlace_4 mt_X6_40 ms_X6_isIn rfl rfl (of_decide_eq_true rfl) rfl (by decide) rfl rfl rfl rfl (C_X6_isIn ?_)
  refine v_if_eq 24 10 dX6_isPlace_7 (by decide) rfl (fun c7 => ?_) (fun c7 => ?_)
  · refine v_iconstv (v := 0) 25 dX6_isPlace_24 (by decide) rfl ?_
    refine v_zreturn (ty := .boolean) (by first | rfl | decide | exact nz_if | exact nz_fi) dX6_isPlace_25 rfl ?_
    refine vq_i hq ?_
    clear hq
    simp only [f1_0, f0_0, Decidable.not_not, Int32.lt_iff_toInt_lt, Int32.le_iff_toInt_le] at *
    repeat' split
    all_goals first | rfl | (exfalso; omega) | (intros; omega) | simp_all
  · refine v_iload_n 11 dX6_isPlace_10 rfl rfl ?_
    refine v_iconstv (v := 0) 12 dX6_isPlace_11 (by decide) rfl ?_
    refine v_bipushv (v := 7) 14 dX6_isPlace_12 (by decide) rfl ?_
    refine v_invs (d' := 0) (k' := 0) (n' := 0) (k2 := 0) (n2 := 0) 17 [_, _, _] dX6_isPlace_14 mt_X6_40 ms_X6_isIn rfl rfl (of_decide_eq_true rfl) rfl (by decide) rfl rfl rfl rfl (C_X6_isIn ?_)
    refine v_if_eq 24 20 dX6_isPlace_17 (by decide) rfl (fun c17 => ?_) (fun c17 => ?_)
    · refine v_iconstv (v := 0) 25 dX6_isPlace_24 (by decide) rfl ?_
      refine v_zreturn (ty := .boolean) (by first | rfl | decide | exact nz_if | exact nz_fi) dX6_isPlace_25 rfl ?_
      refine vq_i hq ?_
      clear hq
      simp only [f1_0, f0_0, Decidable.not_not, Int32.lt_iff_toInt_lt, Int32.le_iff_toInt_le] at *
      repeat' split
      all_goals first | rfl | (exfalso; omega) | (intros; omega) | simp_all
    · refine v_iconstv (v := 1) 21 dX6_isPlace_20 (by decide) rfl ?_
      refine v_goto 25 dX6_isPlace_21 (by decide) ?_
      refine v_zreturn (ty := .boolean) (by first | rfl | decide | exact nz_if | exact nz_fi) dX6_isPlace_25 rfl ?_
      refine vq_i hq ?_
      clear hq
      simp only [f1_0, f0_0, Decidable.not_not, Int32.lt_iff_toInt_lt, Int32.le_iff_toInt_le] at *
      repeat' split
      all_goals first | rfl | (exfalso; omega) | (intros; omega) | simp_all
set_option maxRecDepth 20000 in
theorem C_X6_isField {G : GW} {h : PH} {Q : RS → PH → Prop} {x : Int32} (hq : Q (.inl (some (pv_I (if 0 ≤ x - 97 ∧ x - 97 ≤ 7 then 1 else 0)))) h) : VV G 1 0 0 yX6_isField cX6_isField 1 (some .boolean) [] 0 (vv_en 1 [pv_I x]) [] h Q := by
  show VV G 1 0 0 yX6_isField cX6_isField 1 (some .boolean) [] 0 [some (pv_I x)] [] h Q
  refine v_iload_n 1 dX6_isField_0 rfl rfl ?_
  refine v_bipushv (v := 97) 3 dX6_isField_1 (by decide) rfl ?_
  refine v_isub 4 dX6_isField_3 rfl ?_
  refine v_iconstv (v := 0) 5 dX6_isField_4 (by decide) rfl ?_
  refine v_bipushv (v := 7) 7 dX6_isField_5 (by decide) rfl ?_
  refine v_invs (d' := 0) (k' := 0) (n' := 0) (k2 := 0) (n2 := 0) 10 [_, _, _] dX6_isField_7 mt_X6_40 ms_X6_isIn rfl rfl (of_decide_eq_true rfl) rfl (by decide) rfl rfl rfl rfl (C_X6_isIn ?_)
  refine v_zreturn (ty := .boolean) (by first | rfl | decide | exact nz_if | exact nz_fi) dX6_isField_10 rfl ?_
  exact hq
set_option maxRecDepth 20000 in
theorem C_X1_radius {G : GW} {h : PH} {Q : RS → PH → Prop} {i : Nat} (hq : Q (.inl (some (pv_I (hp_vi h 11 i 1 / 2)))) h) : VV G 0 0 0 yX1_radius cX1_radius 1 (some .int) [] 0 (vv_en 1 [pv_O (11, i)]) [] h Q := by
  show VV G 0 0 0 yX1_radius cX1_radius 1 (some .int) [] 0 [some (pv_O (11, i))] [] h Q
  refine v_aload_n 1 dX1_radius_0 rfl rfl ?_
  refine v_getfi 4 dX1_radius_1 fl_X1_13 (by first | assumption | rfl) (by rfl) rfl ?_
  refine v_iconstv (v := 2) 5 dX1_radius_4 (by decide) rfl ?_
  refine v_idiv 6 dX1_radius_5 (by decide) rfl ?_
  refine v_ireturn dX1_radius_6 rfl ?_
  exact hq
set_option maxRecDepth 20000 in
theorem C_X1_swelling {G : GW} {h : PH} {Q : RS → PH → Prop} {i : Nat} {wd : Int32} (hw : hp_vi h 11 i 0 = wd_c wd) (hq : Q (.inl (some (pv_I (wd_s wd)))) h) : VV G 0 0 0 yX1_swelling cX1_swelling 1 (some .int) [] 0 (vv_en 1 [pv_O (11, i)]) [] h Q := by
  show VV G 0 0 0 yX1_swelling cX1_swelling 1 (some .int) [] 0 [some (pv_O (11, i))] [] h Q
  rw [show wd_s wd = (if wd_c wd = 119 then 6 else if wd_c wd = 109 then 8 else if wd_c wd = 111 then 9 else 4) from by unfold wd_s wd_c; split <;> first | rfl | (split <;> first | rfl | (split <;> rfl))] at hq
  rw [← hw] at hq
  refine v_aload_n 1 dX1_swelling_0 rfl rfl ?_
  refine v_getfi 4 dX1_swelling_1 fl_X1_7 (by first | assumption | rfl) (by rfl) rfl ?_
  refine v_bipushv (v := 119) 6 dX1_swelling_4 (by decide) rfl ?_
  refine v_icmp_ne 14 9 dX1_swelling_6 (by decide) rfl (fun c6 => ?_) (fun c6 => ?_)
  · refine v_aload_n 15 dX1_swelling_14 rfl rfl ?_
    refine v_getfi 18 dX1_swelling_15 fl_X1_7 (by first | assumption | rfl) (by rfl) rfl ?_
    refine v_bipushv (v := 109) 20 dX1_swelling_18 (by decide) rfl ?_
    refine v_icmp_ne 28 23 dX1_swelling_20 (by decide) rfl (fun c20 => ?_) (fun c20 => ?_)
    · refine v_aload_n 29 dX1_swelling_28 rfl rfl ?_
      refine v_getfi 32 dX1_swelling_29 fl_X1_7 (by first | assumption | rfl) (by rfl) rfl ?_
      refine v_bipushv (v := 111) 34 dX1_swelling_32 (by decide) rfl ?_
      refine v_icmp_ne 42 37 dX1_swelling_34 (by decide) rfl (fun c34 => ?_) (fun c34 => ?_)
      · refine v_iconstv (v := 4) 43 dX1_swelling_42 (by decide) rfl ?_
        refine v_ireturn dX1_swelling_43 rfl ?_
        refine vq_i hq ?_
        simp_all
      · refine v_bipushv (v := 9) 39 dX1_swelling_37 (by decide) rfl ?_
        refine v_goto 43 dX1_swelling_39 (by decide) ?_
        refine v_ireturn dX1_swelling_43 rfl ?_
        refine vq_i hq ?_
        simp_all
    · refine v_bipushv (v := 8) 25 dX1_swelling_23 (by decide) rfl ?_
      refine v_goto 43 dX1_swelling_25 (by decide) ?_
      refine v_ireturn dX1_swelling_43 rfl ?_
      refine vq_i hq ?_
      simp_all
  · refine v_bipushv (v := 6) 11 dX1_swelling_9 (by decide) rfl ?_
    refine v_goto 43 dX1_swelling_11 (by decide) ?_
    refine v_ireturn dX1_swelling_43 rfl ?_
    refine vq_i hq ?_
    simp_all
set_option maxRecDepth 20000 in
theorem C_X0_formFigure {G : GW} {h : PH} {Q : RS → PH → Prop} {x : Int32} (hq : Q (.inl (some (pv_I (pw_b x)))) h) : VV G 0 0 0 yX0_formFigure cX0_formFigure 1 (some .int) [] 0 (vv_en 1 [pv_I x]) [] h Q := by
  show VV G 0 0 0 yX0_formFigure cX0_formFigure 1 (some .int) [] 0 [some (pv_I x)] [] h Q
  refine v_iload_n 1 dX0_formFigure_0 rfl rfl ?_
  refine v_bipushv (v := 112) 3 dX0_formFigure_1 (by decide) rfl ?_
  refine v_icmp_ne 11 6 dX0_formFigure_3 (by decide) rfl (fun c3 => ?_) (fun c3 => ?_)
  · refine v_iload_n 12 dX0_formFigure_11 rfl rfl ?_
    refine v_bipushv (v := 99) 14 dX0_formFigure_12 (by decide) rfl ?_
    refine v_icmp_ne 22 17 dX0_formFigure_14 (by decide) rfl (fun c14 => ?_) (fun c14 => ?_)
    · refine v_bipushv (v := 60) 24 dX0_formFigure_22 (by decide) rfl ?_
      refine v_ireturn dX0_formFigure_24 rfl ?_
      refine vq_i hq ?_
      unfold pw_b
      simp_all
    · refine v_bipushv (v := 40) 19 dX0_formFigure_17 (by decide) rfl ?_
      refine v_goto 24 dX0_formFigure_19 (by decide) ?_
      refine v_ireturn dX0_formFigure_24 rfl ?_
      refine vq_i hq ?_
      unfold pw_b
      simp_all
  · refine v_bipushv (v := 10) 8 dX0_formFigure_6 (by decide) rfl ?_
    refine v_goto 24 dX0_formFigure_8 (by decide) ?_
    refine v_ireturn dX0_formFigure_24 rfl ?_
    refine vq_i hq ?_
    unfold pw_b
    simp_all
set_option maxRecDepth 20000 in
theorem C_X0_countLeaves {G : GW} {h : PH} {Q : RS → PH → Prop} {r way t : Int32} (ht : 0 < t) (hq : Q (.inl (some (pv_I (mx 0 (mn 24 (if way = 102 then 10 * (r / 2) / t + 1 else 10 * r / t)))))) h) : VV G 2 0 0 yX0_countLeaves cX0_countLeaves 4 (some .int) [] 0 (vv_en 4 [pv_I r, pv_I way, pv_I t]) [] h Q := by
  show VV G 2 0 0 yX0_countLeaves cX0_countLeaves 4 (some .int) [] 0 [some (pv_I r), some (pv_I way), some (pv_I t), none] [] h Q
  refine v_iload_n 1 dX0_countLeaves_0 rfl rfl ?_
  refine v_if_gt 6 4 dX0_countLeaves_1 (by decide) rfl (fun c1 => ?_) (fun c1 => ?_)
  · refine v_iload_n 7 dX0_countLeaves_6 rfl rfl ?_
    refine v_bipushv (v := 102) 9 dX0_countLeaves_7 (by decide) rfl ?_
    refine v_icmp_ne 25 12 dX0_countLeaves_9 (by decide) rfl (fun c9 => ?_) (fun c9 => ?_)
    · rw [if_neg c9] at hq
      refine v_bipushv (v := 10) 27 dX0_countLeaves_25 (by decide) rfl ?_
      refine v_iload_n 28 dX0_countLeaves_27 rfl rfl ?_
      refine v_imul 29 dX0_countLeaves_28 rfl ?_
      refine v_iload_n 30 dX0_countLeaves_29 rfl rfl ?_
      refine v_idiv 31 dX0_countLeaves_30 (fun e => by rw [e] at ht; exact absurd ht (by decide)) rfl ?_
      refine v_istore_n 32 dX0_countLeaves_31 (by decide) rfl rfl ?_
      dsimp only [List.set]
      refine v_iload_n 33 dX0_countLeaves_32 rfl rfl ?_
      refine v_iconstv (v := 0) 34 dX0_countLeaves_33 (by decide) rfl ?_
      refine v_bipushv (v := 24) 36 dX0_countLeaves_34 (by decide) rfl ?_
      refine v_invsN (d' := 1) (k' := 0) (n' := 0) (k2 := 0) (n2 := 0) 39 [_, _, _] dX0_countLeaves_36 mn_X0_63 md_X6_within ms_X6_within rfl rfl (of_decide_eq_true rfl) rfl (by decide) rfl rfl rfl rfl (C_X6_within ?_)
      refine v_ireturn dX0_countLeaves_39 rfl ?_
      exact hq
    · rw [if_pos c9] at hq
      refine v_bipushv (v := 10) 14 dX0_countLeaves_12 (by decide) rfl ?_
      refine v_iload_n 15 dX0_countLeaves_14 rfl rfl ?_
      refine v_iconstv (v := 2) 16 dX0_countLeaves_15 (by decide) rfl ?_
      refine v_idiv 17 dX0_countLeaves_16 (by decide) rfl ?_
      refine v_imul 18 dX0_countLeaves_17 rfl ?_
      refine v_iload_n 19 dX0_countLeaves_18 rfl rfl ?_
      refine v_idiv 20 dX0_countLeaves_19 (fun e => by rw [e] at ht; exact absurd ht (by decide)) rfl ?_
      refine v_iconstv (v := 1) 21 dX0_countLeaves_20 (by decide) rfl ?_
      refine v_iadd 22 dX0_countLeaves_21 rfl ?_
      refine v_goto 31 dX0_countLeaves_22 (by decide) ?_
      refine v_istore_n 32 dX0_countLeaves_31 (by decide) rfl rfl ?_
      dsimp only [List.set]
      refine v_iload_n 33 dX0_countLeaves_32 rfl rfl ?_
      refine v_iconstv (v := 0) 34 dX0_countLeaves_33 (by decide) rfl ?_
      refine v_bipushv (v := 24) 36 dX0_countLeaves_34 (by decide) rfl ?_
      refine v_invsN (d' := 1) (k' := 0) (n' := 0) (k2 := 0) (n2 := 0) 39 [_, _, _] dX0_countLeaves_36 mn_X0_63 md_X6_within ms_X6_within rfl rfl (of_decide_eq_true rfl) rfl (by decide) rfl rfl rfl rfl (C_X6_within ?_)
      refine v_ireturn dX0_countLeaves_39 rfl ?_
      exact hq
  · exact absurd ht c1
