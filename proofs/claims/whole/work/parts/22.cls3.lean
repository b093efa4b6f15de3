section VVRP
abbrev nn_ (S : SP) (k : Nat) : Nat := S.2.1 k
def q_l (h : PH) (tl ta n : Nat) (f : Nat → RN) : Prop := ∃ cap, is_L h tl 0 ta n cap f
theorem q_l.te {h h' : PH} {tl ta n : Nat} {f : Nat → RN} (q : q_l h tl ta n f) (e1 : hp_te h h' tl) (e2 : hp_te h h' ta) (e3 : hp_te h h' 5) : q_l h' tl ta n f := by
  obtain ⟨cap, q⟩ := q
  exact ⟨cap, q.te e1 e2 e3⟩
/-- the class's things, by the state -/
def q1_0 (S : SP) (h : PH) : Prop := (hp_al h 10 0 = true ∧ hp_vr h 10 0 0 = (20, 0) ∧ hp_vr h 10 0 1 = (21, 0) ∧ hp_vr h 10 0 2 = (22, 0) ∧ hp_vr h 10 0 3 = (23, 0) ∧ hp_vr h 10 0 4 = (24, 0)) ∧ hp_vi h 10 0 5 = hp_vi S.1 40 0 11 ∧ hp_vi h 10 0 6 = hp_vi S.1 40 0 7 ∧ hp_vi h 10 0 7 = hp_vi S.1 40 0 8 ∧ hp_vi h 10 0 8 = hp_vi S.1 40 0 9 ∧ hp_vi h 10 0 9 = hp_vi S.1 40 0 6 ∧ hp_vi h 10 0 10 = hp_vi S.1 40 0 10
def lg_1 (S : SP) (h : PH) (i : Nat) : Prop := hp_al h 11 i = true ∧ hp_vi h 11 i 0 = wd_c (hp_vi S.1 41 i 0) ∧ hp_vi h 11 i 1 = hp_vi S.1 41 i 1 ∧ hp_vi h 11 i 2 = hp_vi S.1 41 i 2 ∧ hp_vi h 11 i 3 = hp_vi S.1 41 i 3 ∧ hp_vi h 11 i 4 = hp_vi S.1 41 i 4
def q1_1 (S : SP) (h : PH) : Prop := (∀ i, i < nn_ S 0 → lg_1 S h i) ∧ ∀ i, nn_ S 0 ≤ i → hp_al h 11 i = false
def fl_1 (S : SP) (h : PH) (f : Nat) : Prop := (hp_al h 12 f = true ∧ hp_vr h 12 f 4 = (30, f) ∧ hp_vr h 12 f 5 = (31, f) ∧ hp_vr h 12 f 6 = (32, f) ∧ hp_ln h 30 f = 24 ∧ hp_ln h 31 f = 24 ∧ hp_ln h 32 f = 24) ∧
  (hp_vi h 12 f 0 = hp_vi S.1 42 f 2 ∧ hp_vi h 12 f 1 = hp_vi S.1 41 (s_lg S f) 2 ∧ hp_vi h 12 f 2 = wd_s (hp_vi S.1 41 (s_lg S f) 0) ∧ hp_vi h 12 f 3 = nI (s_n S f) ∧ hp_vi h 12 f 7 = nI (s_uc S f (s_n S f))) ∧
  ∀ l, l < s_n S f → hp_vi h 30 f l = s_w S f (nI l) ∧ hp_vi h 31 f l = s_f S f (nI l) ∧ hp_vi h 32 f l = hp_vi S.1 62 f l
def q1_2 (S : SP) (h : PH) : Prop := (∀ f, f < nn_ S 1 → fl_1 S h f) ∧ ∀ f, nn_ S 1 ≤ f → hp_al h 12 f = false ∧ hp_al h 30 f = false ∧ hp_al h 31 f = false ∧ hp_al h 32 f = false
/-- a packet of the class (tag t) as one of the reference's (tag u) -/
def pk_1 (S : SP) (h : PH) (t u p : Nat) : Prop := hp_al h t p = true ∧ hp_vr h t p 0 = (12, (hp_vr S.1 u p 0).2) ∧ hp_vi h t p 1 = hp_vi S.1 u p 1 ∧ hp_vi h t p 2 = hp_vi S.1 u p 2
abbrev s_fa (S : SP) (p : Nat) : RN := hp_vr S.1 43 p 3
abbrev s_ba (S : SP) (p : Nat) : RN := hp_vr S.1 43 p 4
abbrev s_pa (S : SP) (p : Nat) : RN := hp_vr S.1 44 p 1
def s_lf (S : SP) (p : Nat) : Int32 := if (s_fa S p).1 = 0 then 0 else mx 0 (10 * hp_vi S.1 42 (hp_vr S.1 46 p 0).2 2 - hp_vi S.1 43 p 9)
def pn_1 (S : SP) (h : PH) (p : Nat) : Prop := (hp_al h 13 p = true ∧ hp_vr h 13 p 4 = (if (s_fa S p).1 = 0 then (0, 0) else (16, p)) ∧ hp_vr h 13 p 5 = (if (s_ba S p).1 = 0 then (0, 0) else (17, p))) ∧
  (hp_vi h 13 p 0 = hp_vi S.1 43 p 0 ∧ hp_vi h 13 p 1 = hp_vi S.1 43 p 1 ∧ hp_vi h 13 p 3 = nI (nn_ S (10 + p)) ∧ nI (nn_ S (10 + p)) * co_m (hp_vi h 13 p 2) = hp_vi S.1 43 p 2) ∧
  (hp_vi h 13 p 6 = hp_vi S.1 43 p 5 ∧ hp_vi h 13 p 7 = hp_vi S.1 43 p 6 ∧ hp_vi h 13 p 8 = hp_vi S.1 43 p 7 ∧ hp_vi h 13 p 9 = hp_vi S.1 43 p 8 ∧ hp_vi h 13 p 10 = s_lf S p ∧ hp_vi h 13 p 11 = hp_vi S.1 43 p 10 ∧ hp_vi h 13 p 12 = hp_vi S.1 43 p 12 ∧ hp_vi h 13 p 13 = hp_vi S.1 43 p 11) ∧
  ((s_fa S p).1 = 0 → hp_al h 16 p = false) ∧ (¬ (s_fa S p).1 = 0 → pk_1 S h 16 46 p) ∧ ((s_ba S p).1 = 0 → hp_al h 17 p = false) ∧ (¬ (s_ba S p).1 = 0 → pk_1 S h 17 47 p)
def q1_3 (S : SP) (h : PH) : Prop := (∀ p, p < nn_ S 2 → pn_1 S h p) ∧ ∀ p, nn_ S 2 ≤ p → hp_al h 13 p = false ∧ hp_al h 16 p = false ∧ hp_al h 17 p = false
def pi_1 (S : SP) (h : PH) (p : Nat) : Prop := (hp_al h 14 p = true ∧ hp_vr h 14 p 0 = (33, p) ∧ hp_vr h 14 p 1 = (34, p) ∧ hp_vr h 14 p 2 = (35, p) ∧ hp_vr h 14 p 3 = (36, p) ∧ hp_vr h 14 p 4 = (if (s_pa S p).1 = 0 then (0, 0) else (18, p))) ∧
  (hp_vi h 14 p 5 = nI (nn_ S (20 + p)) ∧ hp_vi h 14 p 6 = nI (nn_ S (30 + p)) ∧ hp_vi h 14 p 7 = 64) ∧
  (hp_ln h 33 p = 64 ∧ hp_ln h 34 p = 8 ∧ hp_ln h 35 p = 64 ∧ hp_ln h 36 p = 64) ∧ (∀ k, k < 64 → hp_vi h 33 p k = hp_vi S.1 63 p k) ∧ (∀ k, k < 8 → hp_vi h 34 p k = hp_vi S.1 64 p k) ∧
  ((s_pa S p).1 = 0 → hp_al h 18 p = false) ∧ (¬ (s_pa S p).1 = 0 → pk_1 S h 18 48 p)
def q1_4 (S : SP) (h : PH) : Prop := (∀ p, p < nn_ S 3 → pi_1 S h p) ∧ ∀ p, nn_ S 3 ≤ p → hp_al h 14 p = false ∧ hp_al h 18 p = false ∧ hp_al h 33 p = false ∧ hp_al h 34 p = false ∧ hp_al h 35 p = false ∧ hp_al h 36 p = false
def q1_5 (S : SP) (h : PH) : Prop := (∀ k, k < nn_ S 5 → hp_al h 15 (S.2.2 k) = true ∧ hp_vi h 15 (S.2.2 k) 0 = hp_vi S.1 45 (S.2.2 k) 0 ∧ hp_vi h 15 (S.2.2 k) 1 = hp_vi S.1 45 (S.2.2 k) 1) ∧ ∀ j, nn_ S 4 ≤ j → hp_al h 15 j = false
def q1_L (S : SP) (h : PH) : Prop := q_l h 20 25 (nn_ S 0) (fun k => (11, k)) ∧ q_l h 21 26 (nn_ S 1) (fun k => (12, k)) ∧ q_l h 22 27 (nn_ S 2) (fun k => (13, k)) ∧ q_l h 23 28 (nn_ S 3) (fun k => (14, k)) ∧ q_l h 24 29 (nn_ S 5) (fun k => (15, S.2.2 k))
def Rp1 (S : SP) (h : PH) : Prop := q1_0 S h ∧ q1_L S h ∧ q1_1 S h ∧ q1_2 S h ∧ q1_3 S h ∧ q1_4 S h ∧ q1_5 S h
/-- the reference's things, by the state -/
def q2_0 (S : SP) (h : PH) : Prop := (hp_al h 40 0 = true ∧ hp_vr h 40 0 1 = (50, 0) ∧ hp_vr h 40 0 2 = (51, 0) ∧ hp_vr h 40 0 3 = (52, 0) ∧ hp_vr h 40 0 4 = (53, 0) ∧ hp_vr h 40 0 5 = (54, 0) ∧ hp_vr h 40 0 12 = (55, 0)) ∧ ∀ k, 6 ≤ k → k < 12 → hp_vi h 40 0 k = hp_vi S.1 40 0 k
def q2_L (S : SP) (h : PH) : Prop := q_l h 50 56 (nn_ S 0) (fun k => (41, k)) ∧ q_l h 51 57 (nn_ S 1) (fun k => (42, k)) ∧ q_l h 52 58 (nn_ S 2) (fun k => (43, k)) ∧ q_l h 53 59 (nn_ S 2) (fun k => (4, nn_ S (10 + k) + 128)) ∧ q_l h 54 60 (nn_ S 5) (fun k => (45, S.2.2 k)) ∧ q_l h 55 61 (nn_ S 3) (fun k => (44, k))
def q2_T (S : SP) (h : PH) : Prop := (∀ t, 41 ≤ t → t < 49 → hp_te S.1 h t) ∧ hp_te S.1 h 62 ∧ hp_te S.1 h 63 ∧ hp_te S.1 h 64
def Rp2 (S : SP) (h : PH) : Prop := q2_0 S h ∧ q2_L S h ∧ q2_T S h
/-- what the state always has -/
def i_fl (S : SP) (f : Nat) : Prop := (hp_al S.1 42 f = true ∧ hp_al S.1 62 f = true ∧ hp_vr S.1 42 f 0 = (41, s_lg S f) ∧ s_lg S f < nn_ S 0 ∧ hp_vr S.1 42 f 3 = (62, f)) ∧
  (hp_vi S.1 42 f 1 = 102 ∨ hp_vi S.1 42 f 1 = 113 ∨ hp_vi S.1 42 f 1 = 114 ∨ hp_vi S.1 42 f 1 = 115) ∧ (∃ t : Nat, hp_vi S.1 42 f 2 = nI t ∧ 5 ≤ t ∧ t ≤ 30) ∧ (1 ≤ s_n S f ∧ s_n S f ≤ 24) ∧ ∀ l, hp_vi S.1 62 f l = 0 ∨ hp_vi S.1 62 f l = 1
def i_lg (S : SP) (i : Nat) : Prop := hp_al S.1 41 i = true ∧ (∃ w : Nat, hp_vi S.1 41 i 0 = nI w ∧ w < 4) ∧ (∃ d : Nat, hp_vi S.1 41 i 1 = nI d ∧ 100 ≤ d ∧ d < 1000) ∧ (∃ l : Nat, hp_vi S.1 41 i 2 = nI l ∧ 1 ≤ l ∧ l ≤ 40) ∧ (hp_vi S.1 41 i 3 = 112 ∨ hp_vi S.1 41 i 3 = 99 ∨ hp_vi S.1 41 i 3 = 98) ∧ (hp_vi S.1 41 i 4 = 0 ∨ hp_vi S.1 41 i 4 = 1)
def i_pk (S : SP) (u p lo : Nat) : Prop := hp_al S.1 u p = true ∧ hp_vr S.1 u p 0 = (42, (hp_vr S.1 u p 0).2) ∧ (hp_vr S.1 u p 0).2 < nn_ S 1 ∧ ∃ a m : Nat, hp_vi S.1 u p 1 = nI a ∧ hp_vi S.1 u p 2 = nI m ∧ lo ≤ m ∧ m ≤ 8 ∧ a + m ≤ s_n S (hp_vr S.1 u p 0).2
def i_pn (S : SP) (N p : Nat) : Prop := hp_al S.1 43 p = true ∧ ((s_fa S p = (0, 0) ∧ hp_al S.1 46 p = false) ∨ (s_fa S p = (46, p) ∧ i_pk S 46 p 1)) ∧ ((s_ba S p = (0, 0) ∧ hp_al S.1 47 p = false) ∨ (s_ba S p = (47, p) ∧ i_pk S 47 p 1)) ∧
  (∃ w : Nat, hp_vi S.1 43 p 0 = nI w ∧ 100 ≤ w ∧ w ≤ 2000) ∧ (∃ w : Nat, hp_vi S.1 43 p 1 = nI w ∧ 1 ≤ w ∧ w ≤ 20) ∧ (5 ≤ nn_ S (10 + p) ∧ nn_ S (10 + p) ≤ 40) ∧ (∃ m : Nat, hp_vi S.1 43 p 2 = nI (nn_ S (10 + p) * m) ∧ 1 ≤ m ∧ m ≤ 3) ∧
  ((hp_vi S.1 43 p 6 = 0 ∧ hp_vi S.1 43 p 8 = 0) ∨ (hp_vi S.1 43 p 6 = 1 ∧ ¬ (s_fa S p).1 = 0)) ∧ (∃ w : Nat, hp_vi S.1 43 p 8 = nI w ∧ w ≤ 24) ∧ (∃ w : Nat, hp_vi S.1 43 p 9 = nI w ∧ w ≤ 400) ∧ (∃ w : Nat, hp_vi S.1 43 p 10 = nI w ∧ w ≤ 99) ∧ (∃ w : Nat, hp_vi S.1 43 p 12 = nI w ∧ w ≤ 9 * N) ∧ ((s_fa S p).1 = 0 → hp_vi S.1 43 p 9 = 0)
end VVRP

theorem ok_i.nat {x : Int32} {n : Nat} (hx : ok_i x n) (hn : n < 2 ^ 31) : ∃ j, j < n ∧ x = nI j := by
  obtain ⟨j, hj, e⟩ := nI_of (x := x) (Int32.not_lt.mpr hx.1)
  refine ⟨j, ?_, e⟩
  rcases Nat.lt_or_ge j n with q | q
  · exact q
  · exact absurd (e ▸ hx.2) (nI_nlt q hj)
theorem ok_i.of {j n : Nat} (h : j < n) (hn : n < 2 ^ 31) : ok_i (nI j) n := ⟨nI_pos' (by omega), nI_lt h hn⟩
theorem ok_i.inn {x : Int32} {n c : Nat} (hx : ok_i x n) (hn : n < 2 ^ 31) (hc : n ≤ c) (hc2 : c < 2 ^ 31) : vp_in x c := by
  obtain ⟨j, hj, rfl⟩ := hx.nat hn
  exact in_nI (by omega) (by omega)
theorem ok_i.cl {x : Int32} {n : Nat} (hx : ok_i x n) (hn : n < 2 ^ 31) : cl_ x < n ∧ nI (cl_ x) = x := by
  obtain ⟨j, hj, rfl⟩ := hx.nat hn
  unfold cl_
  rw [nI_clamp (by omega)]
  exact ⟨hj, rfl⟩
theorem toInt_ok {n : Nat} (h : n < 2 ^ 31) : (nI n).toInt = (n : Int) := nI_toInt h
set_option maxRecDepth 20000 in
theorem C_X0_hasLeaf {G : GW} {h : PH} {Q : RS → PH → Prop} {S : SP} {f : Nat} {l : Int32} (F : fl_1 S h f) (hn : s_n S f ≤ 24) (hq : Q (.inl (some (pv_I (if ok_i l (s_n S f) then 1 else 0)))) h) : VV G 0 0 0 yX0_hasLeaf cX0_hasLeaf 2 (some .boolean) [] 0 (vv_en 2 [pv_O (12, f), pv_I l]) [] h Q := by
  show VV G 0 0 0 yX0_hasLeaf cX0_hasLeaf 2 (some .boolean) [] 0 [some (pv_O (12, f)), some (pv_I l)] [] h Q
  have e3 := F.2.1.2.2.2.1
  have e4 := nI_toInt (n := s_n S f) (by omega)
  unfold ok_i at hq
  refine v_iload_n 1 dX0_hasLeaf_0 rfl rfl ?_
  refine v_if_lt 22 4 dX0_hasLeaf_1 (by decide) rfl (fun c1 => ?_) (fun c1 => ?_)
  · refine v_iconstv (v := 0) 23 dX0_hasLeaf_22 (by decide) rfl ?_
    refine v_zreturn (ty := .boolean) (by first | rfl | decide | exact nz_if | exact nz_fi) dX0_hasLeaf_23 rfl ?_
    refine vq_i hq ?_
    clear hq F e3
    simp only [f1_0, f0_0, Decidable.not_not, Int32.lt_iff_toInt_lt, Int32.le_iff_toInt_le, e4, show Int32.toInt 24 = 24 from rfl, show Int32.toInt 0 = 0 from rfl] at *
    repeat' split
    all_goals first | rfl | (exfalso; omega) | (intros; omega) | simp_all
  · refine v_iload_n 5 dX0_hasLeaf_4 rfl rfl ?_
    refine v_aload_n 6 dX0_hasLeaf_5 rfl rfl ?_
    refine v_getfi 9 dX0_hasLeaf_6 fl_X0_45 (by first | assumption | rfl) (by rfl) rfl ?_
    rw [e3]
    refine v_icmp_ge 22 12 dX0_hasLeaf_9 (by decide) rfl (fun c9 => ?_) (fun c9 => ?_)
    · refine v_iconstv (v := 0) 23 dX0_hasLeaf_22 (by decide) rfl ?_
      refine v_zreturn (ty := .boolean) (by first | rfl | decide | exact nz_if | exact nz_fi) dX0_hasLeaf_23 rfl ?_
      refine vq_i hq ?_
      clear hq F e3
      simp only [f1_0, f0_0, Decidable.not_not, Int32.lt_iff_toInt_lt, Int32.le_iff_toInt_le, e4, show Int32.toInt 24 = 24 from rfl, show Int32.toInt 0 = 0 from rfl] at *
      repeat' split
      all_goals first | rfl | (exfalso; omega) | (intros; omega) | simp_all
    · refine v_iload_n 13 dX0_hasLeaf_12 rfl rfl ?_
      refine v_bipushv (v := 24) 15 dX0_hasLeaf_13 (by decide) rfl ?_
      refine v_icmp_ge 22 18 dX0_hasLeaf_15 (by decide) rfl (fun c15 => ?_) (fun c15 => ?_)
      · refine v_iconstv (v := 0) 23 dX0_hasLeaf_22 (by decide) rfl ?_
        refine v_zreturn (ty := .boolean) (by first | rfl | decide | exact nz_if | exact nz_fi) dX0_hasLeaf_23 rfl ?_
        refine vq_i hq ?_
        clear hq F e3
        simp only [f1_0, f0_0, Decidable.not_not, Int32.lt_iff_toInt_lt, Int32.le_iff_toInt_le, e4, show Int32.toInt 24 = 24 from rfl, show Int32.toInt 0 = 0 from rfl] at *
        repeat' split
        all_goals first | rfl | (exfalso; omega) | (intros; omega) | simp_all
      · refine v_iconstv (v := 1) 19 dX0_hasLeaf_18 (by decide) rfl ?_
        refine v_goto 23 dX0_hasLeaf_19 (by decide) ?_
        refine v_zreturn (ty := .boolean) (by first | rfl | decide | exact nz_if | exact nz_fi) dX0_hasLeaf_23 rfl ?_
        refine vq_i hq ?_
        clear hq F e3
        simp only [f1_0, f0_0, Decidable.not_not, Int32.lt_iff_toInt_lt, Int32.le_iff_toInt_le, e4, show Int32.toInt 24 = 24 from rfl, show Int32.toInt 0 = 0 from rfl] at *
        repeat' split
        all_goals first | rfl | (exfalso; omega) | (intros; omega) | simp_all
set_option maxRecDepth 20000 in
theorem C_X0_widthOf {G : GW} {h : PH} {Q : RS → PH → Prop} {S : SP} {f : Nat} {l : Int32} (F : fl_1 S h f) (hn : s_n S f ≤ 24) (hq : Q (.inl (some (pv_I (if ok_i l (s_n S f) then s_w S f l else 0)))) h) : VV G 1 0 0 yX0_widthOf cX0_widthOf 2 (some .int) [] 0 (vv_en 2 [pv_O (12, f), pv_I l]) [] h Q := by
  show VV G 1 0 0 yX0_widthOf cX0_widthOf 2 (some .int) [] 0 [some (pv_O (12, f)), some (pv_I l)] [] h Q
  obtain ⟨⟨a0, a4, a5, a6, b0, b1, b2⟩, e9, e8⟩ := id F
  refine v_aload_n 1 dX0_widthOf_0 rfl rfl ?_
  refine v_iload_n 2 dX0_widthOf_1 rfl rfl ?_
  refine v_invv (d' := 0) (k' := 0) (n' := 0) (k2 := 0) (n2 := 0) 5 [_] dX0_widthOf_2 mt_X0_82 mi_X0_hasLeaf me_X0_hasLeaf (by first | assumption | rfl) (by rfl) rfl rfl (of_decide_eq_true rfl) rfl (by decide) rfl rfl rfl rfl (C_X0_hasLeaf F hn ?_)
  refine v_if_eq 17 8 dX0_widthOf_5 (by decide) rfl (fun c5 => ?_) (fun c5 => ?_)
  · have c5 := f1_0.mp c5
    rw [if_neg c5] at hq
    refine v_iconstv (v := 0) 18 dX0_widthOf_17 (by decide) rfl ?_
    refine v_ireturn dX0_widthOf_18 rfl ?_
    exact hq
  · have c5 := Decidable.not_not.mp (fun q => c5 (f1_0.mpr q))
    rw [if_pos c5] at hq
    refine v_aload_n 9 dX0_widthOf_8 rfl rfl ?_
    refine v_getfr 12 dX0_widthOf_9 fl_X0_9 (by first | assumption | rfl) (by rfl) rfl ?_
    rw [a4]
    refine v_iload_n 13 dX0_widthOf_12 rfl rfl ?_
    refine v_iald 14 dX0_widthOf_13 (by first | assumption | rfl) (by show vp_in _ (hp_ln h 30 f); rw [b0]; exact c5.inn (by omega) hn (by omega)) rfl ?_
    rw [show hp_vi h 30 f l.toNatClampNeg = s_w S f l from ((e8 _ (c5.cl (by omega)).1).1).trans (by rw [(c5.cl (by omega)).2])]
    refine v_goto 18 dX0_widthOf_14 (by decide) ?_
    refine v_ireturn dX0_widthOf_18 rfl ?_
    exact hq
set_option maxRecDepth 20000 in
theorem C_X0_figureOf {G : GW} {h : PH} {Q : RS → PH → Prop} {S : SP} {f : Nat} {l : Int32} (F : fl_1 S h f) (hn : s_n S f ≤ 24) (hq : Q (.inl (some (pv_I (if ok_i l (s_n S f) then s_f S f l else 0)))) h) : VV G 1 0 0 yX0_figureOf cX0_figureOf 2 (some .int) [] 0 (vv_en 2 [pv_O (12, f), pv_I l]) [] h Q := by
  show VV G 1 0 0 yX0_figureOf cX0_figureOf 2 (some .int) [] 0 [some (pv_O (12, f)), some (pv_I l)] [] h Q
  obtain ⟨⟨a0, a4, a5, a6, b0, b1, b2⟩, e9, e8⟩ := id F
  refine v_aload_n 1 dX0_figureOf_0 rfl rfl ?_
  refine v_iload_n 2 dX0_figureOf_1 rfl rfl ?_
  refine v_invv (d' := 0) (k' := 0) (n' := 0) (k2 := 0) (n2 := 0) 5 [_] dX0_figureOf_2 mt_X0_82 mi_X0_hasLeaf me_X0_hasLeaf (by first | assumption | rfl) (by rfl) rfl rfl (of_decide_eq_true rfl) rfl (by decide) rfl rfl rfl rfl (C_X0_hasLeaf F hn ?_)
  refine v_if_eq 17 8 dX0_figureOf_5 (by decide) rfl (fun c5 => ?_) (fun c5 => ?_)
  · have c5 := f1_0.mp c5
    rw [if_neg c5] at hq
    refine v_iconstv (v := 0) 18 dX0_figureOf_17 (by decide) rfl ?_
    refine v_ireturn dX0_figureOf_18 rfl ?_
    exact hq
  · have c5 := Decidable.not_not.mp (fun q => c5 (f1_0.mpr q))
    rw [if_pos c5] at hq
    refine v_aload_n 9 dX0_figureOf_8 rfl rfl ?_
    refine v_getfr 12 dX0_figureOf_9 fl_X0_15 (by first | assumption | rfl) (by rfl) rfl ?_
    rw [a5]
    refine v_iload_n 13 dX0_figureOf_12 rfl rfl ?_
    refine v_iald 14 dX0_figureOf_13 (by first | assumption | rfl) (by show vp_in _ (hp_ln h 31 f); rw [b1]; exact c5.inn (by omega) hn (by omega)) rfl ?_
    rw [show hp_vi h 31 f l.toNatClampNeg = s_f S f l from ((e8 _ (c5.cl (by omega)).1).2.1).trans (by rw [(c5.cl (by omega)).2])]
    refine v_goto 18 dX0_figureOf_14 (by decide) ?_
    refine v_ireturn dX0_figureOf_18 rfl ?_
    exact hq
set_option maxRecDepth 20000 in
theorem C_X0_isTaken {G : GW} {h : PH} {Q : RS → PH → Prop} {S : SP} {f : Nat} {l : Int32} (F : fl_1 S h f) (hn : s_n S f ≤ 24) (hI : ∀ l, hp_vi S.1 62 f l = 0 ∨ hp_vi S.1 62 f l = 1) (hq : Q (.inl (some (pv_I (if ok_i l (s_n S f) then hp_vi S.1 62 f (cl_ l) else 0)))) h) : VV G 1 0 0 yX0_isTaken cX0_isTaken 2 (some .boolean) [] 0 (vv_en 2 [pv_O (12, f), pv_I l]) [] h Q := by
  show VV G 1 0 0 yX0_isTaken cX0_isTaken 2 (some .boolean) [] 0 [some (pv_O (12, f)), some (pv_I l)] [] h Q
  obtain ⟨⟨a0, a4, a5, a6, b0, b1, b2⟩, e9, e8⟩ := id F
  refine v_aload_n 1 dX0_isTaken_0 rfl rfl ?_
  refine v_iload_n 2 dX0_isTaken_1 rfl rfl ?_
  refine v_invv (d' := 0) (k' := 0) (n' := 0) (k2 := 0) (n2 := 0) 5 [_] dX0_isTaken_2 mt_X0_82 mi_X0_hasLeaf me_X0_hasLeaf (by first | assumption | rfl) (by rfl) rfl rfl (of_decide_eq_true rfl) rfl (by decide) rfl rfl rfl rfl (C_X0_hasLeaf F hn ?_)
  refine v_if_eq 21 8 dX0_isTaken_5 (by decide) rfl (fun c5 => ?_) (fun c5 => ?_)
  · have c5 := f1_0.mp c5
    rw [if_neg c5] at hq
    refine v_iconstv (v := 0) 22 dX0_isTaken_21 (by decide) rfl ?_
    refine v_zreturn (ty := .boolean) (by first | rfl | decide | exact nz_if | exact nz_fi) dX0_isTaken_22 rfl ?_
    exact hq
  · have c5 := Decidable.not_not.mp (fun q => c5 (f1_0.mpr q))
    rw [if_pos c5] at hq
    refine v_aload_n 9 dX0_isTaken_8 rfl rfl ?_
    refine v_getfr 12 dX0_isTaken_9 fl_X0_18 (by first | assumption | rfl) (by rfl) rfl ?_
    rw [a6]
    refine v_iload_n 13 dX0_isTaken_12 rfl rfl ?_
    refine v_zald 14 dX0_isTaken_13 (by first | assumption | rfl) (by show vp_in _ (hp_ln h 32 f); rw [b2]; exact c5.inn (by omega) hn (by omega)) rfl ?_
    rw [show hp_vi h 32 f l.toNatClampNeg = hp_vi S.1 62 f (cl_ l) from (e8 _ (c5.cl (by omega)).1).2.2]
    refine v_if_eq 21 17 dX0_isTaken_14 (by decide) rfl (fun c14 => ?_) (fun c14 => ?_)
    · rw [c14] at hq
      refine v_iconstv (v := 0) 22 dX0_isTaken_21 (by decide) rfl ?_
      refine v_zreturn (ty := .boolean) (by first | rfl | decide | exact nz_if | exact nz_fi) dX0_isTaken_22 rfl ?_
      exact hq
    · rw [show hp_vi S.1 62 f (cl_ l) = 1 from (hI _).resolve_left c14] at hq
      refine v_iconstv (v := 1) 18 dX0_isTaken_17 (by decide) rfl ?_
      refine v_goto 22 dX0_isTaken_18 (by decide) ?_
      refine v_zreturn (ty := .boolean) (by first | rfl | decide | exact nz_if | exact nz_fi) dX0_isTaken_22 rfl ?_
      exact hq
set_option maxRecDepth 20000 in
theorem C_X0_areaOf {G : GW} {h : PH} {Q : RS → PH → Prop} {S : SP} {f : Nat} {l : Int32} (F : fl_1 S h f) (hn : s_n S f ≤ 24) (hq : Q (.inl (some (pv_I (if ok_i l (s_n S f) then s_a S f l else 0)))) h) : VV G 2 0 0 yX0_areaOf cX0_areaOf 2 (some .int) [] 0 (vv_en 2 [pv_O (12, f), pv_I l]) [] h Q := by
  show VV G 2 0 0 yX0_areaOf cX0_areaOf 2 (some .int) [] 0 [some (pv_O (12, f)), some (pv_I l)] [] h Q
  have e9 := F.2.1
  refine v_aload_n 1 dX0_areaOf_0 rfl rfl ?_
  refine v_iload_n 2 dX0_areaOf_1 rfl rfl ?_
  refine v_invv (d' := 1) (k' := 0) (n' := 0) (k2 := 0) (n2 := 0) 5 [_] dX0_areaOf_2 mt_X0_86 mi_X0_widthOf me_X0_widthOf (by first | assumption | rfl) (by rfl) rfl rfl (of_decide_eq_true rfl) rfl (by decide) rfl rfl rfl rfl (C_X0_widthOf F hn ?_)
  refine v_aload_n 6 dX0_areaOf_5 rfl rfl ?_
  refine v_getfi 9 dX0_areaOf_6 fl_X0_31 (by first | assumption | rfl) (by rfl) rfl ?_
  rw [e9.2.1]
  refine v_imul 10 dX0_areaOf_9 rfl ?_
  refine v_ireturn dX0_areaOf_10 rfl ?_
  refine vq_i hq ?_
  by_cases q : ok_i l (s_n S f)
  · rw [if_pos q, if_pos q]; rfl
  · rw [if_neg q, if_neg q, Int32.zero_mul]
