section VVR3
/-- the names for a while: always some are unused -/
def fr_s (h : PH) : Prop := ∀ t, 70 ≤ t → t < 76 → fr_t h t
/-- what a call of the reference keeps -/
def ke_ (h h' : PH) : Prop := (∀ t, t < 40 ∨ 76 ≤ t → hp_te h h' t) ∧ (fr_s h → fr_s h')
variable {h h1 h2 : PH}
theorem ke_.rf : ke_ h h := ⟨fun _ _ => hp_te.rf, fun q => q⟩
theorem ke_.tr (a : ke_ h h1) (b : ke_ h1 h2) : ke_ h h2 := ⟨fun t ht => (a.1 t ht).tr (b.1 t ht), fun q => b.2 (a.2 q)⟩
theorem ke_.i {t i k : Nat} {x : Int32} (q1 : 40 ≤ t) (q2 : t < 76) : ke_ h (hp_seti h t i k x) := ⟨fun u hu => hp_te.i (by omega), fun q u a b => q u a b⟩
theorem ke_.r {t i k : Nat} {x : RN} (q1 : 40 ≤ t) (q2 : t < 76) : ke_ h (hp_setr h t i k x) := ⟨fun u hu => hp_te.r (by omega), fun q u a b => q u a b⟩
theorem fr_t.n {u t i n : Nat} (f : fr_t h u) : fr_t (hp_new h t i n) u := by
  by_cases e : u = t
  · subst e; exact f.new
  · exact f.te (hp_te.n e)
theorem ke_.n {t i n : Nat} (q1 : 40 ≤ t) (q2 : t < 76) : ke_ h (hp_new h t i n) := ⟨fun u hu => hp_te.n (by omega), fun q u a b => (q u a b).n⟩
theorem Rp2.tg {S : SP} (R : Rp2 S h) {t : Nat} (ht : (41 ≤ t ∧ t < 49) ∨ t = 62 ∨ t = 63 ∨ t = 64) : hp_te S.1 h t := by
  rcases ht with a | rfl | rfl | rfl
  · exact R.2.2.1 t a.1 a.2
  · exact R.2.2.2.1
  · exact R.2.2.2.2.1
  · exact R.2.2.2.2.2
theorem Rp2.vi {S : SP} (R : Rp2 S h) {t : Nat} (ht : (41 ≤ t ∧ t < 49) ∨ t = 62 ∨ t = 63 ∨ t = 64) : hp_vi h t = hp_vi S.1 t := (R.tg ht).2.2.1
theorem Rp2.vr {S : SP} (R : Rp2 S h) {t : Nat} (ht : (41 ≤ t ∧ t < 49) ∨ t = 62 ∨ t = 63 ∨ t = 64) : hp_vr h t = hp_vr S.1 t := (R.tg ht).2.2.2.1
theorem Rp2.ln {S : SP} (R : Rp2 S h) {t : Nat} (ht : (41 ≤ t ∧ t < 49) ∨ t = 62 ∨ t = 63 ∨ t = 64) : hp_ln h t = hp_ln S.1 t := (R.tg ht).2.1
theorem Rp2.al {S : SP} (R : Rp2 S h) {t : Nat} (ht : (41 ≤ t ∧ t < 49) ∨ t = 62 ∨ t = 63 ∨ t = 64) : hp_al h t = hp_al S.1 t := (R.tg ht).1
theorem Iv.us {S : SP} {N : Nat} (I : Iv S N) {f : Nat} (hf : f < nn_ S 1) : hp_vr S.1 42 f 3 = (62, f) := (I.2.2.1 f hf).1.2.2.2.2
theorem Iv.lg {S : SP} {N : Nat} (I : Iv S N) {f : Nat} (hf : f < nn_ S 1) : hp_vr S.1 42 f 0 = (41, s_lg S f) := (I.2.2.1 f hf).1.2.2.1
theorem l64 {x y : Int32} : x.toInt64 ≤ y.toInt64 ↔ x ≤ y := by rw [Int64.le_iff_toInt_le, Int32.toInt_toInt64, Int32.toInt_toInt64, Int32.le_iff_toInt_le]
theorem oki_iff {x : Int32} {n : Nat} (hn : n ≤ 1000) : (0 ≤ x ∧ x ≤ nI n - 1) ↔ ok_i x n := by
  unfold ok_i
  rw [Int32.le_iff_toInt_le, Int32.le_iff_toInt_le, Int32.lt_iff_toInt_lt, nI_toInt (by omega), show nI n - 1 = nI n - nI 1 from rfl, pk_sub_toInt (by omega) (by omega)]
  omega
theorem t64_add (x y : Int32) : (x.toInt64 + y.toInt64).toInt = x.toInt + y.toInt := by
  have h1 := Int32.le_toInt x
  have h2 := Int32.toInt_lt x
  have h3 := Int32.le_toInt y
  have h4 := Int32.toInt_lt y
  rw [Int64.toInt_add, Int32.toInt_toInt64, Int32.toInt_toInt64, Int.bmod_eq_of_le (by omega) (by omega)]
end VVR3
theorem C2_begins {G : GW} {h : PH} {Q : RS → PH → Prop} {S : SP} (R : Rp2 S h) (hq : ∀ h0, Rp2 S h0 → hp_vi h0 40 0 0 = 0 → ke_ h h0 → Q (.inl none) h0) : VV G 0 0 0 yX12_begins cX12_begins 1 (none) [] 0 (vv_en 1 [pv_O (40, 0)]) [] h Q := C_X12_begins (hq _ R.th hp_seti_at (ke_.i (by decide) (by decide)))
set_option maxRecDepth 20000 in
theorem C_f1 {G : GW} {h : PH} {Q : RS → PH → Prop} {n : Int32} (e0 : hp_vi h 40 0 0 = 0) (hn : 0 < n) (hq : Q (.inl (some (pv_I 1))) (hp_seti h 40 0 0 n)) : VV G 0 0 0 yX12_fails cX12_fails 3 (some .boolean) [] 0 (vv_en 3 [pv_O (40, 0), pv_I 1, pv_I n]) [] h Q := by
  show VV G 0 0 0 yX12_fails cX12_fails 3 (some .boolean) [] 0 [some (pv_O (40, 0)), some (pv_I 1), some (pv_I n)] [] h Q
  refine v_aload_n 1 dX12_fails_0 rfl rfl ?_
  refine v_getfi 4 dX12_fails_1 fl_X12_35 (by first | assumption | rfl) (by rfl) rfl ?_
  rw [e0]
  refine v_if_ne 16 7 dX12_fails_4 (by decide) rfl (fun c4 => ?_) (fun c4 => ?_)
  · exact absurd rfl c4
  · refine v_iload_n 8 dX12_fails_7 rfl rfl ?_
    refine v_if_eq 16 11 dX12_fails_8 (by decide) rfl (fun c8 => ?_) (fun c8 => ?_)
    · exact absurd c8 (by decide)
    · refine v_aload_n 12 dX12_fails_11 rfl rfl ?_
      refine v_iload_n 13 dX12_fails_12 rfl rfl ?_
      refine v_putfi 16 dX12_fails_13 pf_X12_fails_35 (by first | assumption | rfl) (by first | assumption | decide) (by rfl) rfl rfl rfl ?_
      refine v_aload_n 17 dX12_fails_16 rfl rfl ?_
      refine v_getfi 20 dX12_fails_17 fl_X12_35 (by first | assumption | rfl) (by rfl) rfl ?_
      rw [hp_seti_at]
      refine v_if_le 27 23 dX12_fails_20 (by decide) rfl (fun c20 => ?_) (fun c20 => ?_)
      · exact absurd hn (Int32.not_lt.mpr c20)
      · refine v_iconstv (v := 1) 24 dX12_fails_23 (by decide) rfl ?_
        refine v_goto 28 dX12_fails_24 (by decide) ?_
        refine v_zreturn (ty := .boolean) (by first | rfl | decide | exact nz_if | exact nz_fi) dX12_fails_28 rfl ?_
        exact hq
set_option maxRecDepth 20000 in
theorem C_f3 {G : GW} {h : PH} {Q : RS → PH → Prop} {b n : Int32} (e0 : hp_vi h 40 0 0 = 0) (hb : ¬ b = 0) (hn : 0 < n) (hq : Q (.inl (some (pv_I 1))) (hp_seti h 40 0 0 n)) : VV G 0 0 0 yX12_fails cX12_fails 3 (some .boolean) [] 0 (vv_en 3 [pv_O (40, 0), pv_I b, pv_I n]) [] h Q := by
  show VV G 0 0 0 yX12_fails cX12_fails 3 (some .boolean) [] 0 [some (pv_O (40, 0)), some (pv_I b), some (pv_I n)] [] h Q
  refine v_aload_n 1 dX12_fails_0 rfl rfl ?_
  refine v_getfi 4 dX12_fails_1 fl_X12_35 (by first | assumption | rfl) (by rfl) rfl ?_
  rw [e0]
  refine v_if_ne 16 7 dX12_fails_4 (by decide) rfl (fun c4 => ?_) (fun c4 => ?_)
  · exact absurd rfl c4
  · refine v_iload_n 8 dX12_fails_7 rfl rfl ?_
    refine v_if_eq 16 11 dX12_fails_8 (by decide) rfl (fun c8 => ?_) (fun c8 => ?_)
    · exact absurd c8 hb
    · refine v_aload_n 12 dX12_fails_11 rfl rfl ?_
      refine v_iload_n 13 dX12_fails_12 rfl rfl ?_
      refine v_putfi 16 dX12_fails_13 pf_X12_fails_35 (by first | assumption | rfl) (by first | assumption | decide) (by rfl) rfl rfl rfl ?_
      refine v_aload_n 17 dX12_fails_16 rfl rfl ?_
      refine v_getfi 20 dX12_fails_17 fl_X12_35 (by first | assumption | rfl) (by rfl) rfl ?_
      rw [hp_seti_at]
      refine v_if_le 27 23 dX12_fails_20 (by decide) rfl (fun c20 => ?_) (fun c20 => ?_)
      · exact absurd hn (Int32.not_lt.mpr c20)
      · refine v_iconstv (v := 1) 24 dX12_fails_23 (by decide) rfl ?_
        refine v_goto 28 dX12_fails_24 (by decide) ?_
        refine v_zreturn (ty := .boolean) (by first | rfl | decide | exact nz_if | exact nz_fi) dX12_fails_28 rfl ?_
        exact hq
set_option maxRecDepth 20000 in
theorem C_f0 {G : GW} {h : PH} {Q : RS → PH → Prop} {n : Int32} (e0 : hp_vi h 40 0 0 = 0) (hq : Q (.inl (some (pv_I 0))) h) : VV G 0 0 0 yX12_fails cX12_fails 3 (some .boolean) [] 0 (vv_en 3 [pv_O (40, 0), pv_I 0, pv_I n]) [] h Q := by
  show VV G 0 0 0 yX12_fails cX12_fails 3 (some .boolean) [] 0 [some (pv_O (40, 0)), some (pv_I 0), some (pv_I n)] [] h Q
  refine v_aload_n 1 dX12_fails_0 rfl rfl ?_
  refine v_getfi 4 dX12_fails_1 fl_X12_35 (by first | assumption | rfl) (by rfl) rfl ?_
  rw [e0]
  refine v_if_ne 16 7 dX12_fails_4 (by decide) rfl (fun c4 => ?_) (fun c4 => ?_)
  · exact absurd rfl c4
  · refine v_iload_n 8 dX12_fails_7 rfl rfl ?_
    refine v_if_eq 16 11 dX12_fails_8 (by decide) rfl (fun c8 => ?_) (fun c8 => ?_)
    · refine v_aload_n 17 dX12_fails_16 rfl rfl ?_
      refine v_getfi 20 dX12_fails_17 fl_X12_35 (by first | assumption | rfl) (by rfl) rfl ?_
      rw [e0]
      refine v_if_le 27 23 dX12_fails_20 (by decide) rfl (fun c20 => ?_) (fun c20 => ?_)
      · refine v_iconstv (v := 0) 28 dX12_fails_27 (by decide) rfl ?_
        refine v_zreturn (ty := .boolean) (by first | rfl | decide | exact nz_if | exact nz_fi) dX12_fails_28 rfl ?_
        exact hq
      · exact absurd (by decide) c20
    · exact absurd rfl c8
theorem C_f2 {G : GW} {h : PH} {Q : RS → PH → Prop} {b n : Int32} (e0 : hp_vi h 40 0 0 = 0) (hn : 0 < n) (hq0 : b = 0 → Q (.inl (some (pv_I 0))) h) (hq1 : ¬ b = 0 → Q (.inl (some (pv_I 1))) (hp_seti h 40 0 0 n)) : VV G 0 0 0 yX12_fails cX12_fails 3 (some .boolean) [] 0 (vv_en 3 [pv_O (40, 0), pv_I b, pv_I n]) [] h Q := by
  by_cases e : b = 0
  · subst e
    exact C_f0 e0 (hq0 rfl)
  · exact C_f3 e0 e hn (hq1 e)
theorem C_in2 {G : GW} {h : PH} {Q : RS → PH → Prop} {x lo hi : Int32} {v l u : Int64} (ev : v = x.toInt64) (el : l = lo.toInt64) (eh : u = hi.toInt64) (hq1 : lo ≤ x ∧ x ≤ hi → Q (.inl (some (pv_I 1))) h) (hq0 : ¬ (lo ≤ x ∧ x ≤ hi) → Q (.inl (some (pv_I 0))) h) : VV G 0 0 0 yX12_in cX12_in 6 (some .boolean) [] 0 (vv_en 6 [pv_L v, pv_L l, pv_L u]) [] h Q := by
  subst ev el eh
  refine C_X12_in ?_
  by_cases q : lo ≤ x ∧ x ≤ hi
  · rw [if_pos ⟨l64.mpr q.1, l64.mpr q.2⟩]; exact hq1 q
  · rw [if_neg (fun w => q ⟨l64.mp w.1, l64.mp w.2⟩)]; exact hq0 q
theorem C_sz {G : GW} {h : PH} {Q : RS → PH → Prop} {tl ta n : Nat} {f : Nat → RN} (htl : tg_k tl = some (.inl 3)) (hta : tg_k ta = some (.inr g_O)) (q : q_l h tl ta n f) (hq : Q (.inl (some (pv_I (nI n)))) h) : VV G 0 0 0 yJx4a65c_size_8abf5 cJx4a65c_size_8abf5 1 (some .int) [] 0 (vv_en 1 [pv_O (tl, 0)]) [] h Q := by
  obtain ⟨cap, L⟩ := q
  exact C_Jx4a65c_size_8abf5 htl hta L hq
theorem C_gt {G : GW} {h : PH} {Q : RS → PH → Prop} {x : Int32} {tl ta n : Nat} {f : Nat → RN} (htl : tg_k tl = some (.inl 3)) (hta : tg_k ta = some (.inr g_O)) (q : q_l h tl ta n f) (hx : ok_i x n) (hq : Q (.inl (some (pv_O (f (cl_ x))))) h) : VV G 2 0 0 yJx4a65c_get_915e3 cJx4a65c_get_915e3 2 (some (.object "java/lang/Object")) [] 0 (vv_en 2 [pv_O (tl, 0), pv_I x]) [] h Q := by
  have hn := q.le
  obtain ⟨cap, L⟩ := q
  have hc := hx.cl (by omega)
  have := C_Jx4a65c_get_915e3 (G := G) htl hta L hc.1 hq
  rwa [hc.2] at this
set_option maxRecDepth 20000 in
theorem C_isOf {G : GW} {h : PH} {Q : RS → PH → Prop} {x : Int32} {tl ta n : Nat} {f : Nat → RN} (htl : tg_k tl = some (.inl 3)) (hta : tg_k ta = some (.inr g_O)) (q : q_l h tl ta n f) (hq1 : ok_i x n → Q (.inl (some (pv_I 1))) h) (hq0 : ¬ ok_i x n → Q (.inl (some (pv_I 0))) h) : VV G 2 0 0 yX12_isOf cX12_isOf 2 (some .boolean) [] 0 (vv_en 2 [pv_O (tl, 0), pv_I x]) [] h Q := by
  show VV G 2 0 0 yX12_isOf cX12_isOf 2 (some .boolean) [] 0 [some (pv_O (tl, 0)), some (pv_I x)] [] h Q
  refine v_iload_n 1 dX12_isOf_0 rfl rfl ?_
  refine v_i2l 2 dX12_isOf_1 rfl ?_
  refine v_lconst (v := 0) 3 dX12_isOf_2 (by decide) rfl ?_
  refine v_aload_n 4 dX12_isOf_3 rfl rfl ?_
  refine v_invf (z := ("java/util/ArrayList", TJx4a65c, 3)) (d' := 0) (k' := 0) (n' := 0) (k2 := 0) (n2 := 0) 9 [] dX12_isOf_4 mf_X12_38 md_Jx4a65c_size_8abf5 mi_Jx4a65c_size_8abf5 se_Jx4a65c_size_8abf5 (by simp [g_fw]; rfl) ⟨by decide, by decide +kernel⟩ (by first | assumption | rfl) (by rfl) rfl rfl (of_decide_eq_true rfl) rfl (by decide) rfl rfl rfl rfl (C_sz htl hta q ?_)
  refine v_iconstv (v := 1) 10 dX12_isOf_9 (by decide) rfl ?_
  refine v_isub 11 dX12_isOf_10 rfl ?_
  refine v_i2l 12 dX12_isOf_11 rfl ?_
  refine v_invs (d' := 0) (k' := 0) (n' := 0) (k2 := 0) (n2 := 0) 15 [_, _, _] dX12_isOf_12 mt_X12_44 ms_X12_in rfl rfl (of_decide_eq_true rfl) rfl (by decide) rfl rfl rfl rfl (C_in2 (lo := 0) (hi := nI n - 1) rfl (by decide) rfl (fun a => ?_) (fun b => ?_))
  · refine v_zreturn (ty := .boolean) (by first | rfl | decide | exact nz_if | exact nz_fi) dX12_isOf_15 rfl ?_
    exact hq1 ((oki_iff q.le).mp a)
  · refine v_zreturn (ty := .boolean) (by first | rfl | decide | exact nz_if | exact nz_fi) dX12_isOf_15 rfl ?_
    exact hq0 (fun w => b ((oki_iff q.le).mpr w))
set_option maxRecDepth 20000 in
theorem C_X12_noPanel {G : GW} {h : PH} {Q : RS → PH → Prop} {S : SP} {x : Int32} (R : Rp2 S h) (e0 : hp_vi h 40 0 0 = 0) (hq0 : ok_i x (nn_ S 2) → Q (.inl (some (pv_I 0))) h) (hq1 : ¬ ok_i x (nn_ S 2) → Q (.inl (some (pv_I 1))) (hp_seti h 40 0 0 1)) : VV G 4 0 0 yX12_noPanel cX12_noPanel 2 (some .boolean) [] 0 (vv_en 2 [pv_O (40, 0), pv_I x]) [] h Q := by
  show VV G 4 0 0 yX12_noPanel cX12_noPanel 2 (some .boolean) [] 0 [some (pv_O (40, 0)), some (pv_I x)] [] h Q
  refine v_aload_n 1 dX12_noPanel_0 rfl rfl ?_
  refine v_aload_n 2 dX12_noPanel_1 rfl rfl ?_
  refine v_getfr 5 dX12_noPanel_2 fl_X12_19 (by first | assumption | rfl) (by rfl) rfl ?_
  rw [R.1.1.2.2.2.1]
  refine v_iload_n 6 dX12_noPanel_5 rfl rfl ?_
  refine v_invs (d' := 2) (k' := 0) (n' := 0) (k2 := 0) (n2 := 0) 9 [_, _] dX12_noPanel_6 mt_X12_80 ms_X12_isOf rfl rfl (of_decide_eq_true rfl) rfl (by decide) rfl rfl rfl rfl (C_isOf (tl := 52) (ta := 58) rfl rfl R.2.1.2.2.1 (fun a6 => ?_) (fun b6 => ?_))
  · refine v_if_ne 16 12 dX12_noPanel_9 (by decide) rfl (fun c9 => ?_) (fun c9 => ?_)
    · refine v_iconstv (v := 0) 17 dX12_noPanel_16 (by decide) rfl ?_
      refine v_iconstv (v := 1) 18 dX12_noPanel_17 (by decide) rfl ?_
      refine v_invv (d' := 0) (k' := 0) (n' := 0) (k2 := 0) (n2 := 0) 21 [_, _] dX12_noPanel_18 mt_X12_67 mi_X12_fails me_X12_fails (by first | assumption | rfl) (by rfl) rfl rfl (of_decide_eq_true rfl) rfl (by decide) rfl rfl rfl rfl (C_f0 e0 ?_)
      refine v_zreturn (ty := .boolean) (by first | rfl | decide | exact nz_if | exact nz_fi) dX12_noPanel_21 rfl ?_
      exact hq0 a6
    · first | exact absurd c9 (by decide) | exact absurd rfl c9 | exact absurd (of_decide_eq_true rfl) c9
  · refine v_if_ne 16 12 dX12_noPanel_9 (by decide) rfl (fun c9 => ?_) (fun c9 => ?_)
    · first | exact absurd c9 (by decide) | exact absurd rfl c9 | exact absurd (of_decide_eq_true rfl) c9
    · refine v_iconstv (v := 1) 13 dX12_noPanel_12 (by decide) rfl ?_
      refine v_goto 17 dX12_noPanel_13 (by decide) ?_
      refine v_iconstv (v := 1) 18 dX12_noPanel_17 (by decide) rfl ?_
      refine v_invv (d' := 0) (k' := 0) (n' := 0) (k2 := 0) (n2 := 0) 21 [_, _] dX12_noPanel_18 mt_X12_67 mi_X12_fails me_X12_fails (by first | assumption | rfl) (by rfl) rfl rfl (of_decide_eq_true rfl) rfl (by decide) rfl rfl rfl rfl (C_f1 e0 (by decide) ?_)
      refine v_zreturn (ty := .boolean) (by first | rfl | decide | exact nz_if | exact nz_fi) dX12_noPanel_21 rfl ?_
      exact hq1 b6
set_option maxRecDepth 20000 in
theorem C_X12_noPicture {G : GW} {h : PH} {Q : RS → PH → Prop} {S : SP} {x : Int32} (R : Rp2 S h) (e0 : hp_vi h 40 0 0 = 0) (hq0 : ok_i x (nn_ S 3) → Q (.inl (some (pv_I 0))) h) (hq1 : ¬ ok_i x (nn_ S 3) → Q (.inl (some (pv_I 1))) (hp_seti h 40 0 0 1)) : VV G 4 0 0 yX12_noPicture cX12_noPicture 2 (some .boolean) [] 0 (vv_en 2 [pv_O (40, 0), pv_I x]) [] h Q := by
  show VV G 4 0 0 yX12_noPicture cX12_noPicture 2 (some .boolean) [] 0 [some (pv_O (40, 0)), some (pv_I x)] [] h Q
  refine v_aload_n 1 dX12_noPicture_0 rfl rfl ?_
  refine v_aload_n 2 dX12_noPicture_1 rfl rfl ?_
  refine v_getfr 5 dX12_noPicture_2 fl_X12_32 (by first | assumption | rfl) (by rfl) rfl ?_
  rw [R.1.1.2.2.2.2.2.2]
  refine v_iload_n 6 dX12_noPicture_5 rfl rfl ?_
  refine v_invs (d' := 2) (k' := 0) (n' := 0) (k2 := 0) (n2 := 0) 9 [_, _] dX12_noPicture_6 mt_X12_80 ms_X12_isOf rfl rfl (of_decide_eq_true rfl) rfl (by decide) rfl rfl rfl rfl (C_isOf (tl := 55) (ta := 61) rfl rfl R.2.1.2.2.2.2.2 (fun a6 => ?_) (fun b6 => ?_))
  · refine v_if_ne 16 12 dX12_noPicture_9 (by decide) rfl (fun c9 => ?_) (fun c9 => ?_)
    · refine v_iconstv (v := 0) 17 dX12_noPicture_16 (by decide) rfl ?_
      refine v_iconstv (v := 1) 18 dX12_noPicture_17 (by decide) rfl ?_
      refine v_invv (d' := 0) (k' := 0) (n' := 0) (k2 := 0) (n2 := 0) 21 [_, _] dX12_noPicture_18 mt_X12_67 mi_X12_fails me_X12_fails (by first | assumption | rfl) (by rfl) rfl rfl (of_decide_eq_true rfl) rfl (by decide) rfl rfl rfl rfl (C_f0 e0 ?_)
      refine v_zreturn (ty := .boolean) (by first | rfl | decide | exact nz_if | exact nz_fi) dX12_noPicture_21 rfl ?_
      exact hq0 a6
    · first | exact absurd c9 (by decide) | exact absurd rfl c9 | exact absurd (of_decide_eq_true rfl) c9
  · refine v_if_ne 16 12 dX12_noPicture_9 (by decide) rfl (fun c9 => ?_) (fun c9 => ?_)
    · first | exact absurd c9 (by decide) | exact absurd rfl c9 | exact absurd (of_decide_eq_true rfl) c9
    · refine v_iconstv (v := 1) 13 dX12_noPicture_12 (by decide) rfl ?_
      refine v_goto 17 dX12_noPicture_13 (by decide) ?_
      refine v_iconstv (v := 1) 18 dX12_noPicture_17 (by decide) rfl ?_
      refine v_invv (d' := 0) (k' := 0) (n' := 0) (k2 := 0) (n2 := 0) 21 [_, _] dX12_noPicture_18 mt_X12_67 mi_X12_fails me_X12_fails (by first | assumption | rfl) (by rfl) rfl rfl (of_decide_eq_true rfl) rfl (by decide) rfl rfl rfl rfl (C_f1 e0 (by decide) ?_)
      refine v_zreturn (ty := .boolean) (by first | rfl | decide | exact nz_if | exact nz_fi) dX12_noPicture_21 rfl ?_
      exact hq1 b6
set_option maxRecDepth 20000 in
theorem C_X12_isLeaf {G : GW} {h : PH} {Q : RS → PH → Prop} {S : SP} {N : Nat} {x l : Int32} (R : Rp2 S h) (I : Iv S N) (hq1 : ok_l_ S x l → Q (.inl (some (pv_I 1))) h) (hq0 : ¬ ok_l_ S x l → Q (.inl (some (pv_I 0))) h) : VV G 4 0 0 yX12_isLeaf cX12_isLeaf 3 (some .boolean) [] 0 (vv_en 3 [pv_O (40, 0), pv_I x, pv_I l]) [] h Q := by
  show VV G 4 0 0 yX12_isLeaf cX12_isLeaf 3 (some .boolean) [] 0 [some (pv_O (40, 0)), some (pv_I x), some (pv_I l)] [] h Q
  obtain ⟨z0, z1, z2, z3, z4, z5⟩ := I.cs
  refine v_aload_n 1 dX12_isLeaf_0 rfl rfl ?_
  refine v_getfr 4 dX12_isLeaf_1 fl_X12_16 (by first | assumption | rfl) (by rfl) rfl ?_
  rw [R.1.1.2.2.1]
  refine v_iload_n 5 dX12_isLeaf_4 rfl rfl ?_
  refine v_invs (d' := 2) (k' := 0) (n' := 0) (k2 := 0) (n2 := 0) 8 [_, _] dX12_isLeaf_5 mt_X12_80 ms_X12_isOf rfl rfl (of_decide_eq_true rfl) rfl (by decide) rfl rfl rfl rfl (C_isOf (tl := 51) (ta := 57) rfl rfl R.2.1.2.1 (fun a5 => ?_) (fun b5 => ?_))
  · refine v_if_eq 44 11 dX12_isLeaf_8 (by decide) rfl (fun c8 => ?_) (fun c8 => ?_)
    · first | exact absurd c8 (by decide) | exact absurd rfl c8 | exact absurd (of_decide_eq_true rfl) c8
    · refine v_iload_n 12 dX12_isLeaf_11 rfl rfl ?_
      refine v_i2l 13 dX12_isLeaf_12 rfl ?_
      refine v_lconst (v := 0) 14 dX12_isLeaf_13 (by decide) rfl ?_
      refine v_aload_n 15 dX12_isLeaf_14 rfl rfl ?_
      refine v_getfr 18 dX12_isLeaf_15 fl_X12_16 (by first | assumption | rfl) (by rfl) rfl ?_
      rw [R.1.1.2.2.1]
      refine v_iload_n 19 dX12_isLeaf_18 rfl rfl ?_
      refine v_invf (z := ("java/util/ArrayList", TJx4a65c, 3)) (d' := 2) (k' := 0) (n' := 0) (k2 := 0) (n2 := 0) 24 [_] dX12_isLeaf_19 mf_X12_90 md_Jx4a65c_get_915e3 mi_Jx4a65c_get_915e3 se_Jx4a65c_get_915e3 (by simp [g_fw]; rfl) ⟨by decide, by decide +kernel⟩ (by first | assumption | rfl) (by rfl) rfl rfl (of_decide_eq_true rfl) rfl (by decide) rfl rfl rfl rfl (C_gt (tl := 51) (ta := 57) rfl rfl R.2.1.2.1 (by assumption) ?_)
      refine v_cast 27 dX12_isLeaf_24 ⟨_, _, rfl, rfl, cl_X12_98⟩ rfl ?_
      refine v_getfr 30 dX12_isLeaf_27 fl_X12_103 (by first | assumption | rfl) (by rfl) rfl ?_
      rw [R.vr (t := 42) (by decide), I.us (ok_i.cl a5 (by omega)).1]
      refine v_alen 31 dX12_isLeaf_30 (by first | assumption | rfl) (by simp [g_tys]) rfl ?_
      rw [R.ln (t := 62) (by decide)]
      refine v_iconstv (v := 1) 32 dX12_isLeaf_31 (by decide) rfl ?_
      refine v_isub 33 dX12_isLeaf_32 rfl ?_
      refine v_i2l 34 dX12_isLeaf_33 rfl ?_
      refine v_invs (d' := 0) (k' := 0) (n' := 0) (k2 := 0) (n2 := 0) 37 [_, _, _] dX12_isLeaf_34 mt_X12_44 ms_X12_in rfl rfl (of_decide_eq_true rfl) rfl (by decide) rfl rfl rfl rfl (C_in2 (lo := 0) (hi := nI (s_n S (cl_ x)) - 1) rfl (by decide) rfl (fun a => ?_) (fun b => ?_))
      · refine v_if_eq 44 40 dX12_isLeaf_37 (by decide) rfl (fun c37 => ?_) (fun c37 => ?_)
        · first | exact absurd c37 (by decide) | exact absurd rfl c37 | exact absurd (of_decide_eq_true rfl) c37
        · refine v_iconstv (v := 1) 41 dX12_isLeaf_40 (by decide) rfl ?_
          refine v_goto 45 dX12_isLeaf_41 (by decide) ?_
          refine v_zreturn (ty := .boolean) (by first | rfl | decide | exact nz_if | exact nz_fi) dX12_isLeaf_45 rfl ?_
          exact hq1 ⟨a5, (oki_iff (by have := I.n24 (ok_i.cl a5 (by omega)).1; omega)).mp a⟩
      · refine v_if_eq 44 40 dX12_isLeaf_37 (by decide) rfl (fun c37 => ?_) (fun c37 => ?_)
        · refine v_iconstv (v := 0) 45 dX12_isLeaf_44 (by decide) rfl ?_
          refine v_zreturn (ty := .boolean) (by first | rfl | decide | exact nz_if | exact nz_fi) dX12_isLeaf_45 rfl ?_
          exact hq0 (fun w => b ((oki_iff (by have := I.n24 (ok_i.cl a5 (by omega)).1; omega)).mpr w.2))
        · first | exact absurd c37 (by decide) | exact absurd rfl c37 | exact absurd (of_decide_eq_true rfl) c37
  · refine v_if_eq 44 11 dX12_isLeaf_8 (by decide) rfl (fun c8 => ?_) (fun c8 => ?_)
    · refine v_iconstv (v := 0) 45 dX12_isLeaf_44 (by decide) rfl ?_
      refine v_zreturn (ty := .boolean) (by first | rfl | decide | exact nz_if | exact nz_fi) dX12_isLeaf_45 rfl ?_
      exact hq0 (fun w => b5 w.1)
    · first | exact absurd c8 (by decide) | exact absurd rfl c8 | exact absurd (of_decide_eq_true rfl) c8
set_option maxRecDepth 20000 in
theorem C_X12_noLeaf {G : GW} {h : PH} {Q : RS → PH → Prop} {S : SP} {N : Nat} {x l : Int32} (R : Rp2 S h) (I : Iv S N) (e0 : hp_vi h 40 0 0 = 0) (hq0 : ok_l_ S x l → Q (.inl (some (pv_I 0))) h) (hq1 : ¬ ok_l_ S x l → Q (.inl (some (pv_I 1))) (hp_seti h 40 0 0 1)) : VV G 5 0 0 yX12_noLeaf cX12_noLeaf 3 (some .boolean) [] 0 (vv_en 3 [pv_O (40, 0), pv_I x, pv_I l]) [] h Q := by
  show VV G 5 0 0 yX12_noLeaf cX12_noLeaf 3 (some .boolean) [] 0 [some (pv_O (40, 0)), some (pv_I x), some (pv_I l)] [] h Q
  refine v_aload_n 1 dX12_noLeaf_0 rfl rfl ?_
  refine v_aload_n 2 dX12_noLeaf_1 rfl rfl ?_
  refine v_iload_n 3 dX12_noLeaf_2 rfl rfl ?_
  refine v_iload_n 4 dX12_noLeaf_3 rfl rfl ?_
  refine v_invv (d' := 4) (k' := 0) (n' := 0) (k2 := 0) (n2 := 0) 7 [_, _] dX12_noLeaf_4 mt_X12_107 mi_X12_isLeaf me_X12_isLeaf (by first | assumption | rfl) (by rfl) rfl rfl (of_decide_eq_true rfl) rfl (by decide) rfl rfl rfl rfl (C_X12_isLeaf R I (fun a => ?_) (fun b => ?_))
  · refine v_if_ne 14 10 dX12_noLeaf_7 (by decide) rfl (fun c7 => ?_) (fun c7 => ?_)
    · refine v_iconstv (v := 0) 15 dX12_noLeaf_14 (by decide) rfl ?_
      refine v_iconstv (v := 1) 16 dX12_noLeaf_15 (by decide) rfl ?_
      refine v_invv (d' := 0) (k' := 0) (n' := 0) (k2 := 0) (n2 := 0) 19 [_, _] dX12_noLeaf_16 mt_X12_67 mi_X12_fails me_X12_fails (by first | assumption | rfl) (by rfl) rfl rfl (of_decide_eq_true rfl) rfl (by decide) rfl rfl rfl rfl (C_f0 e0 ?_)
      refine v_zreturn (ty := .boolean) (by first | rfl | decide | exact nz_if | exact nz_fi) dX12_noLeaf_19 rfl ?_
      exact hq0 a
    · first | exact absurd c7 (by decide) | exact absurd rfl c7 | exact absurd (of_decide_eq_true rfl) c7
  · refine v_if_ne 14 10 dX12_noLeaf_7 (by decide) rfl (fun c7 => ?_) (fun c7 => ?_)
    · first | exact absurd c7 (by decide) | exact absurd rfl c7 | exact absurd (of_decide_eq_true rfl) c7
    · refine v_iconstv (v := 1) 11 dX12_noLeaf_10 (by decide) rfl ?_
      refine v_goto 15 dX12_noLeaf_11 (by decide) ?_
      refine v_iconstv (v := 1) 16 dX12_noLeaf_15 (by decide) rfl ?_
      refine v_invv (d' := 0) (k' := 0) (n' := 0) (k2 := 0) (n2 := 0) 19 [_, _] dX12_noLeaf_16 mt_X12_67 mi_X12_fails me_X12_fails (by first | assumption | rfl) (by rfl) rfl rfl (of_decide_eq_true rfl) rfl (by decide) rfl rfl rfl rfl (C_f1 e0 (by decide) ?_)
      refine v_zreturn (ty := .boolean) (by first | rfl | decide | exact nz_if | exact nz_fi) dX12_noLeaf_19 rfl ?_
      exact hq1 b
theorem row_le {n : Nat} {a m : Int32} (hn : n ≤ 1000) (ha : ok_i a n) : m ≤ nI n - a ↔ a.toInt + m.toInt ≤ n := by
  obtain ⟨j, hj, rfl⟩ := ha.nat (by omega)
  rw [Int32.le_iff_toInt_le, pk_sub_toInt (by omega) (by omega), nI_toInt (by omega)]
  omega
set_option maxRecDepth 20000 in
theorem C_X12_noRow {G : GW} {h : PH} {Q : RS → PH → Prop} {S : SP} {N : Nat} {x l m : Int32} (R : Rp2 S h) (I : Iv S N) (e0 : hp_vi h 40 0 0 = 0) (hq0 : ok_r_ S x l m → Q (.inl (some (pv_I 0))) h) (hq1 : ¬ ok_r_ S x l m → Q (.inl (some (pv_I 1))) (hp_seti h 40 0 0 1)) : VV G 5 0 0 yX12_noRow cX12_noRow 4 (some .boolean) [] 0 (vv_en 4 [pv_O (40, 0), pv_I x, pv_I l, pv_I m]) [] h Q := by
  show VV G 5 0 0 yX12_noRow cX12_noRow 4 (some .boolean) [] 0 [some (pv_O (40, 0)), some (pv_I x), some (pv_I l), some (pv_I m)] [] h Q
  obtain ⟨z0, z1, z2, z3, z4, z5⟩ := I.cs
  refine v_aload_n 1 dX12_noRow_0 rfl rfl ?_
  refine v_aload_n 2 dX12_noRow_1 rfl rfl ?_
  refine v_iload_n 3 dX12_noRow_2 rfl rfl ?_
  refine v_iload_n 4 dX12_noRow_3 rfl rfl ?_
  refine v_invv (d' := 4) (k' := 0) (n' := 0) (k2 := 0) (n2 := 0) 7 [_, _] dX12_noRow_4 mt_X12_107 mi_X12_isLeaf me_X12_isLeaf (by first | assumption | rfl) (by rfl) rfl rfl (of_decide_eq_true rfl) rfl (by decide) rfl rfl rfl rfl (C_X12_isLeaf R I (fun a => ?_) (fun b => ?_))
  · have n24 := I.n24 (ok_i.cl a.1 (by omega)).1
    have a2 := nI_toInt (n := cl_ l) (by have := (ok_i.cl a.2 (by omega)).1; omega)
    rw [(ok_i.cl a.2 (by omega)).2] at a2
    have a3 := (ok_i.cl a.2 (by omega)).1
    refine v_if_eq 42 10 dX12_noRow_7 (by decide) rfl (fun c7 => ?_) (fun c7 => ?_)
    · first | exact absurd c7 (by decide) | exact absurd rfl c7 | exact absurd (of_decide_eq_true rfl) c7
    · refine v_iload_n 11 dX12_noRow_10 rfl rfl ?_
      refine v_iconstv (v := 1) 12 dX12_noRow_11 (by decide) rfl ?_
      refine v_icmp_le 46 15 dX12_noRow_12 (by decide) rfl (fun c12 => ?_) (fun c12 => ?_)
      · have g : ok_r_ S x l m := ⟨a.1, a.2, (row_le (by omega) a.2).mpr (by have := Int32.le_iff_toInt_le.mp c12; have e1 : (1 : Int32).toInt = 1 := rfl; omega)⟩
        refine v_iconstv (v := 0) 47 dX12_noRow_46 (by decide) rfl ?_
        refine v_iconstv (v := 1) 48 dX12_noRow_47 (by decide) rfl ?_
        refine v_invv (d' := 0) (k' := 0) (n' := 0) (k2 := 0) (n2 := 0) 51 [_, _] dX12_noRow_48 mt_X12_67 mi_X12_fails me_X12_fails (by first | assumption | rfl) (by rfl) rfl rfl (of_decide_eq_true rfl) rfl (by decide) rfl rfl rfl rfl (C_f0 e0 ?_)
        refine v_zreturn (ty := .boolean) (by first | rfl | decide | exact nz_if | exact nz_fi) dX12_noRow_51 rfl ?_
        exact hq0 g
      · have a1 := a.1
        refine v_iload_n 16 dX12_noRow_15 rfl rfl ?_
        refine v_i2l 17 dX12_noRow_16 rfl ?_
        refine v_iload_n 18 dX12_noRow_17 rfl rfl ?_
        refine v_i2l 19 dX12_noRow_18 rfl ?_
        refine v_ladd 20 dX12_noRow_19 rfl ?_
        refine v_aload_n 21 dX12_noRow_20 rfl rfl ?_
        refine v_getfr 24 dX12_noRow_21 fl_X12_16 (by first | assumption | rfl) (by rfl) rfl ?_
        rw [R.1.1.2.2.1]
        refine v_iload_n 25 dX12_noRow_24 rfl rfl ?_
        refine v_invf (z := ("java/util/ArrayList", TJx4a65c, 3)) (d' := 2) (k' := 0) (n' := 0) (k2 := 0) (n2 := 0) 30 [_] dX12_noRow_25 mf_X12_90 md_Jx4a65c_get_915e3 mi_Jx4a65c_get_915e3 se_Jx4a65c_get_915e3 (by simp [g_fw]; rfl) ⟨by decide, by decide +kernel⟩ (by first | assumption | rfl) (by rfl) rfl rfl (of_decide_eq_true rfl) rfl (by decide) rfl rfl rfl rfl (C_gt (tl := 51) (ta := 57) rfl rfl R.2.1.2.1 a1 ?_)
        refine v_cast 33 dX12_noRow_30 ⟨_, _, rfl, rfl, cl_X12_98⟩ rfl ?_
        refine v_getfr 36 dX12_noRow_33 fl_X12_103 (by first | assumption | rfl) (by rfl) rfl ?_
        rw [R.vr (t := 42) (by decide), I.us (ok_i.cl a.1 (by omega)).1]
        refine v_alen 37 dX12_noRow_36 (by first | assumption | rfl) (by simp [g_tys]) rfl ?_
        rw [R.ln (t := 62) (by decide)]
        refine v_i2l 38 dX12_noRow_37 rfl ?_
        refine v_lcmp 39 dX12_noRow_38 rfl ?_
        refine v_if_le 46 42 dX12_noRow_39 (by decide) rfl (fun c39 => ?_) (fun c39 => ?_)
        · have g : ok_r_ S x l m := ⟨a.1, a.2, (row_le (by omega) a.2).mpr (by
            have q := Int64.not_lt.mp (fun w => absurd c39 (Int32.not_le.mpr (lc_gt.mpr w)))
            rw [Int64.le_iff_toInt_le, t64_add, Int32.toInt_toInt64, nI_toInt (show hp_ln S.1 62 (cl_ x) < 2 ^ 31 by show s_n S (cl_ x) < 2 ^ 31; omega)] at q
            exact q)⟩
          refine v_iconstv (v := 0) 47 dX12_noRow_46 (by decide) rfl ?_
          refine v_iconstv (v := 1) 48 dX12_noRow_47 (by decide) rfl ?_
          refine v_invv (d' := 0) (k' := 0) (n' := 0) (k2 := 0) (n2 := 0) 51 [_, _] dX12_noRow_48 mt_X12_67 mi_X12_fails me_X12_fails (by first | assumption | rfl) (by rfl) rfl rfl (of_decide_eq_true rfl) rfl (by decide) rfl rfl rfl rfl (C_f0 e0 ?_)
          refine v_zreturn (ty := .boolean) (by first | rfl | decide | exact nz_if | exact nz_fi) dX12_noRow_51 rfl ?_
          exact hq0 g
        · have g : ¬ ok_r_ S x l m := fun w => c39 (Int32.not_lt.mp (fun y => by
            have q := lc_gt.mp y
            rw [Int64.lt_iff_toInt_lt, t64_add, Int32.toInt_toInt64, nI_toInt (show hp_ln S.1 62 (cl_ x) < 2 ^ 31 by show s_n S (cl_ x) < 2 ^ 31; omega)] at q
            have q2 := (row_le (n := s_n S (cl_ x)) (by omega) a.2).mp w.2.2
            have q3 : l.toInt + m.toInt ≤ (hp_ln S.1 62 (cl_ x) : Int) := q2
            omega))
          refine v_iconstv (v := 1) 43 dX12_noRow_42 (by decide) rfl ?_
          refine v_goto 47 dX12_noRow_43 (by decide) ?_
          refine v_iconstv (v := 1) 48 dX12_noRow_47 (by decide) rfl ?_
          refine v_invv (d' := 0) (k' := 0) (n' := 0) (k2 := 0) (n2 := 0) 51 [_, _] dX12_noRow_48 mt_X12_67 mi_X12_fails me_X12_fails (by first | assumption | rfl) (by rfl) rfl rfl (of_decide_eq_true rfl) rfl (by decide) rfl rfl rfl rfl (C_f1 e0 (by decide) ?_)
          refine v_zreturn (ty := .boolean) (by first | rfl | decide | exact nz_if | exact nz_fi) dX12_noRow_51 rfl ?_
          first | exact hq1 g | exact hq1 (fun w => b ⟨w.1, w.2.1⟩)
  · refine v_if_eq 42 10 dX12_noRow_7 (by decide) rfl (fun c7 => ?_) (fun c7 => ?_)
    · refine v_iconstv (v := 1) 43 dX12_noRow_42 (by decide) rfl ?_
      refine v_goto 47 dX12_noRow_43 (by decide) ?_
      refine v_iconstv (v := 1) 48 dX12_noRow_47 (by decide) rfl ?_
      refine v_invv (d' := 0) (k' := 0) (n' := 0) (k2 := 0) (n2 := 0) 51 [_, _] dX12_noRow_48 mt_X12_67 mi_X12_fails me_X12_fails (by first | assumption | rfl) (by rfl) rfl rfl (of_decide_eq_true rfl) rfl (by decide) rfl rfl rfl rfl (C_f1 e0 (by decide) ?_)
      refine v_zreturn (ty := .boolean) (by first | rfl | decide | exact nz_if | exact nz_fi) dX12_noRow_51 rfl ?_
      first | exact hq1 g | exact hq1 (fun w => b ⟨w.1, w.2.1⟩)
    · first | exact absurd c7 (by decide) | exact absurd rfl c7 | exact absurd (of_decide_eq_true rfl) c7
