section VVR4
variable {S S' : SP} {h h' a b : PH}
theorem hp_te.bi {u t i k : Nat} {x : Int32} (e : hp_te a b u) : hp_te (hp_seti a t i k x) (hp_seti b t i k x) u := by
  obtain ⟨e1, e2, e3, e4, e5, e6⟩ := e
  refine ⟨e1, e2, ?_, e4, e5, e6⟩
  funext j l
  show (if u = t ∧ j = i ∧ l = k then x else hp_vi b u j l) = if u = t ∧ j = i ∧ l = k then x else hp_vi a u j l
  rw [e3]
theorem hp_te.br {u t i k : Nat} {x : RN} (e : hp_te a b u) : hp_te (hp_setr a t i k x) (hp_setr b t i k x) u := by
  obtain ⟨e1, e2, e3, e4, e5, e6⟩ := e
  refine ⟨e1, e2, e3, ?_, e5, e6⟩
  funext j l
  show (if u = t ∧ j = i ∧ l = k then x else hp_vr b u j l) = if u = t ∧ j = i ∧ l = k then x else hp_vr a u j l
  rw [e4]
theorem hp_te.bn {u t i n : Nat} (e : hp_te a b u) : hp_te (hp_new a t i n) (hp_new b t i n) u := by
  obtain ⟨e1, e2, e3, e4, e5, e6⟩ := e
  refine ⟨?_, ?_, ?_, ?_, ?_, ?_⟩
  · funext j
    show (if u = t ∧ j = i then true else hp_al b u j) = if u = t ∧ j = i then true else hp_al a u j
    rw [e1]
  · funext j
    show (if u = t ∧ j = i then n else hp_ln b u j) = if u = t ∧ j = i then n else hp_ln a u j
    rw [e2]
  · funext j l
    show (if u = t ∧ j = i then 0 else hp_vi b u j l) = if u = t ∧ j = i then 0 else hp_vi a u j l
    rw [e3]
  · funext j l
    show (if u = t ∧ j = i then (0, 0) else hp_vr b u j l) = if u = t ∧ j = i then (0, 0) else hp_vr a u j l
    rw [e4]
  · funext j l
    show (if u = t ∧ j = i then 0 else hp_vl b u j l) = if u = t ∧ j = i then 0 else hp_vl a u j l
    rw [e5]
  · funext j l
    show (if u = t ∧ j = i then 0 else hp_vd b u j l) = if u = t ∧ j = i then 0 else hp_vd a u j l
    rw [e6]
abbrev rt_ (t : Nat) : Prop := (41 ≤ t ∧ t < 49) ∨ t = 62 ∨ t = 63 ∨ t = 64
theorem Rp2.i (R : Rp2 S h) {t i k : Nat} {x : Int32} (ht : rt_ t) : Rp2 (hp_seti S.1 t i k x, S.2) (hp_seti h t i k x) :=
  ⟨R.1.te (hp_te.i (by omega)) (hp_te.i (u := 40) (h := S.1) (t := t) (i := i) (k := k) (x := x) (by omega)).2.2.1, R.2.1.te (fun u hu => hp_te.i (by omega)) rfl, fun u h1 h2 => (R.2.2.1 u h1 h2).bi, R.2.2.2.1.bi, R.2.2.2.2.1.bi, R.2.2.2.2.2.bi⟩
theorem Rp2.r (R : Rp2 S h) {t i k : Nat} {x : RN} (ht : rt_ t) : Rp2 (hp_setr S.1 t i k x, S.2) (hp_setr h t i k x) :=
  ⟨R.1.te (hp_te.r (by omega)) rfl, R.2.1.te (fun u hu => hp_te.r (by omega)) rfl, fun u h1 h2 => (R.2.2.1 u h1 h2).br, R.2.2.2.1.br, R.2.2.2.2.1.br, R.2.2.2.2.2.br⟩
theorem Rp2.n (R : Rp2 S h) {t i n : Nat} (ht : rt_ t) : Rp2 (hp_new S.1 t i n, S.2) (hp_new h t i n) :=
  ⟨R.1.te (hp_te.n (by omega)) (hp_te.n (u := 40) (h := S.1) (t := t) (i := i) (m := n) (by omega)).2.2.1, R.2.1.te (fun u hu => hp_te.n (by omega)) rfl, fun u h1 h2 => (R.2.2.1 u h1 h2).bn, R.2.2.2.1.bn, R.2.2.2.2.1.bn, R.2.2.2.2.2.bn⟩
/-- a number of the object itself -/
theorem Rp2.g (R : Rp2 S h) {k : Nat} {x : Int32} (hk : 6 ≤ k ∧ k < 12) : Rp2 (hp_seti S.1 40 0 k x, S.2) (hp_seti h 40 0 k x) := by
  obtain ⟨⟨r0, r1⟩, r2, r3⟩ := R
  refine ⟨⟨r0, fun j h1 h2 => ?_⟩, r2.te (fun u hu => hp_te.i (by omega)) rfl, fun u h1 h2 => (r3.1 u h1 h2).bi, r3.2.1.bi, r3.2.2.1.bi, r3.2.2.2.bi⟩
  show (if 40 = 40 ∧ 0 = 0 ∧ j = k then x else hp_vi h 40 0 j) = if 40 = 40 ∧ 0 = 0 ∧ j = k then x else hp_vi S.1 40 0 j
  rw [r1 j h1 h2]
theorem Rp2.i' {A : PH} {c : (Nat → Nat) × (Nat → Nat)} (R : Rp2 (A, c) h) {t i k : Nat} {x : Int32} (ht : rt_ t) : Rp2 (hp_seti A t i k x, c) (hp_seti h t i k x) := R.i ht
theorem Rp2.r' {A : PH} {c : (Nat → Nat) × (Nat → Nat)} (R : Rp2 (A, c) h) {t i k : Nat} {x : RN} (ht : rt_ t) : Rp2 (hp_setr A t i k x, c) (hp_setr h t i k x) := R.r ht
theorem Rp2.n' {A : PH} {c : (Nat → Nat) × (Nat → Nat)} (R : Rp2 (A, c) h) {t i n : Nat} (ht : rt_ t) : Rp2 (hp_new A t i n, c) (hp_new h t i n) := R.n ht
theorem Rp2.g' {A : PH} {c : (Nat → Nat) × (Nat → Nat)} (R : Rp2 (A, c) h) {k : Nat} {x : Int32} (hk : 6 ≤ k ∧ k < 12) : Rp2 (hp_seti A 40 0 k x, c) (hp_seti h 40 0 k x) := R.g hk
/-- lists and counts changed -/
theorem Rp2.ls (R : Rp2 S h) (e : S'.1 = S.1) (te : ∀ t, t = 40 ∨ rt_ t → hp_te h h' t) (L : q2_L S' h') : Rp2 S' h' := by
  refine ⟨R.1.te (te _ (Or.inl rfl)) (by rw [e]), L, fun t h1 h2 => ?_, ?_, ?_, ?_⟩
  · rw [e]; exact (R.2.2.1 t h1 h2).tr (te t (Or.inr (Or.inl ⟨h1, h2⟩)))
  · rw [e]; exact R.2.2.2.1.tr (te _ (by decide))
  · rw [e]; exact R.2.2.2.2.1.tr (te _ (by decide))
  · rw [e]; exact R.2.2.2.2.2.tr (te _ (by decide))
/-- what is thrown stays apart -/
theorem Rp2.keep (R : Rp2 S h) (te : ∀ t, (40 ≤ t ∧ t < 65) ∨ t = 5 → hp_te h h' t) : Rp2 S h' := R.te te
end VVR4
set_option maxRecDepth 20000 in
theorem C_X12_slit {G : GW} {h : PH} {Q : RS → PH → Prop} {S : SP} {N : Nat} (R : Rp2 S h) (I : Iv S N) {x : Int32} (hq : ∀ v h', ((op_slit S x).1 = 0 → v = (op_slit S x).2.1) → Rp2 (op_slit S x).2.2 h' → hp_vi h' 40 0 0 = nI (op_slit S x).1 → ke_ h h' → Q (.inl (some (pv_I v))) h') : VV G 9 0 0 yX12_slit cX12_slit 2 (some .int) [] 0 (vv_en 2 [pv_O (40, 0), pv_I x]) [] h Q := by
  show VV G 9 0 0 yX12_slit cX12_slit 2 (some .int) [] 0 [some (pv_O (40, 0)), some (pv_I x)] [] h Q
  obtain ⟨z0, z1, z2, z3, z4, z5⟩ := I.cs
  refine v_aload_n 1 dX12_slit_0 rfl rfl ?_
  refine v_invv (d' := 0) (k' := 0) (n' := 0) (k2 := 0) (n2 := 0) 4 [] dX12_slit_1 mt_X12_48 mi_X12_begins me_X12_begins (by first | assumption | rfl) (by rfl) rfl rfl (of_decide_eq_true rfl) rfl (by decide) rfl rfl rfl rfl (C2_begins R (fun h0 R e0 ke0 => ?_))
  refine v_aload_n 5 dX12_slit_4 rfl rfl ?_
  refine v_iload_n 6 dX12_slit_5 rfl rfl ?_
  refine v_invv (d' := 4) (k' := 0) (n' := 0) (k2 := 0) (n2 := 0) 9 [_] dX12_slit_6 mt_X12_171 mi_X12_noPanel me_X12_noPanel (by first | assumption | rfl) (by rfl) rfl rfl (of_decide_eq_true rfl) rfl (by decide) rfl rfl rfl rfl (C_X12_noPanel R e0 (fun a6 => ?_) (fun b6 => ?_))
  · have hc := a6.cl (by omega)
    refine v_if_ne 44 12 dX12_slit_9 (by decide) rfl (fun c9 => ?_) (fun c9 => ?_)
    · first | exact absurd c9 (by decide) | exact absurd rfl c9 | exact absurd (of_decide_eq_true rfl) c9
    · refine v_aload_n 13 dX12_slit_12 rfl rfl ?_
      refine v_aload_n 14 dX12_slit_13 rfl rfl ?_
      refine v_getfr 17 dX12_slit_14 fl_X12_19 (by first | assumption | rfl) (by rfl) rfl ?_
      rw [R.1.1.2.2.2.1]
      refine v_iload_n 18 dX12_slit_17 rfl rfl ?_
      refine v_invf (z := ("java/util/ArrayList", TJx4a65c, 3)) (d' := 2) (k' := 0) (n' := 0) (k2 := 0) (n2 := 0) 23 [_] dX12_slit_18 mf_X12_90 md_Jx4a65c_get_915e3 mi_Jx4a65c_get_915e3 se_Jx4a65c_get_915e3 (by simp [g_fw]; rfl) ⟨by decide, by decide +kernel⟩ (by first | assumption | rfl) (by rfl) rfl rfl (of_decide_eq_true rfl) rfl (by decide) rfl rfl rfl rfl (C_gt (tl := 52) (ta := 58) rfl rfl R.2.1.2.2.1 (by assumption) ?_)
      refine v_cast 26 dX12_slit_23 ⟨_, _, rfl, rfl, cl_X12_129⟩ rfl ?_
      refine v_getfi 29 dX12_slit_26 fl_X12_226 (by first | assumption | rfl) (by rfl) rfl ?_
      rw [R.vi (t := 43) (by decide)]
      refine v_if_ne 36 32 dX12_slit_29 (by decide) rfl (fun c29 => ?_) (fun c29 => ?_)
      · refine v_iconstv (v := 0) 37 dX12_slit_36 (by decide) rfl ?_
        refine v_iconstv (v := 2) 38 dX12_slit_37 (by decide) rfl ?_
        refine v_invv (d' := 0) (k' := 0) (n' := 0) (k2 := 0) (n2 := 0) 41 [_, _] dX12_slit_38 mt_X12_67 mi_X12_fails me_X12_fails (by first | assumption | rfl) (by rfl) rfl rfl (of_decide_eq_true rfl) rfl (by decide) rfl rfl rfl rfl (C_f0 e0 ?_)
        refine v_if_eq 46 44 dX12_slit_41 (by decide) rfl (fun c41 => ?_) (fun c41 => ?_)
        · refine v_aload_n 47 dX12_slit_46 rfl rfl ?_
          refine v_getfr 50 dX12_slit_47 fl_X12_19 (by first | assumption | rfl) (by rfl) rfl ?_
          rw [R.1.1.2.2.2.1]
          refine v_iload_n 51 dX12_slit_50 rfl rfl ?_
          refine v_invf (z := ("java/util/ArrayList", TJx4a65c, 3)) (d' := 2) (k' := 0) (n' := 0) (k2 := 0) (n2 := 0) 56 [_] dX12_slit_51 mf_X12_90 md_Jx4a65c_get_915e3 mi_Jx4a65c_get_915e3 se_Jx4a65c_get_915e3 (by simp [g_fw]; rfl) ⟨by decide, by decide +kernel⟩ (by first | assumption | rfl) (by rfl) rfl rfl (of_decide_eq_true rfl) rfl (by decide) rfl rfl rfl rfl (C_gt (tl := 52) (ta := 58) rfl rfl R.2.1.2.2.1 (by assumption) ?_)
          refine v_cast 59 dX12_slit_56 ⟨_, _, rfl, rfl, cl_X12_129⟩ rfl ?_
          refine v_dup 60 dX12_slit_59 rfl rfl ?_
          refine v_getfi 63 dX12_slit_60 fl_X12_226 (by first | assumption | rfl) (by rfl) rfl ?_
          rw [R.vi (t := 43) (by decide)]
          refine v_iconstv (v := 1) 64 dX12_slit_63 (by decide) rfl ?_
          refine v_isub 65 dX12_slit_64 rfl ?_
          refine v_putfi 68 dX12_slit_65 pf_X12_slit_226 (by first | assumption | rfl) (by first | assumption | decide) (by rfl) rfl rfl rfl ?_
          have R : Rp2 (hp_seti S.1 43 (cl_ x) 8 (hp_vi S.1 43 (cl_ x) 8 - 1), S.2) _ := R.i (by decide)
          refine v_aload_n 69 dX12_slit_68 rfl rfl ?_
          refine v_getfr 72 dX12_slit_69 fl_X12_19 (by first | assumption | rfl) (by rfl) rfl ?_
          rw [R.1.1.2.2.2.1]
          refine v_iload_n 73 dX12_slit_72 rfl rfl ?_
          refine v_invf (z := ("java/util/ArrayList", TJx4a65c, 3)) (d' := 2) (k' := 0) (n' := 0) (k2 := 0) (n2 := 0) 78 [_] dX12_slit_73 mf_X12_90 md_Jx4a65c_get_915e3 mi_Jx4a65c_get_915e3 se_Jx4a65c_get_915e3 (by simp [g_fw]; rfl) ⟨by decide, by decide +kernel⟩ (by first | assumption | rfl) (by rfl) rfl rfl (of_decide_eq_true rfl) rfl (by decide) rfl rfl rfl rfl (C_gt (tl := 52) (ta := 58) rfl rfl R.2.1.2.2.1 (by assumption) ?_)
          refine v_cast 81 dX12_slit_78 ⟨_, _, rfl, rfl, cl_X12_129⟩ rfl ?_
          refine v_getfi 84 dX12_slit_81 fl_X12_226 (by first | assumption | rfl) (by rfl) rfl ?_
          rw [R.vi (t := 43) (by decide), hp_seti_at]
          refine v_ireturn dX12_slit_84 rfl ?_
          have ev : op_slit S x = (0, hp_vi S.1 43 (cl_ x) 8 - 1, (hp_seti S.1 43 (cl_ x) 8 (hp_vi S.1 43 (cl_ x) 8 - 1), S.2)) := by unfold op_slit; simp only [eq_true a6, c29, ↓reduceIte, and_self, and_true, true_and, and_false, false_and, not_true_eq_false, not_false_eq_true]
          rw [ev] at hq
          exact hq _ _ (fun _ => rfl) R (by first | exact e0 | exact (hp_seti_ne (by simp)).trans e0 | (simp only [vi_i, vi_r, vi_n]; simp; exact e0)) (by repeat' first | exact ke_.rf | exact ke0 | refine ke_.tr ?_ (ke_.i (by decide) (by decide)) | refine ke_.tr ?_ (ke_.r (by decide) (by decide)) | refine ke_.tr ?_ (ke_.n (by decide) (by decide)))
        · first | exact absurd c41 (by decide) | exact absurd rfl c41 | exact absurd (of_decide_eq_true rfl) c41
      · refine v_iconstv (v := 1) 33 dX12_slit_32 (by decide) rfl ?_
        refine v_goto 37 dX12_slit_33 (by decide) ?_
        refine v_iconstv (v := 2) 38 dX12_slit_37 (by decide) rfl ?_
        refine v_invv (d' := 0) (k' := 0) (n' := 0) (k2 := 0) (n2 := 0) 41 [_, _] dX12_slit_38 mt_X12_67 mi_X12_fails me_X12_fails (by first | assumption | rfl) (by rfl) rfl rfl (of_decide_eq_true rfl) rfl (by decide) rfl rfl rfl rfl (C_f1 e0 (by decide) ?_)
        refine v_if_eq 46 44 dX12_slit_41 (by decide) rfl (fun c41 => ?_) (fun c41 => ?_)
        · first | exact absurd c41 (by decide) | exact absurd rfl c41 | exact absurd (of_decide_eq_true rfl) c41
        · refine v_iconstv (v := -1) 45 dX12_slit_44 (by decide) rfl ?_
          refine v_ireturn dX12_slit_45 rfl ?_
          have ev : op_slit S x = (2, 0, S) := by unfold op_slit; simp only [eq_true a6, c29, ↓reduceIte, and_self, and_true, true_and, and_false, false_and, not_true_eq_false, not_false_eq_true]
          rw [ev] at hq
          exact hq _ _ (fun e => absurd e (Nat.succ_ne_zero _)) R.th hp_seti_at (ke0.tr (ke_.i (by decide) (by decide)))
  · refine v_if_ne 44 12 dX12_slit_9 (by decide) rfl (fun c9 => ?_) (fun c9 => ?_)
    · refine v_iconstv (v := -1) 45 dX12_slit_44 (by decide) rfl ?_
      refine v_ireturn dX12_slit_45 rfl ?_
      have ev : op_slit S x = (1, 0, S) := by unfold op_slit; simp only [b6, ↓reduceIte, and_self, and_true, true_and, and_false, false_and, not_true_eq_false, not_false_eq_true]
      rw [ev] at hq
      exact hq _ _ (fun e => absurd e (Nat.succ_ne_zero _)) R.th hp_seti_at (ke0.tr (ke_.i (by decide) (by decide)))
    · first | exact absurd c9 (by decide) | exact absurd rfl c9 | exact absurd (of_decide_eq_true rfl) c9
set_option maxRecDepth 20000 in
theorem C_X12_air {G : GW} {h : PH} {Q : RS → PH → Prop} {S : SP} {N : Nat} (R : Rp2 S h) (I : Iv S N) {x : Int32} (hq : ∀ v h', ((op_air S x).1 = 0 → v = (op_air S x).2.1) → Rp2 (op_air S x).2.2 h' → hp_vi h' 40 0 0 = nI (op_air S x).1 → ke_ h h' → Q (.inl (some (pv_I v))) h') : VV G 9 0 0 yX12_air cX12_air 3 (some .int) [] 0 (vv_en 3 [pv_O (40, 0), pv_I x]) [] h Q := by
  show VV G 9 0 0 yX12_air cX12_air 3 (some .int) [] 0 [some (pv_O (40, 0)), some (pv_I x), none] [] h Q
  obtain ⟨z0, z1, z2, z3, z4, z5⟩ := I.cs
  refine v_aload_n 1 dX12_air_0 rfl rfl ?_
  refine v_invv (d' := 0) (k' := 0) (n' := 0) (k2 := 0) (n2 := 0) 4 [] dX12_air_1 mt_X12_48 mi_X12_begins me_X12_begins (by first | assumption | rfl) (by rfl) rfl rfl (of_decide_eq_true rfl) rfl (by decide) rfl rfl rfl rfl (C2_begins R (fun h0 R e0 ke0 => ?_))
  refine v_aload_n 5 dX12_air_4 rfl rfl ?_
  refine v_iload_n 6 dX12_air_5 rfl rfl ?_
  refine v_i2l 7 dX12_air_6 rfl ?_
  refine v_ldc2 10 dX12_air_7 cn_X12_229 rfl rfl ?_
  refine v_ldc2 13 dX12_air_10 cn_X12_125 rfl rfl ?_
  refine v_invs (d' := 0) (k' := 0) (n' := 0) (k2 := 0) (n2 := 0) 16 [_, _, _] dX12_air_13 mt_X12_44 ms_X12_in rfl rfl (of_decide_eq_true rfl) rfl (by decide) rfl rfl rfl rfl (C_in2 (lo := 4) (hi := 20) rfl (by decide) (by decide) (fun a13 => ?_) (fun b13 => ?_))
  · refine v_if_ne 23 19 dX12_air_16 (by decide) rfl (fun c16 => ?_) (fun c16 => ?_)
    · refine v_iconstv (v := 0) 24 dX12_air_23 (by decide) rfl ?_
      refine v_iconstv (v := 1) 25 dX12_air_24 (by decide) rfl ?_
      refine v_invv (d' := 0) (k' := 0) (n' := 0) (k2 := 0) (n2 := 0) 28 [_, _] dX12_air_25 mt_X12_67 mi_X12_fails me_X12_fails (by first | assumption | rfl) (by rfl) rfl rfl (of_decide_eq_true rfl) rfl (by decide) rfl rfl rfl rfl (C_f0 e0 ?_)
      refine v_if_eq 33 31 dX12_air_28 (by decide) rfl (fun c28 => ?_) (fun c28 => ?_)
      · refine v_aload_n 34 dX12_air_33 rfl rfl ?_
        refine v_getfi 37 dX12_air_34 fl_X12_28 (by first | assumption | rfl) (by rfl) rfl ?_
        rw [R.1.2 11 (by decide) (by decide)]
        refine v_istore_n 38 dX12_air_37 (by decide) rfl rfl ?_
        dsimp only [List.set]
        refine v_aload_n 39 dX12_air_38 rfl rfl ?_
        refine v_iload_n 40 dX12_air_39 rfl rfl ?_
        refine v_putfi 43 dX12_air_40 pf_X12_air_28 (by first | assumption | rfl) (by first | assumption | decide) (by rfl) rfl rfl rfl ?_
        refine v_iload_n 44 dX12_air_43 rfl rfl ?_
        refine v_ireturn dX12_air_44 rfl ?_
        have ev : op_air S x = (0, hp_vi S.1 40 0 11, (hp_seti S.1 40 0 11 x, S.2)) := by unfold op_air; simp only [eq_true a13, ↓reduceIte, and_self, and_true, true_and, and_false, false_and, not_true_eq_false, not_false_eq_true]
        rw [ev] at hq
        exact hq _ _ (fun _ => rfl) (R.g (by decide)) (by first | exact e0 | exact (hp_seti_ne (by simp)).trans e0 | (simp only [vi_i, vi_r, vi_n]; simp; exact e0)) (by repeat' first | exact ke_.rf | exact ke0 | refine ke_.tr ?_ (ke_.i (by decide) (by decide)) | refine ke_.tr ?_ (ke_.r (by decide) (by decide)) | refine ke_.tr ?_ (ke_.n (by decide) (by decide)))
      · first | exact absurd c28 (by decide) | exact absurd rfl c28 | exact absurd (of_decide_eq_true rfl) c28
    · first | exact absurd c16 (by decide) | exact absurd rfl c16 | exact absurd (of_decide_eq_true rfl) c16
  · refine v_if_ne 23 19 dX12_air_16 (by decide) rfl (fun c16 => ?_) (fun c16 => ?_)
    · first | exact absurd c16 (by decide) | exact absurd rfl c16 | exact absurd (of_decide_eq_true rfl) c16
    · refine v_iconstv (v := 1) 20 dX12_air_19 (by decide) rfl ?_
      refine v_goto 24 dX12_air_20 (by decide) ?_
      refine v_iconstv (v := 1) 25 dX12_air_24 (by decide) rfl ?_
      refine v_invv (d' := 0) (k' := 0) (n' := 0) (k2 := 0) (n2 := 0) 28 [_, _] dX12_air_25 mt_X12_67 mi_X12_fails me_X12_fails (by first | assumption | rfl) (by rfl) rfl rfl (of_decide_eq_true rfl) rfl (by decide) rfl rfl rfl rfl (C_f1 e0 (by decide) ?_)
      refine v_if_eq 33 31 dX12_air_28 (by decide) rfl (fun c28 => ?_) (fun c28 => ?_)
      · first | exact absurd c28 (by decide) | exact absurd rfl c28 | exact absurd (of_decide_eq_true rfl) c28
      · refine v_iconstv (v := -1) 32 dX12_air_31 (by decide) rfl ?_
        refine v_ireturn dX12_air_32 rfl ?_
        have ev : op_air S x = (1, 0, S) := by unfold op_air; simp only [b13, ↓reduceIte, and_self, and_true, true_and, and_false, false_and, not_true_eq_false, not_false_eq_true]
        rw [ev] at hq
        exact hq _ _ (fun e => absurd e (Nat.succ_ne_zero _)) R.th hp_seti_at (ke0.tr (ke_.i (by decide) (by decide)))
set_option maxRecDepth 20000 in
theorem C_X12_scrape {G : GW} {h : PH} {Q : RS → PH → Prop} {S : SP} {N : Nat} (R : Rp2 S h) (I : Iv S N) {x a : Int32} (hq : ∀ v h', ((op_scrape S x a).1 = 0 → v = (op_scrape S x a).2.1) → Rp2 (op_scrape S x a).2.2 h' → hp_vi h' 40 0 0 = nI (op_scrape S x a).1 → ke_ h h' → Q (.inl (some (pv_I v))) h') : VV G 9 0 0 yX12_scrape cX12_scrape 3 (some .int) [] 0 (vv_en 3 [pv_O (40, 0), pv_I x, pv_I a]) [] h Q := by
  show VV G 9 0 0 yX12_scrape cX12_scrape 3 (some .int) [] 0 [some (pv_O (40, 0)), some (pv_I x), some (pv_I a)] [] h Q
  obtain ⟨z0, z1, z2, z3, z4, z5⟩ := I.cs
  refine v_aload_n 1 dX12_scrape_0 rfl rfl ?_
  refine v_invv (d' := 0) (k' := 0) (n' := 0) (k2 := 0) (n2 := 0) 4 [] dX12_scrape_1 mt_X12_48 mi_X12_begins me_X12_begins (by first | assumption | rfl) (by rfl) rfl rfl (of_decide_eq_true rfl) rfl (by decide) rfl rfl rfl rfl (C2_begins R (fun h0 R e0 ke0 => ?_))
  refine v_aload_n 5 dX12_scrape_4 rfl rfl ?_
  refine v_iload_n 6 dX12_scrape_5 rfl rfl ?_
  refine v_invv (d' := 4) (k' := 0) (n' := 0) (k2 := 0) (n2 := 0) 9 [_] dX12_scrape_6 mt_X12_171 mi_X12_noPanel me_X12_noPanel (by first | assumption | rfl) (by rfl) rfl rfl (of_decide_eq_true rfl) rfl (by decide) rfl rfl rfl rfl (C_X12_noPanel R e0 (fun a6 => ?_) (fun b6 => ?_))
  · have hc := a6.cl (by omega)
    obtain ⟨j0, j1, j2, j3, j4, j5, j6, j7, j8, ⟨w, ew, hw⟩, j10, j11, j12⟩ := I.2.2.2.1 _ hc.1
    refine v_if_ne 90 12 dX12_scrape_9 (by decide) rfl (fun c9 => ?_) (fun c9 => ?_)
    · first | exact absurd c9 (by decide) | exact absurd rfl c9 | exact absurd (of_decide_eq_true rfl) c9
    · refine v_aload_n 13 dX12_scrape_12 rfl rfl ?_
      refine v_iload_n 14 dX12_scrape_13 rfl rfl ?_
      refine v_i2l 15 dX12_scrape_14 rfl ?_
      refine v_lconst (v := 1) 16 dX12_scrape_15 (by decide) rfl ?_
      refine v_ldc2 19 dX12_scrape_16 cn_X12_218 rfl rfl ?_
      refine v_invs (d' := 0) (k' := 0) (n' := 0) (k2 := 0) (n2 := 0) 22 [_, _, _] dX12_scrape_19 mt_X12_44 ms_X12_in rfl rfl (of_decide_eq_true rfl) rfl (by decide) rfl rfl rfl rfl (C_in2 (lo := 1) (hi := 99) rfl (by decide) (by decide) (fun a19 => ?_) (fun b19 => ?_))
      · refine v_if_ne 29 25 dX12_scrape_22 (by decide) rfl (fun c22 => ?_) (fun c22 => ?_)
        · refine v_iconstv (v := 0) 30 dX12_scrape_29 (by decide) rfl ?_
          refine v_iconstv (v := 2) 31 dX12_scrape_30 (by decide) rfl ?_
          refine v_invv (d' := 0) (k' := 0) (n' := 0) (k2 := 0) (n2 := 0) 34 [_, _] dX12_scrape_31 mt_X12_67 mi_X12_fails me_X12_fails (by first | assumption | rfl) (by rfl) rfl rfl (of_decide_eq_true rfl) rfl (by decide) rfl rfl rfl rfl (C_f0 e0 ?_)
          refine v_if_ne 90 37 dX12_scrape_34 (by decide) rfl (fun c34 => ?_) (fun c34 => ?_)
          · first | exact absurd c34 (by decide) | exact absurd rfl c34 | exact absurd (of_decide_eq_true rfl) c34
          · refine v_aload_n 38 dX12_scrape_37 rfl rfl ?_
            refine v_aload_n 39 dX12_scrape_38 rfl rfl ?_
            refine v_getfr 42 dX12_scrape_39 fl_X12_19 (by first | assumption | rfl) (by rfl) rfl ?_
            rw [R.1.1.2.2.2.1]
            refine v_iload_n 43 dX12_scrape_42 rfl rfl ?_
            refine v_invf (z := ("java/util/ArrayList", TJx4a65c, 3)) (d' := 2) (k' := 0) (n' := 0) (k2 := 0) (n2 := 0) 48 [_] dX12_scrape_43 mf_X12_90 md_Jx4a65c_get_915e3 mi_Jx4a65c_get_915e3 se_Jx4a65c_get_915e3 (by simp [g_fw]; rfl) ⟨by decide, by decide +kernel⟩ (by first | assumption | rfl) (by rfl) rfl rfl (of_decide_eq_true rfl) rfl (by decide) rfl rfl rfl rfl (C_gt (tl := 52) (ta := 58) rfl rfl R.2.1.2.2.1 (by assumption) ?_)
            refine v_cast 51 dX12_scrape_48 ⟨_, _, rfl, rfl, cl_X12_129⟩ rfl ?_
            refine v_getfi 54 dX12_scrape_51 fl_X12_210 (by first | assumption | rfl) (by rfl) rfl ?_
            rw [R.vi (t := 43) (by decide)]
            refine v_if_eq 78 57 dX12_scrape_54 (by decide) rfl (fun c54 => ?_) (fun c54 => ?_)
            · refine v_iconstv (v := 1) 79 dX12_scrape_78 (by decide) rfl ?_
              refine v_goto 83 dX12_scrape_79 (by decide) ?_
              refine v_iconstv (v := 3) 84 dX12_scrape_83 (by decide) rfl ?_
              refine v_invv (d' := 0) (k' := 0) (n' := 0) (k2 := 0) (n2 := 0) 87 [_, _] dX12_scrape_84 mt_X12_67 mi_X12_fails me_X12_fails (by first | assumption | rfl) (by rfl) rfl rfl (of_decide_eq_true rfl) rfl (by decide) rfl rfl rfl rfl (C_f1 e0 (by decide) ?_)
              refine v_if_eq 92 90 dX12_scrape_87 (by decide) rfl (fun c87 => ?_) (fun c87 => ?_)
              · first | exact absurd c87 (by decide) | exact absurd rfl c87 | exact absurd (of_decide_eq_true rfl) c87
              · refine v_iconstv (v := -1) 91 dX12_scrape_90 (by decide) rfl ?_
                refine v_ireturn dX12_scrape_91 rfl ?_
                have ev : op_scrape S x a = (3, 0, S) := by unfold op_scrape; simp only [eq_true a6, eq_true a19, c54, ↓reduceIte, and_self, and_true, true_and, and_false, false_and, not_true_eq_false, not_false_eq_true]
                rw [ev] at hq
                exact hq _ _ (fun e => absurd e (Nat.succ_ne_zero _)) R.th hp_seti_at (ke0.tr (ke_.i (by decide) (by decide)))
            · have w9 : ¬ (s_fa S (cl_ x)).1 = 0 := by
                rcases j7 with q | q
                · exact absurd q.1 c54
                · exact q.2
              refine v_aload_n 58 dX12_scrape_57 rfl rfl ?_
              refine v_getfr 61 dX12_scrape_58 fl_X12_19 (by first | assumption | rfl) (by rfl) rfl ?_
              rw [R.1.1.2.2.2.1]
              refine v_iload_n 62 dX12_scrape_61 rfl rfl ?_
              refine v_invf (z := ("java/util/ArrayList", TJx4a65c, 3)) (d' := 2) (k' := 0) (n' := 0) (k2 := 0) (n2 := 0) 67 [_] dX12_scrape_62 mf_X12_90 md_Jx4a65c_get_915e3 mi_Jx4a65c_get_915e3 se_Jx4a65c_get_915e3 (by simp [g_fw]; rfl) ⟨by decide, by decide +kernel⟩ (by first | assumption | rfl) (by rfl) rfl rfl (of_decide_eq_true rfl) rfl (by decide) rfl rfl rfl rfl (C_gt (tl := 52) (ta := 58) rfl rfl R.2.1.2.2.1 (by assumption) ?_)
              refine v_cast 70 dX12_scrape_67 ⟨_, _, rfl, rfl, cl_X12_129⟩ rfl ?_
              refine v_invv (d' := 1) (k' := 0) (n' := 0) (k2 := 0) (n2 := 0) 73 [] dX12_scrape_70 mt_X12_271 mi_X10_left me_X10_left (by first | assumption | rfl) (by rfl) rfl rfl (of_decide_eq_true rfl) rfl (by decide) rfl rfl rfl rfl (C_X10_left R (I.fa2 hc.1) ?_)
              refine v_bipushv (v := 10) 75 dX12_scrape_73 (by decide) rfl ?_
              refine v_icmp_gt 82 78 dX12_scrape_75 (by decide) rfl (fun c75 => ?_) (fun c75 => ?_)
              · have e75 : ¬ (¬ (s_fa S (cl_ x)).1 = 0 ∧ s_lf S (cl_ x) ≤ 10) := fun q => absurd q.2 (Int32.not_le.mpr c75)
                refine v_iconstv (v := 0) 83 dX12_scrape_82 (by decide) rfl ?_
                refine v_iconstv (v := 3) 84 dX12_scrape_83 (by decide) rfl ?_
                refine v_invv (d' := 0) (k' := 0) (n' := 0) (k2 := 0) (n2 := 0) 87 [_, _] dX12_scrape_84 mt_X12_67 mi_X12_fails me_X12_fails (by first | assumption | rfl) (by rfl) rfl rfl (of_decide_eq_true rfl) rfl (by decide) rfl rfl rfl rfl (C_f0 e0 ?_)
                refine v_if_eq 92 90 dX12_scrape_87 (by decide) rfl (fun c87 => ?_) (fun c87 => ?_)
                · refine v_aload_n 93 dX12_scrape_92 rfl rfl ?_
                  refine v_getfr 96 dX12_scrape_93 fl_X12_19 (by first | assumption | rfl) (by rfl) rfl ?_
                  rw [R.1.1.2.2.2.1]
                  refine v_iload_n 97 dX12_scrape_96 rfl rfl ?_
                  refine v_invf (z := ("java/util/ArrayList", TJx4a65c, 3)) (d' := 2) (k' := 0) (n' := 0) (k2 := 0) (n2 := 0) 102 [_] dX12_scrape_97 mf_X12_90 md_Jx4a65c_get_915e3 mi_Jx4a65c_get_915e3 se_Jx4a65c_get_915e3 (by simp [g_fw]; rfl) ⟨by decide, by decide +kernel⟩ (by first | assumption | rfl) (by rfl) rfl rfl (of_decide_eq_true rfl) rfl (by decide) rfl rfl rfl rfl (C_gt (tl := 52) (ta := 58) rfl rfl R.2.1.2.2.1 (by assumption) ?_)
                  refine v_cast 105 dX12_scrape_102 ⟨_, _, rfl, rfl, cl_X12_129⟩ rfl ?_
                  refine v_dup 106 dX12_scrape_105 rfl rfl ?_
                  refine v_getfi 109 dX12_scrape_106 fl_X12_274 (by first | assumption | rfl) (by rfl) rfl ?_
                  rw [R.vi (t := 43) (by decide)]
                  refine v_iload_n 110 dX12_scrape_109 rfl rfl ?_
                  refine v_iadd 111 dX12_scrape_110 rfl ?_
                  refine v_putfi 114 dX12_scrape_111 pf_X12_scrape_274 (by first | assumption | rfl) (by first | assumption | decide) (by rfl) rfl rfl rfl ?_
                  have R : Rp2 (hp_seti S.1 43 (cl_ x) 9 (hp_vi S.1 43 (cl_ x) 9 + a), S.2) _ := R.i (by decide)
                  refine v_aload_n 115 dX12_scrape_114 rfl rfl ?_
                  refine v_getfr 118 dX12_scrape_115 fl_X12_19 (by first | assumption | rfl) (by rfl) rfl ?_
                  rw [R.1.1.2.2.2.1]
                  refine v_iload_n 119 dX12_scrape_118 rfl rfl ?_
                  refine v_invf (z := ("java/util/ArrayList", TJx4a65c, 3)) (d' := 2) (k' := 0) (n' := 0) (k2 := 0) (n2 := 0) 124 [_] dX12_scrape_119 mf_X12_90 md_Jx4a65c_get_915e3 mi_Jx4a65c_get_915e3 se_Jx4a65c_get_915e3 (by simp [g_fw]; rfl) ⟨by decide, by decide +kernel⟩ (by first | assumption | rfl) (by rfl) rfl rfl (of_decide_eq_true rfl) rfl (by decide) rfl rfl rfl rfl (C_gt (tl := 52) (ta := 58) rfl rfl R.2.1.2.2.1 (by assumption) ?_)
                  refine v_cast 127 dX12_scrape_124 ⟨_, _, rfl, rfl, cl_X12_129⟩ rfl ?_
                  refine v_invv (d' := 1) (k' := 0) (n' := 0) (k2 := 0) (n2 := 0) 130 [] dX12_scrape_127 mt_X12_271 mi_X10_left me_X10_left (by first | assumption | rfl) (by rfl) rfl rfl (of_decide_eq_true rfl) rfl (by decide) rfl rfl rfl rfl (C_X10_left R (S := (hp_seti S.1 43 (cl_ x) 9 (hp_vi S.1 43 (cl_ x) 9 + a), S.2)) (I.fa2 hc.1) ?_)
                  refine v_ireturn dX12_scrape_130 rfl ?_
                  have ev : op_scrape S x a = (0, mx 0 (s_lf S (cl_ x) - a), (hp_seti S.1 43 (cl_ x) 9 (hp_vi S.1 43 (cl_ x) 9 + a), S.2)) := by unfold op_scrape; simp only [eq_true a6, eq_true a19, c54, e75, ↓reduceIte, and_self, and_true, true_and, and_false, false_and, not_true_eq_false, not_false_eq_true]
                  rw [ev] at hq
                  exact hq _ _ (fun _ => (sc_lf I hc.1 ew hw a19).symm) R (by first | exact e0 | exact (hp_seti_ne (by simp)).trans e0 | (simp only [vi_i, vi_r, vi_n]; simp; exact e0)) (by repeat' first | exact ke_.rf | exact ke0 | refine ke_.tr ?_ (ke_.i (by decide) (by decide)) | refine ke_.tr ?_ (ke_.r (by decide) (by decide)) | refine ke_.tr ?_ (ke_.n (by decide) (by decide)))
                · first | exact absurd c87 (by decide) | exact absurd rfl c87 | exact absurd (of_decide_eq_true rfl) c87
              · have c75 : s_lf S (cl_ x) ≤ 10 := by first | exact c75 | exact Int32.not_lt.mp c75
                have d75 : ¬ (s_fa S (cl_ x)).1 = 0 ∧ s_lf S (cl_ x) ≤ 10 := ⟨w9, c75⟩
                have e75 := eq_true d75
                refine v_iconstv (v := 1) 79 dX12_scrape_78 (by decide) rfl ?_
                refine v_goto 83 dX12_scrape_79 (by decide) ?_
                refine v_iconstv (v := 3) 84 dX12_scrape_83 (by decide) rfl ?_
                refine v_invv (d' := 0) (k' := 0) (n' := 0) (k2 := 0) (n2 := 0) 87 [_, _] dX12_scrape_84 mt_X12_67 mi_X12_fails me_X12_fails (by first | assumption | rfl) (by rfl) rfl rfl (of_decide_eq_true rfl) rfl (by decide) rfl rfl rfl rfl (C_f1 e0 (by decide) ?_)
                refine v_if_eq 92 90 dX12_scrape_87 (by decide) rfl (fun c87 => ?_) (fun c87 => ?_)
                · first | exact absurd c87 (by decide) | exact absurd rfl c87 | exact absurd (of_decide_eq_true rfl) c87
                · refine v_iconstv (v := -1) 91 dX12_scrape_90 (by decide) rfl ?_
                  refine v_ireturn dX12_scrape_91 rfl ?_
                  have ev : op_scrape S x a = (3, 0, S) := by unfold op_scrape; simp only [eq_true a6, eq_true a19, c54, e75, ↓reduceIte, and_self, and_true, true_and, and_false, false_and, not_true_eq_false, not_false_eq_true]
                  rw [ev] at hq
                  exact hq _ _ (fun e => absurd e (Nat.succ_ne_zero _)) R.th hp_seti_at (ke0.tr (ke_.i (by decide) (by decide)))
        · first | exact absurd c22 (by decide) | exact absurd rfl c22 | exact absurd (of_decide_eq_true rfl) c22
      · refine v_if_ne 29 25 dX12_scrape_22 (by decide) rfl (fun c22 => ?_) (fun c22 => ?_)
        · first | exact absurd c22 (by decide) | exact absurd rfl c22 | exact absurd (of_decide_eq_true rfl) c22
        · refine v_iconstv (v := 1) 26 dX12_scrape_25 (by decide) rfl ?_
          refine v_goto 30 dX12_scrape_26 (by decide) ?_
          refine v_iconstv (v := 2) 31 dX12_scrape_30 (by decide) rfl ?_
          refine v_invv (d' := 0) (k' := 0) (n' := 0) (k2 := 0) (n2 := 0) 34 [_, _] dX12_scrape_31 mt_X12_67 mi_X12_fails me_X12_fails (by first | assumption | rfl) (by rfl) rfl rfl (of_decide_eq_true rfl) rfl (by decide) rfl rfl rfl rfl (C_f1 e0 (by decide) ?_)
          refine v_if_ne 90 37 dX12_scrape_34 (by decide) rfl (fun c34 => ?_) (fun c34 => ?_)
          · refine v_iconstv (v := -1) 91 dX12_scrape_90 (by decide) rfl ?_
            refine v_ireturn dX12_scrape_91 rfl ?_
            have ev : op_scrape S x a = (2, 0, S) := by unfold op_scrape; simp only [eq_true a6, b19, ↓reduceIte, and_self, and_true, true_and, and_false, false_and, not_true_eq_false, not_false_eq_true]
            rw [ev] at hq
            exact hq _ _ (fun e => absurd e (Nat.succ_ne_zero _)) R.th hp_seti_at (ke0.tr (ke_.i (by decide) (by decide)))
          · first | exact absurd c34 (by decide) | exact absurd rfl c34 | exact absurd (of_decide_eq_true rfl) c34
  · refine v_if_ne 90 12 dX12_scrape_9 (by decide) rfl (fun c9 => ?_) (fun c9 => ?_)
    · refine v_iconstv (v := -1) 91 dX12_scrape_90 (by decide) rfl ?_
      refine v_ireturn dX12_scrape_91 rfl ?_
      have ev : op_scrape S x a = (1, 0, S) := by unfold op_scrape; simp only [b6, ↓reduceIte, and_self, and_true, true_and, and_false, false_and, not_true_eq_false, not_false_eq_true]
      rw [ev] at hq
      exact hq _ _ (fun e => absurd e (Nat.succ_ne_zero _)) R.th hp_seti_at (ke0.tr (ke_.i (by decide) (by decide)))
    · first | exact absurd c9 (by decide) | exact absurd rfl c9 | exact absurd (of_decide_eq_true rfl) c9
theorem bl_eq (S : SP) (p : Nat) (w mi wa : Int32) : s_bl S p w mi wa = ((if 4 + w / 3 < wa then 2 else 0) + (if mi < 20 + nI (nn_ S (10 + p)) / 4 - w / 3 then 1 else 0)) * hp_vi S.1 46 p 2 := by
  unfold s_bl
  dsimp only
  generalize hp_vi S.1 46 p 2 = m
  by_cases q1 : wa ≤ 4 + w / 3
  · by_cases q2 : 20 + nI (nn_ S (10 + p)) / 4 - w / 3 ≤ mi
    · rw [if_pos q2, if_pos q1, if_neg (Int32.not_lt.mpr q1), if_neg (Int32.not_lt.mpr q2), Int32.add_zero, Int32.zero_mul]
    · rw [if_neg q2, if_pos q1, if_neg (Int32.not_lt.mpr q1), if_pos (Int32.not_le.mp q2), Int32.zero_add, Int32.zero_add, Int32.one_mul]
  · by_cases q2 : 20 + nI (nn_ S (10 + p)) / 4 - w / 3 ≤ mi
    · rw [if_pos q2, if_neg q1, if_pos (Int32.not_le.mp q1), if_neg (Int32.not_lt.mpr q2), Int32.zero_add, Int32.add_zero]
    · rw [if_neg q2, if_neg q1, if_pos (Int32.not_le.mp q1), if_pos (Int32.not_le.mp q2), Int32.zero_add, Int32.add_mul, Int32.one_mul]
set_option maxRecDepth 20000 in
theorem C_X12_press {G : GW} {h : PH} {Q : RS → PH → Prop} {S : SP} {N : Nat} (R : Rp2 S h) (I : Iv S N) {x w mi wa : Int32} (hq : ∀ v h', ((op_press S x w mi wa).1 = 0 → v = (op_press S x w mi wa).2.1) → Rp2 (op_press S x w mi wa).2.2 h' → hp_vi h' 40 0 0 = nI (op_press S x w mi wa).1 → ke_ h h' → Q (.inl (some (pv_I v))) h') : VV G 9 0 0 yX12_press cX12_press 7 (some .int) [] 0 (vv_en 7 [pv_O (40, 0), pv_I x, pv_I w, pv_I mi, pv_I wa]) [] h Q := by
  show VV G 9 0 0 yX12_press cX12_press 7 (some .int) [] 0 [some (pv_O (40, 0)), some (pv_I x), some (pv_I w), some (pv_I mi), some (pv_I wa), none, none] [] h Q
  obtain ⟨z0, z1, z2, z3, z4, z5⟩ := I.cs
  refine v_aload_n 1 dX12_press_0 rfl rfl ?_
  refine v_invv (d' := 0) (k' := 0) (n' := 0) (k2 := 0) (n2 := 0) 4 [] dX12_press_1 mt_X12_48 mi_X12_begins me_X12_begins (by first | assumption | rfl) (by rfl) rfl rfl (of_decide_eq_true rfl) rfl (by decide) rfl rfl rfl rfl (C2_begins R (fun h0 R e0 ke0 => ?_))
  refine v_aload_n 5 dX12_press_4 rfl rfl ?_
  refine v_iload_n 6 dX12_press_5 rfl rfl ?_
  refine v_invv (d' := 4) (k' := 0) (n' := 0) (k2 := 0) (n2 := 0) 9 [_] dX12_press_6 mt_X12_171 mi_X12_noPanel me_X12_noPanel (by first | assumption | rfl) (by rfl) rfl rfl (of_decide_eq_true rfl) rfl (by decide) rfl rfl rfl rfl (C_X12_noPanel R e0 (fun a6 => ?_) (fun b6 => ?_))
  · have hc := a6.cl (by omega)
    obtain ⟨j0, j1, j2, j3, j4, ⟨j5, j6⟩, j7⟩ := I.2.2.2.1 _ hc.1
    refine v_if_ne 113 12 dX12_press_9 (by decide) rfl (fun c9 => ?_) (fun c9 => ?_)
    · first | exact absurd c9 (by decide) | exact absurd rfl c9 | exact absurd (of_decide_eq_true rfl) c9
    · refine v_aload_n 13 dX12_press_12 rfl rfl ?_
      refine v_iload_n 14 dX12_press_13 rfl rfl ?_
      refine v_i2l 15 dX12_press_14 rfl ?_
      refine v_lconst (v := 0) 16 dX12_press_15 (by decide) rfl ?_
      refine v_ldc2 19 dX12_press_16 cn_X12_216 rfl rfl ?_
      refine v_invs (d' := 0) (k' := 0) (n' := 0) (k2 := 0) (n2 := 0) 22 [_, _, _] dX12_press_19 mt_X12_44 ms_X12_in rfl rfl (of_decide_eq_true rfl) rfl (by decide) rfl rfl rfl rfl (C_in2 (lo := 0) (hi := 60) rfl (by decide) (by decide) (fun a19 => ?_) (fun b19 => ?_))
      · refine v_if_eq 50 25 dX12_press_22 (by decide) rfl (fun c22 => ?_) (fun c22 => ?_)
        · first | exact absurd c22 (by decide) | exact absurd rfl c22 | exact absurd (of_decide_eq_true rfl) c22
        · refine v_iload_n 26 dX12_press_25 rfl rfl ?_
          refine v_i2l 27 dX12_press_26 rfl ?_
          refine v_lconst (v := 1) 28 dX12_press_27 (by decide) rfl ?_
          refine v_ldc2 31 dX12_press_28 cn_X12_218 rfl rfl ?_
          refine v_invs (d' := 0) (k' := 0) (n' := 0) (k2 := 0) (n2 := 0) 34 [_, _, _] dX12_press_31 mt_X12_44 ms_X12_in rfl rfl (of_decide_eq_true rfl) rfl (by decide) rfl rfl rfl rfl (C_in2 (lo := 1) (hi := 99) rfl (by decide) (by decide) (fun a31 => ?_) (fun b31 => ?_))
          · refine v_if_eq 50 37 dX12_press_34 (by decide) rfl (fun c34 => ?_) (fun c34 => ?_)
            · first | exact absurd c34 (by decide) | exact absurd rfl c34 | exact absurd (of_decide_eq_true rfl) c34
            · refine v_iload 39 dX12_press_37 rfl rfl ?_
              refine v_i2l 40 dX12_press_39 rfl ?_
              refine v_lconst (v := 0) 41 dX12_press_40 (by decide) rfl ?_
              refine v_ldc2 44 dX12_press_41 cn_X12_216 rfl rfl ?_
              refine v_invs (d' := 0) (k' := 0) (n' := 0) (k2 := 0) (n2 := 0) 47 [_, _, _] dX12_press_44 mt_X12_44 ms_X12_in rfl rfl (of_decide_eq_true rfl) rfl (by decide) rfl rfl rfl rfl (C_in2 (lo := 0) (hi := 60) rfl (by decide) (by decide) (fun a44 => ?_) (fun b44 => ?_))
              · refine v_if_ne 54 50 dX12_press_47 (by decide) rfl (fun c47 => ?_) (fun c47 => ?_)
                · refine v_iconstv (v := 0) 55 dX12_press_54 (by decide) rfl ?_
                  refine v_iconstv (v := 2) 56 dX12_press_55 (by decide) rfl ?_
                  refine v_invv (d' := 0) (k' := 0) (n' := 0) (k2 := 0) (n2 := 0) 59 [_, _] dX12_press_56 mt_X12_67 mi_X12_fails me_X12_fails (by first | assumption | rfl) (by rfl) rfl rfl (of_decide_eq_true rfl) rfl (by decide) rfl rfl rfl rfl (C_f0 e0 ?_)
                  refine v_if_ne 113 62 dX12_press_59 (by decide) rfl (fun c59 => ?_) (fun c59 => ?_)
                  · first | exact absurd c59 (by decide) | exact absurd rfl c59 | exact absurd (of_decide_eq_true rfl) c59
                  · refine v_aload_n 63 dX12_press_62 rfl rfl ?_
                    refine v_aload_n 64 dX12_press_63 rfl rfl ?_
                    refine v_getfr 67 dX12_press_64 fl_X12_19 (by first | assumption | rfl) (by rfl) rfl ?_
                    rw [R.1.1.2.2.2.1]
                    refine v_iload_n 68 dX12_press_67 rfl rfl ?_
                    refine v_invf (z := ("java/util/ArrayList", TJx4a65c, 3)) (d' := 2) (k' := 0) (n' := 0) (k2 := 0) (n2 := 0) 73 [_] dX12_press_68 mf_X12_90 md_Jx4a65c_get_915e3 mi_Jx4a65c_get_915e3 se_Jx4a65c_get_915e3 (by simp [g_fw]; rfl) ⟨by decide, by decide +kernel⟩ (by first | assumption | rfl) (by rfl) rfl rfl (of_decide_eq_true rfl) rfl (by decide) rfl rfl rfl rfl (C_gt (tl := 52) (ta := 58) rfl rfl R.2.1.2.2.1 (by assumption) ?_)
                    refine v_cast 76 dX12_press_73 ⟨_, _, rfl, rfl, cl_X12_129⟩ rfl ?_
                    refine v_getfr 79 dX12_press_76 fl_X12_186 (by first | assumption | rfl) (by rfl) rfl ?_
                    rw [R.vr (t := 43) (by decide)]
                    refine v_ifnull 101 82 dX12_press_79 (by decide) rfl (fun c79 => ?_) (fun c79 => ?_)
                    · refine v_iconstv (v := 1) 102 dX12_press_101 (by decide) rfl ?_
                      refine v_goto 106 dX12_press_102 (by decide) ?_
                      refine v_iconstv (v := 3) 107 dX12_press_106 (by decide) rfl ?_
                      refine v_invv (d' := 0) (k' := 0) (n' := 0) (k2 := 0) (n2 := 0) 110 [_, _] dX12_press_107 mt_X12_67 mi_X12_fails me_X12_fails (by first | assumption | rfl) (by rfl) rfl rfl (of_decide_eq_true rfl) rfl (by decide) rfl rfl rfl rfl (C_f1 e0 (by decide) ?_)
                      refine v_if_eq 115 113 dX12_press_110 (by decide) rfl (fun c110 => ?_) (fun c110 => ?_)
                      · first | exact absurd c110 (by decide) | exact absurd rfl c110 | exact absurd (of_decide_eq_true rfl) c110
                      · refine v_iconstv (v := -1) 114 dX12_press_113 (by decide) rfl ?_
                        refine v_ireturn dX12_press_114 rfl ?_
                        have ev : op_press S x w mi wa = (3, 0, S) := by unfold op_press; simp only [eq_true a6, eq_true a19, eq_true a31, eq_true a44, c79, ↓reduceIte, and_self, and_true, true_and, and_false, false_and, not_true_eq_false, not_false_eq_true]
                        rw [ev] at hq
                        exact hq _ _ (fun e => absurd e (Nat.succ_ne_zero _)) R.th hp_seti_at (ke0.tr (ke_.i (by decide) (by decide)))
                    · refine v_aload_n 83 dX12_press_82 rfl rfl ?_
                      refine v_getfr 86 dX12_press_83 fl_X12_19 (by first | assumption | rfl) (by rfl) rfl ?_
                      rw [R.1.1.2.2.2.1]
                      refine v_iload_n 87 dX12_press_86 rfl rfl ?_
                      refine v_invf (z := ("java/util/ArrayList", TJx4a65c, 3)) (d' := 2) (k' := 0) (n' := 0) (k2 := 0) (n2 := 0) 92 [_] dX12_press_87 mf_X12_90 md_Jx4a65c_get_915e3 mi_Jx4a65c_get_915e3 se_Jx4a65c_get_915e3 (by simp [g_fw]; rfl) ⟨by decide, by decide +kernel⟩ (by first | assumption | rfl) (by rfl) rfl rfl (of_decide_eq_true rfl) rfl (by decide) rfl rfl rfl rfl (C_gt (tl := 52) (ta := 58) rfl rfl R.2.1.2.2.1 (by assumption) ?_)
                      refine v_cast 95 dX12_press_92 ⟨_, _, rfl, rfl, cl_X12_129⟩ rfl ?_
                      refine v_getfi 98 dX12_press_95 fl_X12_210 (by first | assumption | rfl) (by rfl) rfl ?_
                      rw [R.vi (t := 43) (by decide)]
                      refine v_if_eq 105 101 dX12_press_98 (by decide) rfl (fun c98 => ?_) (fun c98 => ?_)
                      · refine v_iconstv (v := 0) 106 dX12_press_105 (by decide) rfl ?_
                        refine v_iconstv (v := 3) 107 dX12_press_106 (by decide) rfl ?_
                        refine v_invv (d' := 0) (k' := 0) (n' := 0) (k2 := 0) (n2 := 0) 110 [_, _] dX12_press_107 mt_X12_67 mi_X12_fails me_X12_fails (by first | assumption | rfl) (by rfl) rfl rfl (of_decide_eq_true rfl) rfl (by decide) rfl rfl rfl rfl (C_f0 e0 ?_)
                        refine v_if_eq 115 113 dX12_press_110 (by decide) rfl (fun c110 => ?_) (fun c110 => ?_)
                        · refine v_aload_n 116 dX12_press_115 rfl rfl ?_
                          refine v_getfr 119 dX12_press_116 fl_X12_19 (by first | assumption | rfl) (by rfl) rfl ?_
                          rw [R.1.1.2.2.2.1]
                          refine v_iload_n 120 dX12_press_119 rfl rfl ?_
                          refine v_invf (z := ("java/util/ArrayList", TJx4a65c, 3)) (d' := 2) (k' := 0) (n' := 0) (k2 := 0) (n2 := 0) 125 [_] dX12_press_120 mf_X12_90 md_Jx4a65c_get_915e3 mi_Jx4a65c_get_915e3 se_Jx4a65c_get_915e3 (by simp [g_fw]; rfl) ⟨by decide, by decide +kernel⟩ (by first | assumption | rfl) (by rfl) rfl rfl (of_decide_eq_true rfl) rfl (by decide) rfl rfl rfl rfl (C_gt (tl := 52) (ta := 58) rfl rfl R.2.1.2.2.1 (by assumption) ?_)
                          refine v_cast 128 dX12_press_125 ⟨_, _, rfl, rfl, cl_X12_129⟩ rfl ?_
                          refine v_astore 130 dX12_press_128 (by decide) rfl rfl ?_
                          dsimp only [List.set]
                          refine v_iload 132 dX12_press_130 rfl rfl ?_
                          refine v_iconstv (v := 4) 133 dX12_press_132 (by decide) rfl ?_
                          refine v_iload_n 134 dX12_press_133 rfl rfl ?_
                          refine v_iconstv (v := 3) 135 dX12_press_134 (by decide) rfl ?_
                          refine v_idiv 136 dX12_press_135 (by decide) rfl ?_
                          refine v_iadd 137 dX12_press_136 rfl ?_
                          refine v_icmp_le 144 140 dX12_press_137 (by decide) rfl (fun c137 => ?_) (fun c137 => ?_)
                          · have g137 : ¬ 4 + w / 3 < wa := Int32.not_lt.mpr c137
                            refine v_iconstv (v := 0) 145 dX12_press_144 (by decide) rfl ?_
                            refine v_iload_n 146 dX12_press_145 rfl rfl ?_
                            refine v_bipushv (v := 20) 148 dX12_press_146 (by decide) rfl ?_
                            refine v_aload_n 149 dX12_press_148 rfl rfl ?_
                            refine v_getfr 152 dX12_press_149 fl_X12_22 (by first | assumption | rfl) (by rfl) rfl ?_
                            rw [R.1.1.2.2.2.2.1]
                            refine v_iload_n 153 dX12_press_152 rfl rfl ?_
                            refine v_invf (z := ("java/util/ArrayList", TJx4a65c, 3)) (d' := 2) (k' := 0) (n' := 0) (k2 := 0) (n2 := 0) 158 [_] dX12_press_153 mf_X12_90 md_Jx4a65c_get_915e3 mi_Jx4a65c_get_915e3 se_Jx4a65c_get_915e3 (by simp [g_fw]; rfl) ⟨by decide, by decide +kernel⟩ (by first | assumption | rfl) (by rfl) rfl rfl (of_decide_eq_true rfl) rfl (by decide) rfl rfl rfl rfl (C_gt (tl := 53) (ta := 59) rfl rfl R.2.1.2.2.2.1 (by assumption) ?_)
                            refine v_cast 161 dX12_press_158 ⟨_, _, rfl, rfl, cl_X12_135⟩ rfl ?_
                            refine v_invv (d' := 0) (k' := 0) (n' := 0) (k2 := 0) (n2 := 0) 164 [] dX12_press_161 mt_X12_220 mi_J6_intValue_8abf5 me_J6_intValue_8abf5 (by first | assumption | rfl) (by rfl) rfl rfl (of_decide_eq_true rfl) rfl (by decide) rfl rfl rfl rfl (C_J6_intValue_8abf5 ?_)
                            refine VV.know (fun ho9 _ _ => ?_)
                            rw [ho9.2.2.2.2.1, show nI (nn_ S (10 + cl_ x) + 128) - 128 = nI (nn_ S (10 + cl_ x)) from pk_sub (a := nn_ S (10 + cl_ x) + 128) (b := 128) (by omega)]
                            refine v_iconstv (v := 4) 165 dX12_press_164 (by decide) rfl ?_
                            refine v_idiv 166 dX12_press_165 (by decide) rfl ?_
                            refine v_iadd 167 dX12_press_166 rfl ?_
                            refine v_iload_n 168 dX12_press_167 rfl rfl ?_
                            refine v_iconstv (v := 3) 169 dX12_press_168 (by decide) rfl ?_
                            refine v_idiv 170 dX12_press_169 (by decide) rfl ?_
                            refine v_isub 171 dX12_press_170 rfl ?_
                            refine v_icmp_ge 178 174 dX12_press_171 (by decide) rfl (fun c171 => ?_) (fun c171 => ?_)
                            · have g171 : ¬ mi < 20 + nI (nn_ S (10 + cl_ x)) / 4 - w / 3 := Int32.not_lt.mpr c171
                              have eb : s_bl S (cl_ x) w mi wa = (0 + 0) * hp_vi S.1 46 (cl_ x) 2 := by rw [bl_eq, if_neg g137, if_neg g171]
                              refine v_iconstv (v := 0) 179 dX12_press_178 (by decide) rfl ?_
                              refine v_iadd 180 dX12_press_179 rfl ?_
                              refine v_istore 182 dX12_press_180 (by decide) rfl rfl ?_
                              dsimp only [List.set]
                              refine v_aload 184 dX12_press_182 rfl rfl ?_
                              refine v_iconstv (v := 1) 185 dX12_press_184 (by decide) rfl ?_
                              refine v_putfi 188 dX12_press_185 pf_X12_press_210 (by first | assumption | rfl) (by first | assumption | decide) (by rfl) (by first | rfl | decide | assumption) (by first | rfl | decide | assumption) rfl ?_
                              have R : Rp2 (hp_seti S.1 43 (cl_ x) 6 1, S.2) _ := R.i (by decide)
                              refine v_aload 190 dX12_press_188 rfl rfl ?_
                              refine v_aload_n 191 dX12_press_190 rfl rfl ?_
                              refine v_getfi 194 dX12_press_191 fl_X12_28 (by first | assumption | rfl) (by rfl) rfl ?_
                              rw [R.1.2 11 (by decide) (by decide), show hp_vi (hp_seti S.1 43 (cl_ x) 6 1, S.2).1 40 0 11 = hp_vi S.1 40 0 11 from hp_seti_ne (by simp)]
                              refine v_putfi 197 dX12_press_194 pf_X12_press_223 (by first | assumption | rfl) (by first | assumption | decide) (by rfl) rfl rfl rfl ?_
                              have R : Rp2 (hp_seti (hp_seti S.1 43 (cl_ x) 6 1) 43 (cl_ x) 7 (hp_vi S.1 40 0 11), S.2) _ := R.i (by decide)
                              refine v_aload 199 dX12_press_197 rfl rfl ?_
                              refine v_iload 201 dX12_press_199 rfl rfl ?_
                              refine v_aload 203 dX12_press_201 rfl rfl ?_
                              refine v_getfr 206 dX12_press_203 fl_X12_186 (by first | assumption | rfl) (by rfl) rfl ?_
                              rw [R.vr (t := 43) (by decide), show hp_vr (hp_seti (hp_seti S.1 43 (cl_ x) 6 1) 43 (cl_ x) 7 (hp_vi S.1 40 0 11), S.2).1 43 (cl_ x) 3 = (46, cl_ x) from (I.fa hc.1 c79).1]
                              refine v_getfi 209 dX12_press_206 fl_X12_161 (by first | assumption | rfl) (by rfl) rfl ?_
                              rw [R.vi (t := 46) (by decide), show hp_vi (hp_seti (hp_seti S.1 43 (cl_ x) 6 1) 43 (cl_ x) 7 (hp_vi S.1 40 0 11), S.2).1 46 (cl_ x) 2 = hp_vi S.1 46 (cl_ x) 2 from (hp_seti_ne (by simp)).trans (hp_seti_ne (by simp))]
                              refine v_imul 210 dX12_press_209 rfl ?_
                              rw [← eb]
                              refine v_putfi 213 dX12_press_210 pf_X12_press_226 (by first | assumption | rfl) (by first | assumption | decide) (by rfl) rfl rfl rfl ?_
                              have R : Rp2 (hp_seti (hp_seti (hp_seti S.1 43 (cl_ x) 6 1) 43 (cl_ x) 7 (hp_vi S.1 40 0 11)) 43 (cl_ x) 8 (s_bl S (cl_ x) w mi wa), S.2) _ := R.i (by decide)
                              refine v_aload 215 dX12_press_213 rfl rfl ?_
                              refine v_getfi 218 dX12_press_215 fl_X12_226 (by first | assumption | rfl) (by rfl) rfl ?_
                              rw [R.vi (t := 43) (by decide), hp_seti_at]
                              refine v_ireturn dX12_press_218 rfl ?_
                              have ev : op_press S x w mi wa = (0, s_bl S (cl_ x) w mi wa, (hp_seti (hp_seti (hp_seti S.1 43 (cl_ x) 6 1) 43 (cl_ x) 7 (hp_vi S.1 40 0 11)) 43 (cl_ x) 8 (s_bl S (cl_ x) w mi wa), S.2)) := by unfold op_press; simp only [eq_true a6, eq_true a19, eq_true a31, eq_true a44, c79, c98, ↓reduceIte, and_self, and_true, true_and, and_false, false_and, not_true_eq_false, not_false_eq_true]
                              rw [ev] at hq
                              exact hq _ _ (fun _ => rfl) R (by first | exact e0 | exact (hp_seti_ne (by simp)).trans e0 | (simp only [vi_i, vi_r, vi_n]; simp; exact e0)) (by repeat' first | exact ke_.rf | exact ke0 | refine ke_.tr ?_ (ke_.i (by decide) (by decide)) | refine ke_.tr ?_ (ke_.r (by decide) (by decide)) | refine ke_.tr ?_ (ke_.n (by decide) (by decide)))
                            · have g171 : mi < 20 + nI (nn_ S (10 + cl_ x)) / 4 - w / 3 := Int32.not_le.mp c171
                              have eb : s_bl S (cl_ x) w mi wa = (0 + 1) * hp_vi S.1 46 (cl_ x) 2 := by rw [bl_eq, if_neg g137, if_pos g171]
                              refine v_iconstv (v := 1) 175 dX12_press_174 (by decide) rfl ?_
                              refine v_goto 179 dX12_press_175 (by decide) ?_
                              refine v_iadd 180 dX12_press_179 rfl ?_
                              refine v_istore 182 dX12_press_180 (by decide) rfl rfl ?_
                              dsimp only [List.set]
                              refine v_aload 184 dX12_press_182 rfl rfl ?_
                              refine v_iconstv (v := 1) 185 dX12_press_184 (by decide) rfl ?_
                              refine v_putfi 188 dX12_press_185 pf_X12_press_210 (by first | assumption | rfl) (by first | assumption | decide) (by rfl) (by first | rfl | decide | assumption) (by first | rfl | decide | assumption) rfl ?_
                              have R : Rp2 (hp_seti S.1 43 (cl_ x) 6 1, S.2) _ := R.i (by decide)
                              refine v_aload 190 dX12_press_188 rfl rfl ?_
                              refine v_aload_n 191 dX12_press_190 rfl rfl ?_
                              refine v_getfi 194 dX12_press_191 fl_X12_28 (by first | assumption | rfl) (by rfl) rfl ?_
                              rw [R.1.2 11 (by decide) (by decide), show hp_vi (hp_seti S.1 43 (cl_ x) 6 1, S.2).1 40 0 11 = hp_vi S.1 40 0 11 from hp_seti_ne (by simp)]
                              refine v_putfi 197 dX12_press_194 pf_X12_press_223 (by first | assumption | rfl) (by first | assumption | decide) (by rfl) rfl rfl rfl ?_
                              have R : Rp2 (hp_seti (hp_seti S.1 43 (cl_ x) 6 1) 43 (cl_ x) 7 (hp_vi S.1 40 0 11), S.2) _ := R.i (by decide)
                              refine v_aload 199 dX12_press_197 rfl rfl ?_
                              refine v_iload 201 dX12_press_199 rfl rfl ?_
                              refine v_aload 203 dX12_press_201 rfl rfl ?_
                              refine v_getfr 206 dX12_press_203 fl_X12_186 (by first | assumption | rfl) (by rfl) rfl ?_
                              rw [R.vr (t := 43) (by decide), show hp_vr (hp_seti (hp_seti S.1 43 (cl_ x) 6 1) 43 (cl_ x) 7 (hp_vi S.1 40 0 11), S.2).1 43 (cl_ x) 3 = (46, cl_ x) from (I.fa hc.1 c79).1]
                              refine v_getfi 209 dX12_press_206 fl_X12_161 (by first | assumption | rfl) (by rfl) rfl ?_
                              rw [R.vi (t := 46) (by decide), show hp_vi (hp_seti (hp_seti S.1 43 (cl_ x) 6 1) 43 (cl_ x) 7 (hp_vi S.1 40 0 11), S.2).1 46 (cl_ x) 2 = hp_vi S.1 46 (cl_ x) 2 from (hp_seti_ne (by simp)).trans (hp_seti_ne (by simp))]
                              refine v_imul 210 dX12_press_209 rfl ?_
                              rw [← eb]
                              refine v_putfi 213 dX12_press_210 pf_X12_press_226 (by first | assumption | rfl) (by first | assumption | decide) (by rfl) rfl rfl rfl ?_
                              have R : Rp2 (hp_seti (hp_seti (hp_seti S.1 43 (cl_ x) 6 1) 43 (cl_ x) 7 (hp_vi S.1 40 0 11)) 43 (cl_ x) 8 (s_bl S (cl_ x) w mi wa), S.2) _ := R.i (by decide)
                              refine v_aload 215 dX12_press_213 rfl rfl ?_
                              refine v_getfi 218 dX12_press_215 fl_X12_226 (by first | assumption | rfl) (by rfl) rfl ?_
                              rw [R.vi (t := 43) (by decide), hp_seti_at]
                              refine v_ireturn dX12_press_218 rfl ?_
                              have ev : op_press S x w mi wa = (0, s_bl S (cl_ x) w mi wa, (hp_seti (hp_seti (hp_seti S.1 43 (cl_ x) 6 1) 43 (cl_ x) 7 (hp_vi S.1 40 0 11)) 43 (cl_ x) 8 (s_bl S (cl_ x) w mi wa), S.2)) := by unfold op_press; simp only [eq_true a6, eq_true a19, eq_true a31, eq_true a44, c79, c98, ↓reduceIte, and_self, and_true, true_and, and_false, false_and, not_true_eq_false, not_false_eq_true]
                              rw [ev] at hq
                              exact hq _ _ (fun _ => rfl) R (by first | exact e0 | exact (hp_seti_ne (by simp)).trans e0 | (simp only [vi_i, vi_r, vi_n]; simp; exact e0)) (by repeat' first | exact ke_.rf | exact ke0 | refine ke_.tr ?_ (ke_.i (by decide) (by decide)) | refine ke_.tr ?_ (ke_.r (by decide) (by decide)) | refine ke_.tr ?_ (ke_.n (by decide) (by decide)))
                          · have g137 : 4 + w / 3 < wa := Int32.not_le.mp c137
                            refine v_iconstv (v := 2) 141 dX12_press_140 (by decide) rfl ?_
                            refine v_goto 145 dX12_press_141 (by decide) ?_
                            refine v_iload_n 146 dX12_press_145 rfl rfl ?_
                            refine v_bipushv (v := 20) 148 dX12_press_146 (by decide) rfl ?_
                            refine v_aload_n 149 dX12_press_148 rfl rfl ?_
                            refine v_getfr 152 dX12_press_149 fl_X12_22 (by first | assumption | rfl) (by rfl) rfl ?_
                            rw [R.1.1.2.2.2.2.1]
                            refine v_iload_n 153 dX12_press_152 rfl rfl ?_
                            refine v_invf (z := ("java/util/ArrayList", TJx4a65c, 3)) (d' := 2) (k' := 0) (n' := 0) (k2 := 0) (n2 := 0) 158 [_] dX12_press_153 mf_X12_90 md_Jx4a65c_get_915e3 mi_Jx4a65c_get_915e3 se_Jx4a65c_get_915e3 (by simp [g_fw]; rfl) ⟨by decide, by decide +kernel⟩ (by first | assumption | rfl) (by rfl) rfl rfl (of_decide_eq_true rfl) rfl (by decide) rfl rfl rfl rfl (C_gt (tl := 53) (ta := 59) rfl rfl R.2.1.2.2.2.1 (by assumption) ?_)
                            refine v_cast 161 dX12_press_158 ⟨_, _, rfl, rfl, cl_X12_135⟩ rfl ?_
                            refine v_invv (d' := 0) (k' := 0) (n' := 0) (k2 := 0) (n2 := 0) 164 [] dX12_press_161 mt_X12_220 mi_J6_intValue_8abf5 me_J6_intValue_8abf5 (by first | assumption | rfl) (by rfl) rfl rfl (of_decide_eq_true rfl) rfl (by decide) rfl rfl rfl rfl (C_J6_intValue_8abf5 ?_)
                            refine VV.know (fun ho9 _ _ => ?_)
                            rw [ho9.2.2.2.2.1, show nI (nn_ S (10 + cl_ x) + 128) - 128 = nI (nn_ S (10 + cl_ x)) from pk_sub (a := nn_ S (10 + cl_ x) + 128) (b := 128) (by omega)]
                            refine v_iconstv (v := 4) 165 dX12_press_164 (by decide) rfl ?_
                            refine v_idiv 166 dX12_press_165 (by decide) rfl ?_
                            refine v_iadd 167 dX12_press_166 rfl ?_
                            refine v_iload_n 168 dX12_press_167 rfl rfl ?_
                            refine v_iconstv (v := 3) 169 dX12_press_168 (by decide) rfl ?_
                            refine v_idiv 170 dX12_press_169 (by decide) rfl ?_
                            refine v_isub 171 dX12_press_170 rfl ?_
                            refine v_icmp_ge 178 174 dX12_press_171 (by decide) rfl (fun c171 => ?_) (fun c171 => ?_)
                            · have g171 : ¬ mi < 20 + nI (nn_ S (10 + cl_ x)) / 4 - w / 3 := Int32.not_lt.mpr c171
                              have eb : s_bl S (cl_ x) w mi wa = (2 + 0) * hp_vi S.1 46 (cl_ x) 2 := by rw [bl_eq, if_pos g137, if_neg g171]
                              refine v_iconstv (v := 0) 179 dX12_press_178 (by decide) rfl ?_
                              refine v_iadd 180 dX12_press_179 rfl ?_
                              refine v_istore 182 dX12_press_180 (by decide) rfl rfl ?_
                              dsimp only [List.set]
                              refine v_aload 184 dX12_press_182 rfl rfl ?_
                              refine v_iconstv (v := 1) 185 dX12_press_184 (by decide) rfl ?_
                              refine v_putfi 188 dX12_press_185 pf_X12_press_210 (by first | assumption | rfl) (by first | assumption | decide) (by rfl) (by first | rfl | decide | assumption) (by first | rfl | decide | assumption) rfl ?_
                              have R : Rp2 (hp_seti S.1 43 (cl_ x) 6 1, S.2) _ := R.i (by decide)
                              refine v_aload 190 dX12_press_188 rfl rfl ?_
                              refine v_aload_n 191 dX12_press_190 rfl rfl ?_
                              refine v_getfi 194 dX12_press_191 fl_X12_28 (by first | assumption | rfl) (by rfl) rfl ?_
                              rw [R.1.2 11 (by decide) (by decide), show hp_vi (hp_seti S.1 43 (cl_ x) 6 1, S.2).1 40 0 11 = hp_vi S.1 40 0 11 from hp_seti_ne (by simp)]
                              refine v_putfi 197 dX12_press_194 pf_X12_press_223 (by first | assumption | rfl) (by first | assumption | decide) (by rfl) rfl rfl rfl ?_
                              have R : Rp2 (hp_seti (hp_seti S.1 43 (cl_ x) 6 1) 43 (cl_ x) 7 (hp_vi S.1 40 0 11), S.2) _ := R.i (by decide)
                              refine v_aload 199 dX12_press_197 rfl rfl ?_
                              refine v_iload 201 dX12_press_199 rfl rfl ?_
                              refine v_aload 203 dX12_press_201 rfl rfl ?_
                              refine v_getfr 206 dX12_press_203 fl_X12_186 (by first | assumption | rfl) (by rfl) rfl ?_
                              rw [R.vr (t := 43) (by decide), show hp_vr (hp_seti (hp_seti S.1 43 (cl_ x) 6 1) 43 (cl_ x) 7 (hp_vi S.1 40 0 11), S.2).1 43 (cl_ x) 3 = (46, cl_ x) from (I.fa hc.1 c79).1]
                              refine v_getfi 209 dX12_press_206 fl_X12_161 (by first | assumption | rfl) (by rfl) rfl ?_
                              rw [R.vi (t := 46) (by decide), show hp_vi (hp_seti (hp_seti S.1 43 (cl_ x) 6 1) 43 (cl_ x) 7 (hp_vi S.1 40 0 11), S.2).1 46 (cl_ x) 2 = hp_vi S.1 46 (cl_ x) 2 from (hp_seti_ne (by simp)).trans (hp_seti_ne (by simp))]
                              refine v_imul 210 dX12_press_209 rfl ?_
                              rw [← eb]
                              refine v_putfi 213 dX12_press_210 pf_X12_press_226 (by first | assumption | rfl) (by first | assumption | decide) (by rfl) rfl rfl rfl ?_
                              have R : Rp2 (hp_seti (hp_seti (hp_seti S.1 43 (cl_ x) 6 1) 43 (cl_ x) 7 (hp_vi S.1 40 0 11)) 43 (cl_ x) 8 (s_bl S (cl_ x) w mi wa), S.2) _ := R.i (by decide)
                              refine v_aload 215 dX12_press_213 rfl rfl ?_
                              refine v_getfi 218 dX12_press_215 fl_X12_226 (by first | assumption | rfl) (by rfl) rfl ?_
                              rw [R.vi (t := 43) (by decide), hp_seti_at]
                              refine v_ireturn dX12_press_218 rfl ?_
                              have ev : op_press S x w mi wa = (0, s_bl S (cl_ x) w mi wa, (hp_seti (hp_seti (hp_seti S.1 43 (cl_ x) 6 1) 43 (cl_ x) 7 (hp_vi S.1 40 0 11)) 43 (cl_ x) 8 (s_bl S (cl_ x) w mi wa), S.2)) := by unfold op_press; simp only [eq_true a6, eq_true a19, eq_true a31, eq_true a44, c79, c98, ↓reduceIte, and_self, and_true, true_and, and_false, false_and, not_true_eq_false, not_false_eq_true]
                              rw [ev] at hq
                              exact hq _ _ (fun _ => rfl) R (by first | exact e0 | exact (hp_seti_ne (by simp)).trans e0 | (simp only [vi_i, vi_r, vi_n]; simp; exact e0)) (by repeat' first | exact ke_.rf | exact ke0 | refine ke_.tr ?_ (ke_.i (by decide) (by decide)) | refine ke_.tr ?_ (ke_.r (by decide) (by decide)) | refine ke_.tr ?_ (ke_.n (by decide) (by decide)))
                            · have g171 : mi < 20 + nI (nn_ S (10 + cl_ x)) / 4 - w / 3 := Int32.not_le.mp c171
                              have eb : s_bl S (cl_ x) w mi wa = (2 + 1) * hp_vi S.1 46 (cl_ x) 2 := by rw [bl_eq, if_pos g137, if_pos g171]
                              refine v_iconstv (v := 1) 175 dX12_press_174 (by decide) rfl ?_
                              refine v_goto 179 dX12_press_175 (by decide) ?_
                              refine v_iadd 180 dX12_press_179 rfl ?_
                              refine v_istore 182 dX12_press_180 (by decide) rfl rfl ?_
                              dsimp only [List.set]
                              refine v_aload 184 dX12_press_182 rfl rfl ?_
                              refine v_iconstv (v := 1) 185 dX12_press_184 (by decide) rfl ?_
                              refine v_putfi 188 dX12_press_185 pf_X12_press_210 (by first | assumption | rfl) (by first | assumption | decide) (by rfl) (by first | rfl | decide | assumption) (by first | rfl | decide | assumption) rfl ?_
                              have R : Rp2 (hp_seti S.1 43 (cl_ x) 6 1, S.2) _ := R.i (by decide)
                              refine v_aload 190 dX12_press_188 rfl rfl ?_
                              refine v_aload_n 191 dX12_press_190 rfl rfl ?_
                              refine v_getfi 194 dX12_press_191 fl_X12_28 (by first | assumption | rfl) (by rfl) rfl ?_
                              rw [R.1.2 11 (by decide) (by decide), show hp_vi (hp_seti S.1 43 (cl_ x) 6 1, S.2).1 40 0 11 = hp_vi S.1 40 0 11 from hp_seti_ne (by simp)]
                              refine v_putfi 197 dX12_press_194 pf_X12_press_223 (by first | assumption | rfl) (by first | assumption | decide) (by rfl) rfl rfl rfl ?_
                              have R : Rp2 (hp_seti (hp_seti S.1 43 (cl_ x) 6 1) 43 (cl_ x) 7 (hp_vi S.1 40 0 11), S.2) _ := R.i (by decide)
                              refine v_aload 199 dX12_press_197 rfl rfl ?_
                              refine v_iload 201 dX12_press_199 rfl rfl ?_
                              refine v_aload 203 dX12_press_201 rfl rfl ?_
                              refine v_getfr 206 dX12_press_203 fl_X12_186 (by first | assumption | rfl) (by rfl) rfl ?_
                              rw [R.vr (t := 43) (by decide), show hp_vr (hp_seti (hp_seti S.1 43 (cl_ x) 6 1) 43 (cl_ x) 7 (hp_vi S.1 40 0 11), S.2).1 43 (cl_ x) 3 = (46, cl_ x) from (I.fa hc.1 c79).1]
                              refine v_getfi 209 dX12_press_206 fl_X12_161 (by first | assumption | rfl) (by rfl) rfl ?_
                              rw [R.vi (t := 46) (by decide), show hp_vi (hp_seti (hp_seti S.1 43 (cl_ x) 6 1) 43 (cl_ x) 7 (hp_vi S.1 40 0 11), S.2).1 46 (cl_ x) 2 = hp_vi S.1 46 (cl_ x) 2 from (hp_seti_ne (by simp)).trans (hp_seti_ne (by simp))]
                              refine v_imul 210 dX12_press_209 rfl ?_
                              rw [← eb]
                              refine v_putfi 213 dX12_press_210 pf_X12_press_226 (by first | assumption | rfl) (by first | assumption | decide) (by rfl) rfl rfl rfl ?_
                              have R : Rp2 (hp_seti (hp_seti (hp_seti S.1 43 (cl_ x) 6 1) 43 (cl_ x) 7 (hp_vi S.1 40 0 11)) 43 (cl_ x) 8 (s_bl S (cl_ x) w mi wa), S.2) _ := R.i (by decide)
                              refine v_aload 215 dX12_press_213 rfl rfl ?_
                              refine v_getfi 218 dX12_press_215 fl_X12_226 (by first | assumption | rfl) (by rfl) rfl ?_
                              rw [R.vi (t := 43) (by decide), hp_seti_at]
                              refine v_ireturn dX12_press_218 rfl ?_
                              have ev : op_press S x w mi wa = (0, s_bl S (cl_ x) w mi wa, (hp_seti (hp_seti (hp_seti S.1 43 (cl_ x) 6 1) 43 (cl_ x) 7 (hp_vi S.1 40 0 11)) 43 (cl_ x) 8 (s_bl S (cl_ x) w mi wa), S.2)) := by unfold op_press; simp only [eq_true a6, eq_true a19, eq_true a31, eq_true a44, c79, c98, ↓reduceIte, and_self, and_true, true_and, and_false, false_and, not_true_eq_false, not_false_eq_true]
                              rw [ev] at hq
                              exact hq _ _ (fun _ => rfl) R (by first | exact e0 | exact (hp_seti_ne (by simp)).trans e0 | (simp only [vi_i, vi_r, vi_n]; simp; exact e0)) (by repeat' first | exact ke_.rf | exact ke0 | refine ke_.tr ?_ (ke_.i (by decide) (by decide)) | refine ke_.tr ?_ (ke_.r (by decide) (by decide)) | refine ke_.tr ?_ (ke_.n (by decide) (by decide)))
                        · first | exact absurd c110 (by decide) | exact absurd rfl c110 | exact absurd (of_decide_eq_true rfl) c110
                      · refine v_iconstv (v := 1) 102 dX12_press_101 (by decide) rfl ?_
                        refine v_goto 106 dX12_press_102 (by decide) ?_
                        refine v_iconstv (v := 3) 107 dX12_press_106 (by decide) rfl ?_
                        refine v_invv (d' := 0) (k' := 0) (n' := 0) (k2 := 0) (n2 := 0) 110 [_, _] dX12_press_107 mt_X12_67 mi_X12_fails me_X12_fails (by first | assumption | rfl) (by rfl) rfl rfl (of_decide_eq_true rfl) rfl (by decide) rfl rfl rfl rfl (C_f1 e0 (by decide) ?_)
                        refine v_if_eq 115 113 dX12_press_110 (by decide) rfl (fun c110 => ?_) (fun c110 => ?_)
                        · first | exact absurd c110 (by decide) | exact absurd rfl c110 | exact absurd (of_decide_eq_true rfl) c110
                        · refine v_iconstv (v := -1) 114 dX12_press_113 (by decide) rfl ?_
                          refine v_ireturn dX12_press_114 rfl ?_
                          have ev : op_press S x w mi wa = (3, 0, S) := by unfold op_press; simp only [eq_true a6, eq_true a19, eq_true a31, eq_true a44, c79, c98, ↓reduceIte, and_self, and_true, true_and, and_false, false_and, not_true_eq_false, not_false_eq_true]
                          rw [ev] at hq
                          exact hq _ _ (fun e => absurd e (Nat.succ_ne_zero _)) R.th hp_seti_at (ke0.tr (ke_.i (by decide) (by decide)))
                · first | exact absurd c47 (by decide) | exact absurd rfl c47 | exact absurd (of_decide_eq_true rfl) c47
              · refine v_if_ne 54 50 dX12_press_47 (by decide) rfl (fun c47 => ?_) (fun c47 => ?_)
                · first | exact absurd c47 (by decide) | exact absurd rfl c47 | exact absurd (of_decide_eq_true rfl) c47
                · refine v_iconstv (v := 1) 51 dX12_press_50 (by decide) rfl ?_
                  refine v_goto 55 dX12_press_51 (by decide) ?_
                  refine v_iconstv (v := 2) 56 dX12_press_55 (by decide) rfl ?_
                  refine v_invv (d' := 0) (k' := 0) (n' := 0) (k2 := 0) (n2 := 0) 59 [_, _] dX12_press_56 mt_X12_67 mi_X12_fails me_X12_fails (by first | assumption | rfl) (by rfl) rfl rfl (of_decide_eq_true rfl) rfl (by decide) rfl rfl rfl rfl (C_f1 e0 (by decide) ?_)
                  refine v_if_ne 113 62 dX12_press_59 (by decide) rfl (fun c59 => ?_) (fun c59 => ?_)
                  · refine v_iconstv (v := -1) 114 dX12_press_113 (by decide) rfl ?_
                    refine v_ireturn dX12_press_114 rfl ?_
                    have ev : op_press S x w mi wa = (2, 0, S) := by unfold op_press; simp only [eq_true a6, eq_true a19, eq_true a31, b44, ↓reduceIte, and_self, and_true, true_and, and_false, false_and, not_true_eq_false, not_false_eq_true]
                    rw [ev] at hq
                    exact hq _ _ (fun e => absurd e (Nat.succ_ne_zero _)) R.th hp_seti_at (ke0.tr (ke_.i (by decide) (by decide)))
                  · first | exact absurd c59 (by decide) | exact absurd rfl c59 | exact absurd (of_decide_eq_true rfl) c59
          · refine v_if_eq 50 37 dX12_press_34 (by decide) rfl (fun c34 => ?_) (fun c34 => ?_)
            · refine v_iconstv (v := 1) 51 dX12_press_50 (by decide) rfl ?_
              refine v_goto 55 dX12_press_51 (by decide) ?_
              refine v_iconstv (v := 2) 56 dX12_press_55 (by decide) rfl ?_
              refine v_invv (d' := 0) (k' := 0) (n' := 0) (k2 := 0) (n2 := 0) 59 [_, _] dX12_press_56 mt_X12_67 mi_X12_fails me_X12_fails (by first | assumption | rfl) (by rfl) rfl rfl (of_decide_eq_true rfl) rfl (by decide) rfl rfl rfl rfl (C_f1 e0 (by decide) ?_)
              refine v_if_ne 113 62 dX12_press_59 (by decide) rfl (fun c59 => ?_) (fun c59 => ?_)
              · refine v_iconstv (v := -1) 114 dX12_press_113 (by decide) rfl ?_
                refine v_ireturn dX12_press_114 rfl ?_
                have ev : op_press S x w mi wa = (2, 0, S) := by unfold op_press; simp only [eq_true a6, eq_true a19, b31, ↓reduceIte, and_self, and_true, true_and, and_false, false_and, not_true_eq_false, not_false_eq_true]
                rw [ev] at hq
                exact hq _ _ (fun e => absurd e (Nat.succ_ne_zero _)) R.th hp_seti_at (ke0.tr (ke_.i (by decide) (by decide)))
              · first | exact absurd c59 (by decide) | exact absurd rfl c59 | exact absurd (of_decide_eq_true rfl) c59
            · first | exact absurd c34 (by decide) | exact absurd rfl c34 | exact absurd (of_decide_eq_true rfl) c34
      · refine v_if_eq 50 25 dX12_press_22 (by decide) rfl (fun c22 => ?_) (fun c22 => ?_)
        · refine v_iconstv (v := 1) 51 dX12_press_50 (by decide) rfl ?_
          refine v_goto 55 dX12_press_51 (by decide) ?_
          refine v_iconstv (v := 2) 56 dX12_press_55 (by decide) rfl ?_
          refine v_invv (d' := 0) (k' := 0) (n' := 0) (k2 := 0) (n2 := 0) 59 [_, _] dX12_press_56 mt_X12_67 mi_X12_fails me_X12_fails (by first | assumption | rfl) (by rfl) rfl rfl (of_decide_eq_true rfl) rfl (by decide) rfl rfl rfl rfl (C_f1 e0 (by decide) ?_)
          refine v_if_ne 113 62 dX12_press_59 (by decide) rfl (fun c59 => ?_) (fun c59 => ?_)
          · refine v_iconstv (v := -1) 114 dX12_press_113 (by decide) rfl ?_
            refine v_ireturn dX12_press_114 rfl ?_
            have ev : op_press S x w mi wa = (2, 0, S) := by unfold op_press; simp only [eq_true a6, b19, ↓reduceIte, and_self, and_true, true_and, and_false, false_and, not_true_eq_false, not_false_eq_true]
            rw [ev] at hq
            exact hq _ _ (fun e => absurd e (Nat.succ_ne_zero _)) R.th hp_seti_at (ke0.tr (ke_.i (by decide) (by decide)))
          · first | exact absurd c59 (by decide) | exact absurd rfl c59 | exact absurd (of_decide_eq_true rfl) c59
        · first | exact absurd c22 (by decide) | exact absurd rfl c22 | exact absurd (of_decide_eq_true rfl) c22
  · refine v_if_ne 113 12 dX12_press_9 (by decide) rfl (fun c9 => ?_) (fun c9 => ?_)
    · refine v_iconstv (v := -1) 114 dX12_press_113 (by decide) rfl ?_
      refine v_ireturn dX12_press_114 rfl ?_
      have ev : op_press S x w mi wa = (1, 0, S) := by unfold op_press; simp only [b6, ↓reduceIte, and_self, and_true, true_and, and_false, false_and, not_true_eq_false, not_false_eq_true]
      rw [ev] at hq
      exact hq _ _ (fun e => absurd e (Nat.succ_ne_zero _)) R.th hp_seti_at (ke0.tr (ke_.i (by decide) (by decide)))
    · first | exact absurd c9 (by decide) | exact absurd rfl c9 | exact absurd (of_decide_eq_true rfl) c9
