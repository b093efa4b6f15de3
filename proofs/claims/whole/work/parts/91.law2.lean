set_option maxRecDepth 20000 in
theorem C_X12_init {G : GW} {h : PH} {Q : RS → PH → Prop} (f0 : hp_al h 50 0 = false) (f1 : hp_al h 51 0 = false) (f2 : hp_al h 52 0 = false) (f3 : hp_al h 53 0 = false) (f4 : hp_al h 54 0 = false) (f5 : hp_al h 55 0 = false) (hq : Q (.inl none) (nl_ (hp_seti (nl_ (nl_ (nl_ (nl_ (nl_ h 40 1 50) 40 2 51) 40 3 52) 40 4 53) 40 5 54) 40 0 11 8) 40 12 55)) : VV G 4 6 18 yX12_init cX12_init 1 (none) [] 0 (vv_en 1 [pv_O (40, 0)]) [] h Q := by
  show VV G 4 6 18 yX12_init cX12_init 1 (none) [] 0 [some (pv_O (40, 0))] [] h Q
  refine v_aload_n 1 dX12_init_0 rfl rfl ?_
  refine v_objinit 4 dX12_init_1 oi_X12_1 oi_1 oi_2 (by first | decide | (dsimp only; omega)) (by first | decide | (dsimp only; omega)) (by first | decide | (dsimp only; omega)) rfl ?_
  refine v_aload_n 5 dX12_init_4 rfl rfl ?_
  refine v_new (k1 := 5) (n1 := 15) 8 50 0 dX12_init_5 nw_X12_7 (by rfl) (by decide) (by first | exact f0 | simp [al_n, al_r, al_i, f0]) rfl rfl rfl ?_
  refine v_dup 9 dX12_init_8 rfl rfl ?_
  refine v_invi (d' := 3) (k' := 0) (n' := 0) (k2 := 5) (n2 := 15) 12 [] dX12_init_9 mt_X12_9 mi_Jx4a65c_init_da8c8 rfl rfl (by first | assumption | rfl) rfl rfl (of_decide_eq_true rfl) rfl (by decide) rfl rfl rfl rfl (C_Jx4a65c_init_da8c8 rfl (by decide) ?_)
  refine v_putfr 15 dX12_init_12 pf_X12_init_10 (by first | assumption | rfl) (by first | assumption | decide) (by rfl) rfl ?_
  refine v_aload_n 16 dX12_init_15 rfl rfl ?_
  refine v_new (k1 := 4) (n1 := 12) 19 51 0 dX12_init_16 nw_X12_7 (by rfl) (by decide) (by first | exact f1 | simp [al_n, al_r, al_i, f1]) rfl rfl rfl ?_
  refine v_dup 20 dX12_init_19 rfl rfl ?_
  refine v_invi (d' := 3) (k' := 0) (n' := 0) (k2 := 4) (n2 := 12) 23 [] dX12_init_20 mt_X12_9 mi_Jx4a65c_init_da8c8 rfl rfl (by first | assumption | rfl) rfl rfl (of_decide_eq_true rfl) rfl (by decide) rfl rfl rfl rfl (C_Jx4a65c_init_da8c8 rfl (by decide) ?_)
  refine v_putfr 26 dX12_init_23 pf_X12_init_16 (by first | assumption | rfl) (by first | assumption | decide) (by rfl) rfl ?_
  refine v_aload_n 27 dX12_init_26 rfl rfl ?_
  refine v_new (k1 := 3) (n1 := 9) 30 52 0 dX12_init_27 nw_X12_7 (by rfl) (by decide) (by first | exact f2 | simp [al_n, al_r, al_i, f2]) rfl rfl rfl ?_
  refine v_dup 31 dX12_init_30 rfl rfl ?_
  refine v_invi (d' := 3) (k' := 0) (n' := 0) (k2 := 3) (n2 := 9) 34 [] dX12_init_31 mt_X12_9 mi_Jx4a65c_init_da8c8 rfl rfl (by first | assumption | rfl) rfl rfl (of_decide_eq_true rfl) rfl (by decide) rfl rfl rfl rfl (C_Jx4a65c_init_da8c8 rfl (by decide) ?_)
  refine v_putfr 37 dX12_init_34 pf_X12_init_19 (by first | assumption | rfl) (by first | assumption | decide) (by rfl) rfl ?_
  refine v_aload_n 38 dX12_init_37 rfl rfl ?_
  refine v_new (k1 := 2) (n1 := 6) 41 53 0 dX12_init_38 nw_X12_7 (by rfl) (by decide) (by first | exact f3 | simp [al_n, al_r, al_i, f3]) rfl rfl rfl ?_
  refine v_dup 42 dX12_init_41 rfl rfl ?_
  refine v_invi (d' := 3) (k' := 0) (n' := 0) (k2 := 2) (n2 := 6) 45 [] dX12_init_42 mt_X12_9 mi_Jx4a65c_init_da8c8 rfl rfl (by first | assumption | rfl) rfl rfl (of_decide_eq_true rfl) rfl (by decide) rfl rfl rfl rfl (C_Jx4a65c_init_da8c8 rfl (by decide) ?_)
  refine v_putfr 48 dX12_init_45 pf_X12_init_22 (by first | assumption | rfl) (by first | assumption | decide) (by rfl) rfl ?_
  refine v_aload_n 49 dX12_init_48 rfl rfl ?_
  refine v_new (k1 := 1) (n1 := 3) 52 54 0 dX12_init_49 nw_X12_7 (by rfl) (by decide) (by first | exact f4 | simp [al_n, al_r, al_i, f4]) rfl rfl rfl ?_
  refine v_dup 53 dX12_init_52 rfl rfl ?_
  refine v_invi (d' := 3) (k' := 0) (n' := 0) (k2 := 1) (n2 := 3) 56 [] dX12_init_53 mt_X12_9 mi_Jx4a65c_init_da8c8 rfl rfl (by first | assumption | rfl) rfl rfl (of_decide_eq_true rfl) rfl (by decide) rfl rfl rfl rfl (C_Jx4a65c_init_da8c8 rfl (by decide) ?_)
  refine v_putfr 59 dX12_init_56 pf_X12_init_25 (by first | assumption | rfl) (by first | assumption | decide) (by rfl) rfl ?_
  refine v_aload_n 60 dX12_init_59 rfl rfl ?_
  refine v_bipushv (v := 8) 62 dX12_init_60 (by decide) rfl ?_
  refine v_putfi 65 dX12_init_62 pf_X12_init_28 (by first | assumption | rfl) (by first | assumption | decide) (by rfl) rfl rfl rfl ?_
  refine v_aload_n 66 dX12_init_65 rfl rfl ?_
  refine v_new (k1 := 0) (n1 := 0) 69 55 0 dX12_init_66 nw_X12_7 (by rfl) (by decide) (by first | exact f5 | simp [al_n, al_r, al_i, f5]) rfl rfl rfl ?_
  refine v_dup 70 dX12_init_69 rfl rfl ?_
  refine v_invi (d' := 3) (k' := 0) (n' := 0) (k2 := 0) (n2 := 0) 73 [] dX12_init_70 mt_X12_9 mi_Jx4a65c_init_da8c8 rfl rfl (by first | assumption | rfl) rfl rfl (of_decide_eq_true rfl) rfl (by decide) rfl rfl rfl rfl (C_Jx4a65c_init_da8c8 rfl (by decide) ?_)
  refine v_putfr 76 dX12_init_73 pf_X12_init_32 (by first | assumption | rfl) (by first | assumption | decide) (by rfl) rfl ?_
  refine v_return dX12_init_76 rfl ?_
  exact hq
section VVL2
/-- nothing is made yet -/
def h_b (h : PH) : Prop := (∀ t, 10 ≤ t → hp_al h t = (fun _ => false) ∧ hp_ln h t = (fun _ => 0) ∧ hp_vi h t = (fun _ _ => 0) ∧ hp_vr h t = (fun _ _ => (0, 0)) ∧ hp_vl h t = (fun _ _ => 0) ∧ hp_vd h t = (fun _ _ => 0)) ∧ hp_al h 5 0 = true ∧ hp_ln h 5 0 = 0
theorem nl_vr {h : PH} {o i t u j l : Nat} : hp_vr (nl_ h o i t) u j l = if u = o ∧ j = 0 ∧ l = i then (t, 0) else if u = t ∧ j = 0 ∧ l = 1 then (5, 0) else if u = t ∧ j = 0 then (0, 0) else hp_vr h u j l := rfl
theorem nl_vi {h : PH} {o i t u j l : Nat} : hp_vi (nl_ h o i t) u j l = if u = t ∧ j = 0 ∧ l = 0 then 0 else if u = t ∧ j = 0 then 0 else hp_vi h u j l := rfl
theorem fr_te {h h' : PH} {t : Nat} (e : hp_te h h' t) (h0 : hp_al h t = fun _ => false) : fr_t h' t := ⟨0, fun j _ => by rw [e.1, h0]⟩
variable {hB : PH}
theorem rp_1 (B : h_b hB) : Rp1 s_0 (hp_seti (nl_ (nl_ (nl_ (nl_ (nl_ (hp_new hB 10 0 0) 10 0 20) 10 1 21) 10 2 22) 10 3 23) 10 4 24) 10 0 5 8) := by
  obtain ⟨b1, b5, b50⟩ := B
  have T : ∀ t, ¬ t = 10 → ¬ t = 20 → ¬ t = 21 → ¬ t = 22 → ¬ t = 23 → ¬ t = 24 → hp_te hB (hp_seti (nl_ (nl_ (nl_ (nl_ (nl_ (hp_new hB 10 0 0) 10 0 20) 10 1 21) 10 2 22) 10 3 23) 10 4 24) 10 0 5 8) t := fun t _ _ _ _ _ _ => (by repeat' first | exact hp_te.rf | refine hp_te.tr ?_ (hp_te.i (by omega)) | refine hp_te.tr ?_ (nl_te (by omega) (by omega)) | refine hp_te.tr ?_ (hp_te.n (by omega)))
  have AF : ∀ t, 10 ≤ t → ¬ t = 10 → ¬ t = 20 → ¬ t = 21 → ¬ t = 22 → ¬ t = 23 → ¬ t = 24 → ∀ i, hp_al (hp_seti (nl_ (nl_ (nl_ (nl_ (nl_ (hp_new hB 10 0 0) 10 0 20) 10 1 21) 10 2 22) 10 3 23) 10 4 24) 10 0 5 8) t i = false := fun t h1 h2 h3 h4 h5 h6 h7 i => by rw [(T t h2 h3 h4 h5 h6 h7).1, (b1 t h1).1]
  refine ⟨⟨⟨?_, ?_, ?_, ?_, ?_, ?_⟩, ?_, ?_, ?_, ?_, ?_, ?_⟩, ⟨?_, ?_, ?_, ?_, ?_⟩, ⟨fun i hi => absurd hi (Nat.not_lt_zero i), fun i _ => AF _ (by decide) (by decide) (by decide) (by decide) (by decide) (by decide) (by decide) i⟩, ⟨fun i hi => absurd hi (Nat.not_lt_zero i), fun i _ => ⟨AF _ (by decide) (by decide) (by decide) (by decide) (by decide) (by decide) (by decide) i, AF _ (by decide) (by decide) (by decide) (by decide) (by decide) (by decide) (by decide) i, AF _ (by decide) (by decide) (by decide) (by decide) (by decide) (by decide) (by decide) i, AF _ (by decide) (by decide) (by decide) (by decide) (by decide) (by decide) (by decide) i⟩⟩,
    ⟨fun i hi => absurd hi (Nat.not_lt_zero i), fun i _ => ⟨AF _ (by decide) (by decide) (by decide) (by decide) (by decide) (by decide) (by decide) i, AF _ (by decide) (by decide) (by decide) (by decide) (by decide) (by decide) (by decide) i, AF _ (by decide) (by decide) (by decide) (by decide) (by decide) (by decide) (by decide) i⟩⟩, ⟨fun i hi => absurd hi (Nat.not_lt_zero i), fun i _ => ⟨AF _ (by decide) (by decide) (by decide) (by decide) (by decide) (by decide) (by decide) i, AF _ (by decide) (by decide) (by decide) (by decide) (by decide) (by decide) (by decide) i, AF _ (by decide) (by decide) (by decide) (by decide) (by decide) (by decide) (by decide) i, AF _ (by decide) (by decide) (by decide) (by decide) (by decide) (by decide) (by decide) i, AF _ (by decide) (by decide) (by decide) (by decide) (by decide) (by decide) (by decide) i, AF _ (by decide) (by decide) (by decide) (by decide) (by decide) (by decide) (by decide) i⟩⟩, ⟨fun i hi => absurd hi (Nat.not_lt_zero i), fun i _ => AF _ (by decide) (by decide) (by decide) (by decide) (by decide) (by decide) (by decide) i⟩⟩
  · simp [al_i, nl_al, al_n]
  · simp [vr_i, nl_vr, vr_n]
  · simp [vr_i, nl_vr, vr_n]
  · simp [vr_i, nl_vr, vr_n]
  · simp [vr_i, nl_vr, vr_n]
  · simp [vr_i, nl_vr, vr_n]
  · simp [vi_i, nl_vi, vi_n, s_0]; try rfl
  · simp [vi_i, nl_vi, vi_n, s_0]; try rfl
  · simp [vi_i, nl_vi, vi_n, s_0]; try rfl
  · simp [vi_i, nl_vi, vi_n, s_0]; try rfl
  · simp [vi_i, nl_vi, vi_n, s_0]; try rfl
  · simp [vi_i, nl_vi, vi_n, s_0]; try rfl
  · have e5 : hp_te hB (hp_new hB 10 0 0) 5 := (by repeat' first | exact hp_te.rf | refine hp_te.tr ?_ (nl_te (by decide) (by decide)) | refine hp_te.tr ?_ (hp_te.n (by decide)))
    have X := q_l.nw (h := (hp_new hB 10 0 0)) (o := 10) (i := 0) (t := 20) (ta := 25) (f := fun k => (11, k)) (by decide) (by decide) (by decide) (by rw [e5.1]; exact b5) (by rw [e5.2.1]; exact b50) (fr_te (h := hB) (by repeat' first | exact hp_te.rf | refine hp_te.tr ?_ (nl_te (by decide) (by decide)) | refine hp_te.tr ?_ (hp_te.n (by decide))) (b1 25 (by decide)).1) (by decide)
    exact X.te (by repeat' first | exact hp_te.rf | refine hp_te.tr ?_ (hp_te.i (by decide)) | refine hp_te.tr ?_ (nl_te (by decide) (by decide))) (by repeat' first | exact hp_te.rf | refine hp_te.tr ?_ (hp_te.i (by decide)) | refine hp_te.tr ?_ (nl_te (by decide) (by decide))) (by repeat' first | exact hp_te.rf | refine hp_te.tr ?_ (hp_te.i (by decide)) | refine hp_te.tr ?_ (nl_te (by decide) (by decide)))
  · have e5 : hp_te hB (nl_ (hp_new hB 10 0 0) 10 0 20) 5 := (by repeat' first | exact hp_te.rf | refine hp_te.tr ?_ (nl_te (by decide) (by decide)) | refine hp_te.tr ?_ (hp_te.n (by decide)))
    have X := q_l.nw (h := (nl_ (hp_new hB 10 0 0) 10 0 20)) (o := 10) (i := 1) (t := 21) (ta := 26) (f := fun k => (12, k)) (by decide) (by decide) (by decide) (by rw [e5.1]; exact b5) (by rw [e5.2.1]; exact b50) (fr_te (h := hB) (by repeat' first | exact hp_te.rf | refine hp_te.tr ?_ (nl_te (by decide) (by decide)) | refine hp_te.tr ?_ (hp_te.n (by decide))) (b1 26 (by decide)).1) (by decide)
    exact X.te (by repeat' first | exact hp_te.rf | refine hp_te.tr ?_ (hp_te.i (by decide)) | refine hp_te.tr ?_ (nl_te (by decide) (by decide))) (by repeat' first | exact hp_te.rf | refine hp_te.tr ?_ (hp_te.i (by decide)) | refine hp_te.tr ?_ (nl_te (by decide) (by decide))) (by repeat' first | exact hp_te.rf | refine hp_te.tr ?_ (hp_te.i (by decide)) | refine hp_te.tr ?_ (nl_te (by decide) (by decide)))
  · have e5 : hp_te hB (nl_ (nl_ (hp_new hB 10 0 0) 10 0 20) 10 1 21) 5 := (by repeat' first | exact hp_te.rf | refine hp_te.tr ?_ (nl_te (by decide) (by decide)) | refine hp_te.tr ?_ (hp_te.n (by decide)))
    have X := q_l.nw (h := (nl_ (nl_ (hp_new hB 10 0 0) 10 0 20) 10 1 21)) (o := 10) (i := 2) (t := 22) (ta := 27) (f := fun k => (13, k)) (by decide) (by decide) (by decide) (by rw [e5.1]; exact b5) (by rw [e5.2.1]; exact b50) (fr_te (h := hB) (by repeat' first | exact hp_te.rf | refine hp_te.tr ?_ (nl_te (by decide) (by decide)) | refine hp_te.tr ?_ (hp_te.n (by decide))) (b1 27 (by decide)).1) (by decide)
    exact X.te (by repeat' first | exact hp_te.rf | refine hp_te.tr ?_ (hp_te.i (by decide)) | refine hp_te.tr ?_ (nl_te (by decide) (by decide))) (by repeat' first | exact hp_te.rf | refine hp_te.tr ?_ (hp_te.i (by decide)) | refine hp_te.tr ?_ (nl_te (by decide) (by decide))) (by repeat' first | exact hp_te.rf | refine hp_te.tr ?_ (hp_te.i (by decide)) | refine hp_te.tr ?_ (nl_te (by decide) (by decide)))
  · have e5 : hp_te hB (nl_ (nl_ (nl_ (hp_new hB 10 0 0) 10 0 20) 10 1 21) 10 2 22) 5 := (by repeat' first | exact hp_te.rf | refine hp_te.tr ?_ (nl_te (by decide) (by decide)) | refine hp_te.tr ?_ (hp_te.n (by decide)))
    have X := q_l.nw (h := (nl_ (nl_ (nl_ (hp_new hB 10 0 0) 10 0 20) 10 1 21) 10 2 22)) (o := 10) (i := 3) (t := 23) (ta := 28) (f := fun k => (14, k)) (by decide) (by decide) (by decide) (by rw [e5.1]; exact b5) (by rw [e5.2.1]; exact b50) (fr_te (h := hB) (by repeat' first | exact hp_te.rf | refine hp_te.tr ?_ (nl_te (by decide) (by decide)) | refine hp_te.tr ?_ (hp_te.n (by decide))) (b1 28 (by decide)).1) (by decide)
    exact X.te (by repeat' first | exact hp_te.rf | refine hp_te.tr ?_ (hp_te.i (by decide)) | refine hp_te.tr ?_ (nl_te (by decide) (by decide))) (by repeat' first | exact hp_te.rf | refine hp_te.tr ?_ (hp_te.i (by decide)) | refine hp_te.tr ?_ (nl_te (by decide) (by decide))) (by repeat' first | exact hp_te.rf | refine hp_te.tr ?_ (hp_te.i (by decide)) | refine hp_te.tr ?_ (nl_te (by decide) (by decide)))
  · have e5 : hp_te hB (nl_ (nl_ (nl_ (nl_ (hp_new hB 10 0 0) 10 0 20) 10 1 21) 10 2 22) 10 3 23) 5 := (by repeat' first | exact hp_te.rf | refine hp_te.tr ?_ (nl_te (by decide) (by decide)) | refine hp_te.tr ?_ (hp_te.n (by decide)))
    have X := q_l.nw (h := (nl_ (nl_ (nl_ (nl_ (hp_new hB 10 0 0) 10 0 20) 10 1 21) 10 2 22) 10 3 23)) (o := 10) (i := 4) (t := 24) (ta := 29) (f := fun k => (15, s_0.2.2 k)) (by decide) (by decide) (by decide) (by rw [e5.1]; exact b5) (by rw [e5.2.1]; exact b50) (fr_te (h := hB) (by repeat' first | exact hp_te.rf | refine hp_te.tr ?_ (nl_te (by decide) (by decide)) | refine hp_te.tr ?_ (hp_te.n (by decide))) (b1 29 (by decide)).1) (by decide)
    exact X.te (by repeat' first | exact hp_te.rf | refine hp_te.tr ?_ (hp_te.i (by decide)) | refine hp_te.tr ?_ (nl_te (by decide) (by decide))) (by repeat' first | exact hp_te.rf | refine hp_te.tr ?_ (hp_te.i (by decide)) | refine hp_te.tr ?_ (nl_te (by decide) (by decide))) (by repeat' first | exact hp_te.rf | refine hp_te.tr ?_ (hp_te.i (by decide)) | refine hp_te.tr ?_ (nl_te (by decide) (by decide)))
theorem rp_2 {h : PH} (b1 : ∀ t, 40 ≤ t → hp_al h t = (fun _ => false) ∧ hp_ln h t = (fun _ => 0) ∧ hp_vi h t = (fun _ _ => 0) ∧ hp_vr h t = (fun _ _ => (0, 0)) ∧ hp_vl h t = (fun _ _ => 0) ∧ hp_vd h t = (fun _ _ => 0)) (b5 : hp_al h 5 0 = true) (b50 : hp_ln h 5 0 = 0) : Rp2 s_0 (nl_ (hp_seti (nl_ (nl_ (nl_ (nl_ (nl_ (hp_new h 40 0 0) 40 1 50) 40 2 51) 40 3 52) 40 4 53) 40 5 54) 40 0 11 8) 40 12 55) := by
  have T : ∀ t, ¬ t = 40 → ¬ t = 50 → ¬ t = 51 → ¬ t = 52 → ¬ t = 53 → ¬ t = 54 → ¬ t = 55 → hp_te h (nl_ (hp_seti (nl_ (nl_ (nl_ (nl_ (nl_ (hp_new h 40 0 0) 40 1 50) 40 2 51) 40 3 52) 40 4 53) 40 5 54) 40 0 11 8) 40 12 55) t := fun t _ _ _ _ _ _ _ => (by repeat' first | exact hp_te.rf | refine hp_te.tr ?_ (hp_te.i (by omega)) | refine hp_te.tr ?_ (nl_te (by omega) (by omega)) | refine hp_te.tr ?_ (hp_te.n (by omega)))
  have Z : ∀ t, 41 ≤ t → ¬ t = 50 → ¬ t = 51 → ¬ t = 52 → ¬ t = 53 → ¬ t = 54 → ¬ t = 55 → hp_te s_0.1 (nl_ (hp_seti (nl_ (nl_ (nl_ (nl_ (nl_ (hp_new h 40 0 0) 40 1 50) 40 2 51) 40 3 52) 40 4 53) 40 5 54) 40 0 11 8) 40 12 55) t := fun t h1 h2 h3 h4 h5 h6 h7 => by
    have e := T t (by omega) h2 h3 h4 h5 h6 h7
    obtain ⟨z1, z2, z3, z4, z5, z6⟩ := b1 t (by omega)
    refine ⟨e.1.trans z1, e.2.1.trans z2, e.2.2.1.trans (z3.trans ?_), e.2.2.2.1.trans z4, e.2.2.2.2.1.trans z5, e.2.2.2.2.2.trans z6⟩
    funext i k
    exact (if_neg (by omega)).symm
  have v40 := (b1 40 (by decide)).2.2.1
  refine ⟨⟨⟨?_, ?_, ?_, ?_, ?_, ?_, ?_⟩, fun k h1 h2 => ?_⟩, ⟨?_, ?_, ?_, ?_, ?_, ?_⟩, ⟨fun t h1 h2 => Z t h1 (by omega) (by omega) (by omega) (by omega) (by omega) (by omega), Z _ (by decide) (by decide) (by decide) (by decide) (by decide) (by decide) (by decide), Z _ (by decide) (by decide) (by decide) (by decide) (by decide) (by decide) (by decide), Z _ (by decide) (by decide) (by decide) (by decide) (by decide) (by decide) (by decide)⟩⟩
  · simp [al_i, nl_al, al_n]
  · simp [vr_i, nl_vr, vr_n]
  · simp [vr_i, nl_vr, vr_n]
  · simp [vr_i, nl_vr, vr_n]
  · simp [vr_i, nl_vr, vr_n]
  · simp [vr_i, nl_vr, vr_n]
  · simp [vr_i, nl_vr, vr_n]
  · have hk : k = 6 ∨ k = 7 ∨ k = 8 ∨ k = 9 ∨ k = 10 ∨ k = 11 := by omega
    rcases hk with rfl | rfl | rfl | rfl | rfl | rfl <;> simp [vi_i, nl_vi, vi_n, s_0, v40] <;> rfl
  · have e5 : hp_te h (hp_new h 40 0 0) 5 := (by repeat' first | exact hp_te.rf | refine hp_te.tr ?_ (hp_te.i (by decide)) | refine hp_te.tr ?_ (nl_te (by decide) (by decide)) | refine hp_te.tr ?_ (hp_te.n (by decide)))
    have X := q_l.nw (h := (hp_new h 40 0 0)) (o := 40) (i := 1) (t := 50) (ta := 56) (f := fun k => (41, k)) (by decide) (by decide) (by decide) (by rw [e5.1]; exact b5) (by rw [e5.2.1]; exact b50) (fr_te (h := h) (by repeat' first | exact hp_te.rf | refine hp_te.tr ?_ (hp_te.i (by decide)) | refine hp_te.tr ?_ (nl_te (by decide) (by decide)) | refine hp_te.tr ?_ (hp_te.n (by decide))) (b1 56 (by decide)).1) (by decide)
    exact X.te (by repeat' first | exact hp_te.rf | refine hp_te.tr ?_ (hp_te.i (by decide)) | refine hp_te.tr ?_ (nl_te (by decide) (by decide)) | refine hp_te.tr ?_ (hp_te.n (by decide))) (by repeat' first | exact hp_te.rf | refine hp_te.tr ?_ (hp_te.i (by decide)) | refine hp_te.tr ?_ (nl_te (by decide) (by decide)) | refine hp_te.tr ?_ (hp_te.n (by decide))) (by repeat' first | exact hp_te.rf | refine hp_te.tr ?_ (hp_te.i (by decide)) | refine hp_te.tr ?_ (nl_te (by decide) (by decide)) | refine hp_te.tr ?_ (hp_te.n (by decide)))
  · have e5 : hp_te h (nl_ (hp_new h 40 0 0) 40 1 50) 5 := (by repeat' first | exact hp_te.rf | refine hp_te.tr ?_ (hp_te.i (by decide)) | refine hp_te.tr ?_ (nl_te (by decide) (by decide)) | refine hp_te.tr ?_ (hp_te.n (by decide)))
    have X := q_l.nw (h := (nl_ (hp_new h 40 0 0) 40 1 50)) (o := 40) (i := 2) (t := 51) (ta := 57) (f := fun k => (42, k)) (by decide) (by decide) (by decide) (by rw [e5.1]; exact b5) (by rw [e5.2.1]; exact b50) (fr_te (h := h) (by repeat' first | exact hp_te.rf | refine hp_te.tr ?_ (hp_te.i (by decide)) | refine hp_te.tr ?_ (nl_te (by decide) (by decide)) | refine hp_te.tr ?_ (hp_te.n (by decide))) (b1 57 (by decide)).1) (by decide)
    exact X.te (by repeat' first | exact hp_te.rf | refine hp_te.tr ?_ (hp_te.i (by decide)) | refine hp_te.tr ?_ (nl_te (by decide) (by decide)) | refine hp_te.tr ?_ (hp_te.n (by decide))) (by repeat' first | exact hp_te.rf | refine hp_te.tr ?_ (hp_te.i (by decide)) | refine hp_te.tr ?_ (nl_te (by decide) (by decide)) | refine hp_te.tr ?_ (hp_te.n (by decide))) (by repeat' first | exact hp_te.rf | refine hp_te.tr ?_ (hp_te.i (by decide)) | refine hp_te.tr ?_ (nl_te (by decide) (by decide)) | refine hp_te.tr ?_ (hp_te.n (by decide)))
  · have e5 : hp_te h (nl_ (nl_ (hp_new h 40 0 0) 40 1 50) 40 2 51) 5 := (by repeat' first | exact hp_te.rf | refine hp_te.tr ?_ (hp_te.i (by decide)) | refine hp_te.tr ?_ (nl_te (by decide) (by decide)) | refine hp_te.tr ?_ (hp_te.n (by decide)))
    have X := q_l.nw (h := (nl_ (nl_ (hp_new h 40 0 0) 40 1 50) 40 2 51)) (o := 40) (i := 3) (t := 52) (ta := 58) (f := fun k => (43, k)) (by decide) (by decide) (by decide) (by rw [e5.1]; exact b5) (by rw [e5.2.1]; exact b50) (fr_te (h := h) (by repeat' first | exact hp_te.rf | refine hp_te.tr ?_ (hp_te.i (by decide)) | refine hp_te.tr ?_ (nl_te (by decide) (by decide)) | refine hp_te.tr ?_ (hp_te.n (by decide))) (b1 58 (by decide)).1) (by decide)
    exact X.te (by repeat' first | exact hp_te.rf | refine hp_te.tr ?_ (hp_te.i (by decide)) | refine hp_te.tr ?_ (nl_te (by decide) (by decide)) | refine hp_te.tr ?_ (hp_te.n (by decide))) (by repeat' first | exact hp_te.rf | refine hp_te.tr ?_ (hp_te.i (by decide)) | refine hp_te.tr ?_ (nl_te (by decide) (by decide)) | refine hp_te.tr ?_ (hp_te.n (by decide))) (by repeat' first | exact hp_te.rf | refine hp_te.tr ?_ (hp_te.i (by decide)) | refine hp_te.tr ?_ (nl_te (by decide) (by decide)) | refine hp_te.tr ?_ (hp_te.n (by decide)))
  · have e5 : hp_te h (nl_ (nl_ (nl_ (hp_new h 40 0 0) 40 1 50) 40 2 51) 40 3 52) 5 := (by repeat' first | exact hp_te.rf | refine hp_te.tr ?_ (hp_te.i (by decide)) | refine hp_te.tr ?_ (nl_te (by decide) (by decide)) | refine hp_te.tr ?_ (hp_te.n (by decide)))
    have X := q_l.nw (h := (nl_ (nl_ (nl_ (hp_new h 40 0 0) 40 1 50) 40 2 51) 40 3 52)) (o := 40) (i := 4) (t := 53) (ta := 59) (f := fun k => (4, nn_ s_0 (10 + k) + 128)) (by decide) (by decide) (by decide) (by rw [e5.1]; exact b5) (by rw [e5.2.1]; exact b50) (fr_te (h := h) (by repeat' first | exact hp_te.rf | refine hp_te.tr ?_ (hp_te.i (by decide)) | refine hp_te.tr ?_ (nl_te (by decide) (by decide)) | refine hp_te.tr ?_ (hp_te.n (by decide))) (b1 59 (by decide)).1) (by decide)
    exact X.te (by repeat' first | exact hp_te.rf | refine hp_te.tr ?_ (hp_te.i (by decide)) | refine hp_te.tr ?_ (nl_te (by decide) (by decide)) | refine hp_te.tr ?_ (hp_te.n (by decide))) (by repeat' first | exact hp_te.rf | refine hp_te.tr ?_ (hp_te.i (by decide)) | refine hp_te.tr ?_ (nl_te (by decide) (by decide)) | refine hp_te.tr ?_ (hp_te.n (by decide))) (by repeat' first | exact hp_te.rf | refine hp_te.tr ?_ (hp_te.i (by decide)) | refine hp_te.tr ?_ (nl_te (by decide) (by decide)) | refine hp_te.tr ?_ (hp_te.n (by decide)))
  · have e5 : hp_te h (nl_ (nl_ (nl_ (nl_ (hp_new h 40 0 0) 40 1 50) 40 2 51) 40 3 52) 40 4 53) 5 := (by repeat' first | exact hp_te.rf | refine hp_te.tr ?_ (hp_te.i (by decide)) | refine hp_te.tr ?_ (nl_te (by decide) (by decide)) | refine hp_te.tr ?_ (hp_te.n (by decide)))
    have X := q_l.nw (h := (nl_ (nl_ (nl_ (nl_ (hp_new h 40 0 0) 40 1 50) 40 2 51) 40 3 52) 40 4 53)) (o := 40) (i := 5) (t := 54) (ta := 60) (f := fun k => (45, s_0.2.2 k)) (by decide) (by decide) (by decide) (by rw [e5.1]; exact b5) (by rw [e5.2.1]; exact b50) (fr_te (h := h) (by repeat' first | exact hp_te.rf | refine hp_te.tr ?_ (hp_te.i (by decide)) | refine hp_te.tr ?_ (nl_te (by decide) (by decide)) | refine hp_te.tr ?_ (hp_te.n (by decide))) (b1 60 (by decide)).1) (by decide)
    exact X.te (by repeat' first | exact hp_te.rf | refine hp_te.tr ?_ (hp_te.i (by decide)) | refine hp_te.tr ?_ (nl_te (by decide) (by decide)) | refine hp_te.tr ?_ (hp_te.n (by decide))) (by repeat' first | exact hp_te.rf | refine hp_te.tr ?_ (hp_te.i (by decide)) | refine hp_te.tr ?_ (nl_te (by decide) (by decide)) | refine hp_te.tr ?_ (hp_te.n (by decide))) (by repeat' first | exact hp_te.rf | refine hp_te.tr ?_ (hp_te.i (by decide)) | refine hp_te.tr ?_ (nl_te (by decide) (by decide)) | refine hp_te.tr ?_ (hp_te.n (by decide)))
  · have e5 : hp_te h (hp_seti (nl_ (nl_ (nl_ (nl_ (nl_ (hp_new h 40 0 0) 40 1 50) 40 2 51) 40 3 52) 40 4 53) 40 5 54) 40 0 11 8) 5 := (by repeat' first | exact hp_te.rf | refine hp_te.tr ?_ (hp_te.i (by decide)) | refine hp_te.tr ?_ (nl_te (by decide) (by decide)) | refine hp_te.tr ?_ (hp_te.n (by decide)))
    have X := q_l.nw (h := (hp_seti (nl_ (nl_ (nl_ (nl_ (nl_ (hp_new h 40 0 0) 40 1 50) 40 2 51) 40 3 52) 40 4 53) 40 5 54) 40 0 11 8)) (o := 40) (i := 12) (t := 55) (ta := 61) (f := fun k => (44, k)) (by decide) (by decide) (by decide) (by rw [e5.1]; exact b5) (by rw [e5.2.1]; exact b50) (fr_te (h := h) (by repeat' first | exact hp_te.rf | refine hp_te.tr ?_ (hp_te.i (by decide)) | refine hp_te.tr ?_ (nl_te (by decide) (by decide)) | refine hp_te.tr ?_ (hp_te.n (by decide))) (b1 61 (by decide)).1) (by decide)
    exact X
end VVL2
