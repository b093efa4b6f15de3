section VVR2
variable {S S' : SP} {h h' : PH}
theorem q2_L.te (R : q2_L S h) (e : ∀ t, (50 ≤ t ∧ t < 62) ∨ t = 5 → hp_te h h' t) (f : S'.2 = S.2) : q2_L S' h' := by
  unfold q2_L nn_ at *
  rw [f]
  obtain ⟨a0, a1, a2, a3, a4, a5⟩ := R
  exact ⟨a0.te (e _ (by decide)) (e _ (by decide)) (e _ (by decide)), a1.te (e _ (by decide)) (e _ (by decide)) (e _ (by decide)), a2.te (e _ (by decide)) (e _ (by decide)) (e _ (by decide)), a3.te (e _ (by decide)) (e _ (by decide)) (e _ (by decide)), a4.te (e _ (by decide)) (e _ (by decide)) (e _ (by decide)), a5.te (e _ (by decide)) (e _ (by decide)) (e _ (by decide))⟩
theorem q2_0.te (R : q2_0 S h) (e : hp_te h h' 40) (f : hp_vi S'.1 40 = hp_vi S.1 40) : q2_0 S' h' := by
  unfold q2_0 at *
  rw [e.1, e.2.2.1, e.2.2.2.1, f]
  exact R
theorem q2_T.te (R : q2_T S h) (e : ∀ t, (41 ≤ t ∧ t < 49) ∨ t = 62 ∨ t = 63 ∨ t = 64 → hp_te h h' t) : q2_T S h' :=
  ⟨fun t t1 t2 => (R.1 t t1 t2).tr (e t (by omega)), R.2.1.tr (e _ (by decide)), R.2.2.1.tr (e _ (by decide)), R.2.2.2.tr (e _ (by decide))⟩
/-- the reference's things stay where its tags do -/
theorem Rp2.te (R : Rp2 S h) (e : ∀ t, (40 ≤ t ∧ t < 65) ∨ t = 5 → hp_te h h' t) : Rp2 S h' :=
  ⟨R.1.te (e _ (by decide)) rfl, R.2.1.te (fun t ht => e t (by omega)) rfl, R.2.2.te (fun t ht => e t (by omega))⟩
/-- what is thrown is told in slot 0 -/
theorem Rp2.th {x : Int32} (R : Rp2 S h) : Rp2 S (hp_seti h 40 0 0 x) := by
  obtain ⟨⟨a0, a1⟩, R1, R2⟩ := R
  exact ⟨⟨a0, fun k h1 h2 => (hp_seti_ne (fun q => by omega)).trans (a1 k h1 h2)⟩, R1.te (fun t ht => hp_te.i (by omega)) rfl, R2.te (fun t ht => hp_te.i (by omega))⟩
end VVR2
set_option maxRecDepth 20000 in
theorem C_X12_begins {G : GW} {h : PH} {Q : RS → PH → Prop} (hq : Q (.inl none) (hp_seti h 40 0 0 0)) : VV G 0 0 0 yX12_begins cX12_begins 1 (none) [] 0 (vv_en 1 [pv_O (40, 0)]) [] h Q := by
  show VV G 0 0 0 yX12_begins cX12_begins 1 (none) [] 0 [some (pv_O (40, 0))] [] h Q
  refine v_aload_n 1 dX12_begins_0 rfl rfl ?_
  refine v_iconstv (v := 0) 2 dX12_begins_1 (by decide) rfl ?_
  refine v_putfi 5 dX12_begins_2 pf_X12_begins_35 (by first | assumption | rfl) (by first | assumption | decide) (by rfl) rfl rfl rfl ?_
  refine v_return dX12_begins_5 rfl ?_
  exact hq
set_option maxRecDepth 20000 in
theorem C_X12_thrown {G : GW} {h : PH} {Q : RS → PH → Prop} (hq : Q (.inl (some (pv_I (hp_vi h 40 0 0)))) h) : VV G 0 0 0 yX12_thrown cX12_thrown 1 (some .int) [] 0 (vv_en 1 [pv_O (40, 0)]) [] h Q := by
  show VV G 0 0 0 yX12_thrown cX12_thrown 1 (some .int) [] 0 [some (pv_O (40, 0))] [] h Q
  refine v_aload_n 1 dX12_thrown_0 rfl rfl ?_
  refine v_getfi 4 dX12_thrown_1 fl_X12_35 (by first | assumption | rfl) (by rfl) rfl ?_
  refine v_ireturn dX12_thrown_4 rfl ?_
  exact hq
