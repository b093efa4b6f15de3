/-- what fails(bad, number) leaves thrown -/
def th_ (t b n : Int32) : Int32 := if t = 0 then (if b = 0 then t else n) else t
set_option maxRecDepth 20000 in
theorem C_X12_fails {G : GW} {h : PH} {Q : RS → PH → Prop} {b n : Int32} (hq : ∀ h', hp_vi h' 40 0 0 = th_ (hp_vi h 40 0 0) b n → (∀ S, Rp2 S h → Rp2 S h') → (∀ t, ¬ t = 40 → hp_te h h' t) → Q (.inl (some (pv_I (if 0 < th_ (hp_vi h 40 0 0) b n then 1 else 0)))) h') : VV G 0 0 0 yX12_fails cX12_fails 3 (some .boolean) [] 0 (vv_en 3 [pv_O (40, 0), pv_I b, pv_I n]) [] h Q := by
  show VV G 0 0 0 yX12_fails cX12_fails 3 (some .boolean) [] 0 [some (pv_O (40, 0)), some (pv_I b), some (pv_I n)] [] h Q
  refine v_aload_n 1 dX12_fails_0 rfl rfl ?_
  refine v_getfi 4 dX12_fails_1 fl_X12_35 (by first | assumption | rfl) (by rfl) rfl ?_
  refine v_if_ne 16 7 dX12_fails_4 (by decide) rfl (fun c4 => ?_) (fun c4 => ?_)
  · have e : th_ (hp_vi h 40 0 0) b n = hp_vi h 40 0 0 := if_neg c4
    rw [e] at hq
    refine v_aload_n 17 dX12_fails_16 rfl rfl ?_
    refine v_getfi 20 dX12_fails_17 fl_X12_35 (by first | assumption | rfl) (by rfl) rfl ?_
    try rw [hp_seti_at]
    refine v_if_le 27 23 dX12_fails_20 (by decide) rfl (fun c20 => ?_) (fun c20 => ?_)
    · rw [if_neg (Int32.not_lt.mpr c20)] at hq
      refine v_iconstv (v := 0) 28 dX12_fails_27 (by decide) rfl ?_
      refine v_zreturn (ty := .boolean) (by first | rfl | decide | exact nz_if | exact nz_fi) dX12_fails_28 rfl ?_
      first | exact hq _ rfl (fun _ R => R) (fun _ _ => hp_te.rf) | exact hq _ hp_seti_at (fun _ R => R.th) (fun _ ht => hp_te.i ht)
    · rw [if_pos (Int32.not_le.mp c20)] at hq
      refine v_iconstv (v := 1) 24 dX12_fails_23 (by decide) rfl ?_
      refine v_goto 28 dX12_fails_24 (by decide) ?_
      refine v_zreturn (ty := .boolean) (by first | rfl | decide | exact nz_if | exact nz_fi) dX12_fails_28 rfl ?_
      first | exact hq _ rfl (fun _ R => R) (fun _ _ => hp_te.rf) | exact hq _ hp_seti_at (fun _ R => R.th) (fun _ ht => hp_te.i ht)
  · skip
    refine v_iload_n 8 dX12_fails_7 rfl rfl ?_
    refine v_if_eq 16 11 dX12_fails_8 (by decide) rfl (fun c8 => ?_) (fun c8 => ?_)
    · have e : th_ (hp_vi h 40 0 0) b n = hp_vi h 40 0 0 := by unfold th_; rw [if_pos c4, if_pos c8]
      rw [e] at hq
      refine v_aload_n 17 dX12_fails_16 rfl rfl ?_
      refine v_getfi 20 dX12_fails_17 fl_X12_35 (by first | assumption | rfl) (by rfl) rfl ?_
      try rw [hp_seti_at]
      refine v_if_le 27 23 dX12_fails_20 (by decide) rfl (fun c20 => ?_) (fun c20 => ?_)
      · rw [if_neg (Int32.not_lt.mpr c20)] at hq
        refine v_iconstv (v := 0) 28 dX12_fails_27 (by decide) rfl ?_
        refine v_zreturn (ty := .boolean) (by first | rfl | decide | exact nz_if | exact nz_fi) dX12_fails_28 rfl ?_
        first | exact hq _ rfl (fun _ R => R) (fun _ _ => hp_te.rf) | exact hq _ hp_seti_at (fun _ R => R.th) (fun _ ht => hp_te.i ht)
      · rw [if_pos (Int32.not_le.mp c20)] at hq
        refine v_iconstv (v := 1) 24 dX12_fails_23 (by decide) rfl ?_
        refine v_goto 28 dX12_fails_24 (by decide) ?_
        refine v_zreturn (ty := .boolean) (by first | rfl | decide | exact nz_if | exact nz_fi) dX12_fails_28 rfl ?_
        first | exact hq _ rfl (fun _ R => R) (fun _ _ => hp_te.rf) | exact hq _ hp_seti_at (fun _ R => R.th) (fun _ ht => hp_te.i ht)
    · have e : th_ (hp_vi h 40 0 0) b n = n := by unfold th_; rw [if_pos c4, if_neg c8]
      rw [e] at hq
      refine v_aload_n 12 dX12_fails_11 rfl rfl ?_
      refine v_iload_n 13 dX12_fails_12 rfl rfl ?_
      refine v_putfi 16 dX12_fails_13 pf_X12_fails_35 (by first | assumption | rfl) (by first | assumption | decide) (by rfl) rfl rfl rfl ?_
      refine v_aload_n 17 dX12_fails_16 rfl rfl ?_
      refine v_getfi 20 dX12_fails_17 fl_X12_35 (by first | assumption | rfl) (by rfl) rfl ?_
      try rw [hp_seti_at]
      refine v_if_le 27 23 dX12_fails_20 (by decide) rfl (fun c20 => ?_) (fun c20 => ?_)
      · rw [if_neg (Int32.not_lt.mpr c20)] at hq
        refine v_iconstv (v := 0) 28 dX12_fails_27 (by decide) rfl ?_
        refine v_zreturn (ty := .boolean) (by first | rfl | decide | exact nz_if | exact nz_fi) dX12_fails_28 rfl ?_
        first | exact hq _ rfl (fun _ R => R) (fun _ _ => hp_te.rf) | exact hq _ hp_seti_at (fun _ R => R.th) (fun _ ht => hp_te.i ht)
      · rw [if_pos (Int32.not_le.mp c20)] at hq
        refine v_iconstv (v := 1) 24 dX12_fails_23 (by decide) rfl ?_
        refine v_goto 28 dX12_fails_24 (by decide) ?_
        refine v_zreturn (ty := .boolean) (by first | rfl | decide | exact nz_if | exact nz_fi) dX12_fails_28 rfl ?_
        first | exact hq _ rfl (fun _ R => R) (fun _ _ => hp_te.rf) | exact hq _ hp_seti_at (fun _ R => R.th) (fun _ ht => hp_te.i ht)
