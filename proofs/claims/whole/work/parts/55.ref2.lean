theorem lc_lt {x y : Int64} : lg_cmp x y < 0 ↔ x < y := by
  unfold lg_cmp
  by_cases q : x > y
  · rw [if_pos q]
    exact ⟨fun w => absurd w (by decide), fun w => absurd (Int64.lt_trans w q) (Int64.lt_irrefl)⟩
  · rw [if_neg q]
    by_cases e : x = y
    · rw [if_pos e]
      exact ⟨fun w => absurd w (by decide), fun w => absurd (e ▸ w) (Int64.lt_irrefl)⟩
    · rw [if_neg e]
      exact ⟨fun _ => Int64.lt_of_le_of_ne (Int64.not_lt.mp q) e, fun _ => by decide⟩
theorem lc_gt {x y : Int64} : 0 < lg_cmp x y ↔ y < x := by
  unfold lg_cmp
  by_cases q : x > y
  · rw [if_pos q]
    exact ⟨fun _ => q, fun _ => by decide⟩
  · rw [if_neg q]
    refine ⟨fun w => absurd w ?_, fun w => absurd w q⟩
    split <;> decide
set_option maxRecDepth 20000 in
theorem C_X12_in {G : GW} {h : PH} {Q : RS → PH → Prop} {v lo hi : Int64} (hq : Q (.inl (some (pv_I (if lo ≤ v ∧ v ≤ hi then 1 else 0)))) h) : VV G 0 0 0 yX12_in cX12_in 6 (some .boolean) [] 0 (vv_en 6 [pv_L v, pv_L lo, pv_L hi]) [] h Q := by
  show VV G 0 0 0 yX12_in cX12_in 6 (some .boolean) [] 0 [some (pv_L v), none, some (pv_L lo), none, some (pv_L hi), none] [] h Q
  refine v_lload_n 1 dX12_in_0 rfl rfl ?_
  refine v_lload_n 2 dX12_in_1 rfl rfl ?_
  refine v_lcmp 3 dX12_in_2 rfl ?_
  refine v_if_lt 17 6 dX12_in_3 (by decide) rfl (fun c3 => ?_) (fun c3 => ?_)
  · rw [if_neg (fun q => absurd (lc_lt.mp c3) (Int64.not_lt.mpr q.1))] at hq
    refine v_iconstv (v := 0) 18 dX12_in_17 (by decide) rfl ?_
    refine v_zreturn (ty := .boolean) (by first | rfl | decide | exact nz_if | exact nz_fi) dX12_in_18 rfl ?_
    exact hq
  · have q3 := Int64.not_lt.mp (fun q => c3 (lc_lt.mpr q))
    refine v_lload_n 7 dX12_in_6 rfl rfl ?_
    refine v_lload 9 dX12_in_7 rfl rfl ?_
    refine v_lcmp 10 dX12_in_9 rfl ?_
    refine v_if_gt 17 13 dX12_in_10 (by decide) rfl (fun c10 => ?_) (fun c10 => ?_)
    · rw [if_neg (fun q => absurd (lc_gt.mp c10) (Int64.not_lt.mpr q.2))] at hq
      refine v_iconstv (v := 0) 18 dX12_in_17 (by decide) rfl ?_
      refine v_zreturn (ty := .boolean) (by first | rfl | decide | exact nz_if | exact nz_fi) dX12_in_18 rfl ?_
      exact hq
    · rw [if_pos ⟨q3, Int64.not_lt.mp (fun q => c10 (lc_gt.mpr q))⟩] at hq
      refine v_iconstv (v := 1) 14 dX12_in_13 (by decide) rfl ?_
      refine v_goto 18 dX12_in_14 (by decide) ?_
      refine v_zreturn (ty := .boolean) (by first | rfl | decide | exact nz_if | exact nz_fi) dX12_in_18 rfl ?_
      exact hq
