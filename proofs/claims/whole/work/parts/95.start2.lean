section SZC
theorem sz_cases {P : Nat → Nat → Prop} (h1 : ∀ i, i < 11 → P 1 i) (h2 : ∀ i, i < 11 → P 2 i) (h3 : ∀ i, i < 5 → P 3 i) (h4 : ∀ i, i < 256 → P 4 i) (h5 : P 5 0) (h6 : P 6 0) (h7 : P 7 0) (h8 : P 8 0) : ∀ t i, i < g_odn t → P t i
  | 0, _, hi => absurd hi (Nat.not_lt_zero _)
  | 1, i, hi => h1 i hi
  | 2, i, hi => h2 i hi
  | 3, i, hi => h3 i hi
  | 4, i, hi => h4 i hi
  | 5, i, hi => by obtain rfl : i = 0 := Nat.lt_one_iff.mp hi; exact h5
  | 6, i, hi => by obtain rfl : i = 0 := Nat.lt_one_iff.mp hi; exact h6
  | 7, i, hi => by obtain rfl : i = 0 := Nat.lt_one_iff.mp hi; exact h7
  | 8, i, hi => by obtain rfl : i = 0 := Nat.lt_one_iff.mp hi; exact h8
  | (_ + 9), _, hi => absurd hi (Nat.not_lt_zero _)
theorem sz_at_lt {G : GW} {loc : Nat → Nat → Nat} {h : PH} {t i : Nat} {H : Heap} {z : Nat ⊕ FieldType} (hk : tg_k t = some z) (ht : t < 10) (h0 : hp_at G loc h t i H) : loc t i < H.size := by
  unfold hp_at at h0
  rw [hk] at h0
  cases z with
  | inl ci =>
    obtain ⟨q, hq, cell, h1, h2⟩ := h0
    exact (Array.getElem?_eq_some_iff.mp h1).1
  | inr ty =>
    obtain ⟨hi, cell, h1, h2⟩ := h0.1 ht
    exact (Array.getElem?_eq_some_iff.mp h1).1
theorem sz_AT {G : GW} {loc : Nat → Nat → Nat} {h : PH} {t i : Nat} {H : Heap} {ty : FieldType} (hk : tg_k t = some (.inr ty)) (ht : t < 10) (hi : i < g_odn t) (h0 : o_AR (loc t i) (hp_ln h t i) H (fun k => hp_sv loc h t i k ty)) : hp_at G loc h t i H := by
  unfold hp_at
  rw [hk]
  exact ⟨fun _ => ⟨hi, h0⟩, fun c => absurd ht (Nat.not_lt.mpr c)⟩
theorem sz_ex_in : ∀ E ∈ g_ex, ∀ F ∈ g_ex, E ≠ F → Cond.not (.castable E F) ∈ sz_F := by decide +kernel
theorem sz_fw_in : ∀ q ∈ g_fw, Cond.declares q.2.1 ∈ lw_tbl ∧ Cond.interfaceMethod q.2.1.cls q.2.1.cls q.2.1.name q.2.1.desc ∈ lw_tbl ∧ Cond.publicMethod q.2.2 ∈ lw_tbl ∧ Cond.unhidden q.1 q.2.1.name q.2.1.desc ∈ lw_tbl ∧ Cond.castable q.1 q.2.1.cls ∈ lw_tbl := by decide +kernel
set_option maxHeartbeats 4000000 in
set_option maxRecDepth 100000 in
theorem sz_start {s : State} {b L : Nat} {xs : Nat → Int32} {l : Launch} (hflags : l.flags = flags0) (hts : ∀ w ∈ lw_tbl, w.before #[Value.ref b] s = true) (hf : ∀ w ∈ sz_F, w.before #[Value.ref b] s = true) (hX : va_X b L xs s s.heap) :
    ∃ G : GW, gw_l G = l ∧ gw_H G = s.heap ∧ gw_L G = L ∧ gw_o G 7 0 = b ∧ w_ok G s ∧ hp_Rep G (gw_o G) (sz_h L xs) s.heap := by
  obtain ⟨D, hK⟩ := sz_K hts
  obtain ⟨ca, hca⟩ := sz_arrs hts
  obtain ⟨X, Y, hXY⟩ := sz_pick g_sx (fun q => q.2.2.2) sz_sx1 _ (sz_text1 hts hf)
  obtain ⟨Z, Z', hZ⟩ := sz_pick sz_arT (fun q => q.2.2) sz_ar1 _ (sz_arr1 hts hf)
  obtain ⟨c0, ad, c1, c2, c3⟩ := sz_cache hts hf
  obtain ⟨e0, e1, e2⟩ := sz_empty hts hf
  obtain ⟨mi, hmi⟩ := va_Mi.of (C := g_OA) (hf (.isRef (.mirror g_OA)) (by decide +kernel))
  have hT2 : ∀ i, i < 11 → va_T .byte (Y i) (g_txt.getD i []).length (fun j => .int (nI ((g_txt.getD i []).getD j 0))) (sz_A s) s s.heap := fun i hi => by
    obtain ⟨q, hq, e⟩ := sz_sxi i hi
    subst e
    exact (hXY q hq).2.2.2.2
  have hT3 : ∀ i, i < 5 → va_T .int (Z i) (g_arr.getD i []).length (fun j => .int ((g_arr.getD i []).getD j 0)) (sz_A s) s s.heap := fun i hi => by
    obtain ⟨q, hq, e⟩ := sz_ari i hi
    subst e
    exact (hZ q hq).2.2
  refine ⟨(l, D, ca, s.heap, sz_o X Y Z ad e0 c0 b mi, L, xs), rfl, rfl, rfl, rfl, ?_, ?_⟩
  · refine ⟨hK, hca, fun q hq => ?_, fun q hq => (hXY q hq).1, ?_, ?_, hflags, fun w hw => ?_, fun q hq => ?_, fun E hE F hF n => va_Nc.of (hf _ (sz_ex_in E hE F hF n)), hmi, va_Dc.of (hts _ (by decide +kernel)), va_AO.of (hts _ (by decide +kernel)), fun t i ty h1 h2 h3 => ?_⟩
    · simp only [g_st, List.mem_cons, List.not_mem_nil, or_false] at hq
      rcases hq with rfl | rfl | rfl | rfl | rfl | rfl | rfl | rfl | rfl
      · exact (hZ (RX6, "MONTHS", 0) (by simp [sz_arT])).2.1
      · exact (hZ (RX6, "TANGENTS", 1) (by simp [sz_arT])).2.1
      · exact (hZ (RX12, "SWELLS", 2) (by simp [sz_arT])).2.1
      · exact (hZ (RX12, "TANGENTS", 3) (by simp [sz_arT])).2.1
      · exact (hZ (RX12, "YEAR", 4) (by simp [sz_arT])).2.1
      · exact e1
      · exact c1
      · exact va_Zof (hts (.laysStatic "java/lang/Integer$IntegerCache" "high" "I") (by decide +kernel)) (hts (.initialized "java/lang/Integer$IntegerCache") (by decide +kernel)) (va_eqi (hf (.eq (.static "java/lang/Integer$IntegerCache" "high" "I") (.int 127)) (by decide +kernel))) sz_hA
      · exact va_Zof (hts (.laysStatic "java/lang/String" "COMPACT_STRINGS" "Z") (by decide +kernel)) (hts (.initialized "java/lang/String") (by decide +kernel)) (va_eqi (hf (.eq (.static "java/lang/String" "COMPACT_STRINGS" "Z") (.int 1)) (by decide +kernel))) sz_hA
    · exact vx_Zqof (hts (.laysStatic Bundle.tN "UNASSIGNED_STACK" Bundle.steD) (by decide +kernel)) (hts (.initialized Bundle.tN) (by decide +kernel)) (hf (.isRef (.static Bundle.tN "UNASSIGNED_STACK" Bundle.steD)) (by decide +kernel)) sz_hA
    · exact vx_Zqof (hts (.laysStatic Bundle.tN "SUPPRESSED_SENTINEL" Bundle.listD) (by decide +kernel)) (hts (.initialized Bundle.tN) (by decide +kernel)) (hf (.isRef (.static Bundle.tN "SUPPRESSED_SENTINEL" Bundle.listD)) (by decide +kernel)) sz_hA
    · obtain ⟨h1, h2⟩ := List.mem_filter.mp hw
      refine va_Nw.of ?_ (hts w h1)
      cases w <;> first | rfl | cases h2
    · obtain ⟨k1, k2, k3, k4, k5⟩ := sz_fw_in q hq
      exact va_Fw.of (hts _ k1) (hts _ k2) (hts _ k3) (hts _ k4) (hts _ k5)
    · revert t i
      have key : ∀ t i, i < g_odn t → t < 10 → tg_k t = some (.inr ty) → ∃ cell, s.heap[sz_o X Y Z ad e0 c0 b mi t i]? = some cell ∧ s.isArrayOf cell ty := by
        refine sz_cases ?_ ?_ ?_ ?_ ?_ ?_ ?_ ?_
        · intro i _ _ h
          have h' : (some (.inl 0) : Option (Nat ⊕ FieldType)) = some (.inr ty) := h
          cases h'
        · intro i hi _ h
          have h' : (some (.inr .byte) : Option (Nat ⊕ FieldType)) = some (.inr ty) := h
          cases h'
          obtain ⟨cell, g1, g2, -⟩ := hT2 i hi
          exact ⟨cell, g1, g2⟩
        · intro i hi _ h
          have h' : (some (.inr .int) : Option (Nat ⊕ FieldType)) = some (.inr ty) := h
          cases h'
          obtain ⟨cell, g1, g2, -⟩ := hT3 i hi
          exact ⟨cell, g1, g2⟩
        · intro i _ _ h
          have h' : (some (.inl 1) : Option (Nat ⊕ FieldType)) = some (.inr ty) := h
          cases h'
        · intro _ h
          have h' : (some (.inr g_O) : Option (Nat ⊕ FieldType)) = some (.inr ty) := h
          cases h'
          obtain ⟨cell, g1, g2, -⟩ := e2
          exact ⟨cell, g1, g2⟩
        · intro _ h
          have h' : (some (.inr (.object "java/lang/Integer")) : Option (Nat ⊕ FieldType)) = some (.inr ty) := h
          cases h'
          obtain ⟨cell, g1, g2, -⟩ := c2
          exact ⟨cell, g1, g2⟩
        · intro _ h
          have h' : (some (.inr .int) : Option (Nat ⊕ FieldType)) = some (.inr ty) := h
          cases h'
          obtain ⟨cell, g1, g2, -⟩ := hX
          exact ⟨cell, g1, g2⟩
        · intro _ h
          have h' : (none : Option (Nat ⊕ FieldType)) = some (.inr ty) := h
          cases h'
      exact fun t i h1 h2 h3 => key t i h2 h1 h3
  · have key : ∀ t i, i < g_odn t → hp_at (l, D, ca, s.heap, sz_o X Y Z ad e0 c0 b mi, L, xs) (sz_o X Y Z ad e0 c0 b mi) (sz_h L xs) t i s.heap := by
      refine sz_cases ?_ ?_ ?_ ?_ ?_ ?_ ?_ ?_
      · intro i hi
        show ∃ q, g_cl[0]? = some q ∧ o_OB 1 (X i) (D.1 0) q.2.2 (D.2 0) s.heap (fun k => hp_sv (sz_o X Y Z ad e0 c0 b mi) (sz_h L xs) 1 i k (tyJ0 k))
        obtain ⟨q, hq, e⟩ := sz_sxi i hi
        subst e
        obtain ⟨-, k1, k2, k3, -⟩ := hXY q hq
        refine ⟨_, rfl, sz_obj (by decide) (hK.1 0 _ rfl) k1 (by decide) (fun k hk => ?_)⟩
        match k, hk with
        | 0, _ => exact k3
        | 1, _ => exact k2
        | k + 2, hk => exact absurd hk (by show ¬ k + 2 < 2; omega)
      · intro i hi
        exact sz_AT rfl (by decide) hi (sz_AR (hT2 i hi) (fun k _ => rfl))
      · intro i hi
        exact sz_AT rfl (by decide) hi (sz_AR (hT3 i hi) (fun k _ => rfl))
      · intro i hi
        show ∃ q, g_cl[1]? = some q ∧ o_OB 4 (ad i) (D.1 1) q.2.2 (D.2 1) s.heap (fun k => hp_sv (sz_o X Y Z ad e0 c0 b mi) (sz_h L xs) 4 i k (tyJ6 k))
        refine ⟨_, rfl, sz_obj (by decide) (hK.1 1 _ rfl) (c3.1 i hi) (by decide) (fun k hk => ?_)⟩
        match k, hk with
        | 0, _ => exact c3.2 i hi
        | k + 1, hk => exact absurd hk (by show ¬ k + 1 < 1; omega)
      · exact sz_AT rfl (by decide) (by decide) (sz_AR e2 (fun k hk => absurd hk (Nat.not_lt_zero k)))
      · refine sz_AT rfl (by decide) (by decide) (sz_AR c2 (fun k hk => ?_))
        show va_rf (hp_ro (sz_o X Y Z ad e0 c0 b mi) (if k < 256 then (4, k) else (0, 0))) = _
        rw [if_pos (show k < 256 from hk)]
        rfl
      · refine sz_AT rfl (by decide) (by decide) ?_
        obtain ⟨cell, g1, g2, g3, g4, g5⟩ := hX
        refine ⟨cell, g1, g3, Nat.le_of_eq g4.symm, by rw [g4]; rfl, fun k hk => ?_⟩
        exact g5 k hk
      · exact hp_at8
    refine ⟨fun t i ha => key t i (of_decide_eq_true ha), fun t i u j ha _ h10 => ?_, fun t i ha => ⟨fun h10 => ?_, ?_⟩, ⟨Nat.le_refl _, fun _ _ => rfl⟩, fun i => decide_eq_false (Nat.not_lt_zero i), fun t i k ha => ?_, sz_old, fun _ _ _ => rfl⟩
    · have hi : i < g_odn t := of_decide_eq_true ha
      rw [sz_hb0 h10 (i := 0)] at hi
      exact absurd hi (Nat.not_lt_zero i)
    · have hi : i < g_odn t := of_decide_eq_true ha
      rw [sz_hb0 h10 (i := 0)] at hi
      exact absurd hi (Nat.not_lt_zero i)
    · have hi : i < g_odn t := of_decide_eq_true ha
      have hk := key t i hi
      revert t i
      have key2 : ∀ t i, i < g_odn t → hp_at (l, D, ca, s.heap, sz_o X Y Z ad e0 c0 b mi, L, xs) (sz_o X Y Z ad e0 c0 b mi) (sz_h L xs) t i s.heap → t ≠ 8 → sz_o X Y Z ad e0 c0 b mi t i < s.heap.size := by
        refine sz_cases ?_ ?_ ?_ ?_ ?_ ?_ ?_ ?_
        · intro i hi h _; exact sz_at_lt rfl (by decide) h
        · intro i hi h _; exact sz_at_lt rfl (by decide) h
        · intro i hi h _; exact sz_at_lt rfl (by decide) h
        · intro i hi h _; exact sz_at_lt rfl (by decide) h
        · intro h _; exact sz_at_lt rfl (by decide) h
        · intro h _; exact sz_at_lt rfl (by decide) h
        · intro h _; exact sz_at_lt rfl (by decide) h
        · intro _ h; exact absurd rfl h
      exact fun t i _ hi hk => key2 t i hi hk
    · have hi : i < g_odn t := of_decide_eq_true ha
      revert t i
      have key3 : ∀ t i, i < g_odn t → ok_r (sz_h L xs) (sz_vr t i k) := by
        refine sz_cases ?_ ?_ ?_ ?_ ?_ ?_ ?_ ?_
        · intro i hi; exact Or.inr (decide_eq_true hi)
        · intro i hi; exact Or.inl rfl
        · intro i hi; exact Or.inl rfl
        · intro i hi; exact Or.inl rfl
        · exact Or.inl rfl
        · show ok_r (sz_h L xs) (if k < 256 then (4, k) else (0, 0))
          split
          · rename_i hk; exact Or.inr (decide_eq_true hk)
          · exact Or.inl rfl
        · exact Or.inl rfl
        · exact Or.inl rfl
      exact fun t i _ hi => key3 t i hi
theorem sz_hb {L : Nat} {xs : Nat → Int32} : ∀ t, 10 ≤ t → hp_al (sz_h L xs) t = (fun _ => false) ∧ hp_ln (sz_h L xs) t = (fun _ => 0) ∧ hp_vi (sz_h L xs) t = (fun _ _ => 0) ∧ hp_vr (sz_h L xs) t = (fun _ _ => (0, 0)) ∧ hp_vl (sz_h L xs) t = (fun _ _ => 0) ∧ hp_vd (sz_h L xs) t = (fun _ _ => 0) := by
  intro t ht
  obtain ⟨n, rfl⟩ : ∃ n, t = n + 10 := ⟨t - 10, by omega⟩
  exact ⟨funext fun i => decide_eq_false (Nat.not_lt_zero i), rfl, rfl, rfl, rfl, rfl⟩
end SZC
