section VVM
variable {G : GW} {d k n : Nat} {y : MethodName} {cc : ByteArray} {nL : Nat} {ret : Option FieldType} {hh : List (Nat × Nat × Nat × Nat)} {pc : Nat} {ls : List (Option PV)} {st : List PV} {h : PH} {Q : RS → PH → Prop}
abbrev g_gc : MethodName := ⟨"java/lang/Object", "getClass", "()Ljava/lang/Class;"⟩
/-- getClass() of an array of objects: its class object -/
theorem v_getC {ix t i : Nat} (q : Nat) (hd : decode cc pc = .ok (.invokevirtual ix, 3)) (hk : tg_k t = some (.inr g_O)) (h10 : 10 ≤ t) (hw1 : Cond.methodLink y.cls ix g_gc ∈ g_ws) (hw2 : Cond.selects g_OA g_gc g_gc ∈ g_ws) (hw3 : Cond.instanceMethod g_gc ∈ g_ws) (hw4 : Cond.native g_gc ∈ g_ws) (hst : g_fit st = true) (hd1 : 1 ≤ d) (hq : pc + 3 = q) (K : VV G d k n y cc nL ret hh q ls (pv_O (8, 0) :: st) h Q) : VV G d k n y cc nL ret hh pc ls (pv_O (t, i) :: st) h Q := by
  intro p e R s m args below meth c H locs cells slots h0 l0 loc a C hR hE hL hl hs ho
  subst hq
  have hts := C.2.2.2.2.2.2.2.1
  have hW := C.2.2.2.2.2.2.2.2.2.1.1
  obtain ⟨c1, c2, c3, c4, c5, c6, c7, c8, c9, c10, c11, c12, c13, c14⟩ := id C
  have h8 : (st.map (fun v => if pv_n v then 1 else 2)).sum ≤ 8 := of_decide_eq_true hst
  have ha : hp_al h t i = true := hp_al_of hs.1 hk
  have K9 := K p e R s m args below meth c H locs cells slots h0 l0 loc a C hR hE hL hl ⟨Or.inr (hR.2.2.2.2.2.2.1.1 8 0 (by decide)), hs.2⟩ ho
  have e9 : pv_c loc (pv_O (8, 0)) = .ref (gw_o G 8 0) := by
    show va_rf (hp_ro loc (8, 0)) = _
    rw [hp_ro, if_neg (by decide), hR.2.2.2.2.2.2.2 8 0 (by decide)]
    rfl
  rw [List.map_cons, e9] at K9
  show W p (gw_l G) e R s m args below meth c H locs cells slots _ (F0 m pc a (pv_c loc (pv_O (t, i)) :: st.map (pv_c loc)))
  rw [hp_ref hk]
  exact va_getC c1 c2 (c3.trans hl.1.symm) c7 (hts _ hw1) (va_Dc.use hW.2.2.2.2.2.2.2.2.2.2.2.1) (hts _ hw2) (hts _ hw3) (hts _ hw4) hW.2.2.2.2.2.2.2.2.2.2.1 ⟨_, hp_arr h10 hR ha hk, rfl, va_nmO (hW.2.1 g_O (by simp [g_tyn])).2 rfl⟩ (by omega) (by rw [hp_cats]; omega) hd K9
theorem v_ldcM {ix : Nat} (q : Nat) (hd : decode cc pc = .ok (.ldc ix, 2)) (hw : Cond.classLink y.cls ix g_OA ∈ g_ws) (hq : pc + 2 = q) (K : VV G d k n y cc nL ret hh q ls (pv_O (8, 0) :: st) h Q) : VV G d k n y cc nL ret hh pc ls st h Q := by
  intro p e R s m args below meth c H locs cells slots h0 l0 loc a C hR hE hL hl hs ho
  subst hq
  have hts := C.2.2.2.2.2.2.2.1
  have hW := C.2.2.2.2.2.2.2.2.2.1.1
  have K9 := K p e R s m args below meth c H locs cells slots h0 l0 loc a C hR hE hL hl ⟨Or.inr (hR.2.2.2.2.2.2.1.1 8 0 (by decide)), hs⟩ ho
  have e9 : pv_c loc (pv_O (8, 0)) = .ref (gw_o G 8 0) := by
    show va_rf (hp_ro loc (8, 0)) = _
    rw [hp_ro, if_neg (by decide), hR.2.2.2.2.2.2.2 8 0 (by decide)]
    rfl
  rw [List.map_cons, e9] at K9
  exact va_ldcM C.1 C.2.1 C.2.2.2.2.2.2.1 (hts _ hw) hW.2.2.2.2.2.2.2.2.2.2.1 hd K9
/-- a cast to an array of numbers -/
theorem v_castI {ix t i : Nat} (q : Nat) (hd : decode cc pc = .ok (.checkcast ix, 3)) (hk : tg_k t = some (.inr .int)) (hw : Cond.classLink y.cls ix "[I" ∈ g_ws) (hq : pc + 3 = q) (K : VV G d k n y cc nL ret hh q ls (pv_O (t, i) :: st) h Q) (h10 : 10 ≤ t := by decide) : VV G d k n y cc nL ret hh pc ls (pv_O (t, i) :: st) h Q := by
  intro p e R s m args below meth c H locs cells slots h0 l0 loc a C hR hE hL hl hs ho
  subst hq
  have hts := C.2.2.2.2.2.2.2.1
  have hW := C.2.2.2.2.2.2.2.2.2.1.1
  have ha : hp_al h t i = true := hp_al_of hs.1 hk
  have K9 := K p e R s m args below meth c H locs cells slots h0 l0 loc a C hR hE hL hl hs ho
  rw [List.map_cons, hp_ref hk] at K9
  show W p (gw_l G) e R s m args below meth c H locs cells slots _ (F0 m pc a (pv_c loc (pv_O (t, i)) :: st.map (pv_c loc)))
  rw [hp_ref hk]
  have hP : va_P (gw_D G) g_cl [(loc t i, .inl (gw_a G .int, hp_ln h t i, .inl (fun k => hp_vi h t i k)))] H := fun j z hz => by
    match j, hz with
    | 0, hz => cases hz; exact hp_arr h10 hR ha hk
    | j + 1, hz => simp at hz
  exact va_castA C.1 C.2.1 C.2.2.2.2.2.2.1 (hts _ hw) hP 0 rfl (hW.2.1 .int (by simp [g_tyn])).2 hd K9
theorem v_ldcsw {ix i : Nat} {tx : String} (q : Nat) (hd : decode cc pc = .ok (.ldc_w ix, 3)) (hz : (y.cls, ix, tx, i) ∈ g_sx) (hi : i < 11) (hq : pc + 3 = q) (K : VV G d k n y cc nL ret hh q ls (pv_O (1, i) :: st) h Q) : VV G d k n y cc nL ret hh pc ls st h Q := by
  intro p e R s m args below meth c H locs cells slots h0 l0 loc a C hR hE hL hl hs ho
  subst hq
  have h9 := C.2.2.2.2.2.2.2.2.2.1.1.2.2.2.1 _ hz
  have K9 := K p e R s m args below meth c H locs cells slots h0 l0 loc a C hR hE hL hl ⟨Or.inr (hR.2.2.2.2.2.2.1.1 1 i hi), hs⟩ ho
  rw [List.map_cons, hp_ref (z := .inl 0) rfl, hR.2.2.2.2.2.2.2 1 i (by decide)] at K9
  intro T hT X
  obtain ⟨t, a1, b1⟩ := K9 T hT X
  have h10 : (Cond.stringRef y.cls ix tx).before args s = true := h9.1
  exact ⟨t, X.ldcStringW C.1 C.2.2.2.2.2.2.1 (text := tx) (a := gw_o G 1 i) h10 h9.2 (g := F0 m pc a (st.map (pv_c loc))) rfl (by rw [C.2.1]; exact hd) t a1, b1⟩
/-- things that an array of objects may hold -/
def ob_ok (u : Nat) : Prop := (∃ ci, tg_k u = some (.inl ci) ∧ ∃ z, g_cl[ci]? = some z ∧ Cond.castable z.1 "java/lang/Object" ∈ g_nw) ∨ (tg_k u = some (.inr .int) ∧ 10 ≤ u ∧ Cond.castable "[I" "java/lang/Object" ∈ g_nw)
def hp_cpy (h : PH) (t i u j sp dp z : Nat) : PH := (h.1, h.2.1, h.2.2.1, (fun a b c => if a = u ∧ b = j ∧ dp ≤ c ∧ c < dp + z then h.2.2.2.1 t i (sp + (c - dp)) else h.2.2.2.1 a b c), h.2.2.2.2)
theorem hp_any {loc : Nat → Nat → Nat} {H : Heap} {u j : Nat} {s : State} (hR : hp_Rep G loc h H) (hW : w_ok G s) (hu : ob_ok u) (au : hp_al h u j = true) : va_Any "java/lang/Object" s H (loc u j) := by
  rcases hu with ⟨ci, hu, z, hz, hw⟩ | ⟨hu, hu10, hw⟩
  · obtain ⟨cell, q1, q2, q3⟩ := hp_recv hR hW au hu hz
    obtain ⟨kv, hkv, -⟩ := Vm.findClass_spec q3
    exact ⟨cell, q1, q2, ⟨kv, hkv⟩, fun comp z3 => vb_asgC (hW.2.2.2.2.2.2.2.1 _ hw) _ _ z3 q3⟩
  · obtain ⟨cell, q1, q2, q3⟩ := hp_recvA hu10 hR hW au hu
    obtain ⟨kv, hkv, -⟩ := Vm.findClass_spec q3
    exact ⟨cell, q1, q2, ⟨kv, hkv⟩, fun comp z3 => vb_asgC (hW.2.2.2.2.2.2.2.1 _ hw) _ _ z3 q3⟩
theorem v_copy {ix t i u j : Nat} {sp dp z : Int32} (q : Nat) (hd : decode cc pc = .ok (.invokestatic ix, 3)) (hw1 : Cond.methodLink y.cls ix arraycopyName ∈ g_ws) (hw2 : Cond.native arraycopyName ∈ g_ws) (hw3 : Cond.static arraycopyName ∈ g_ws) (hw4 : Cond.initialized "java/lang/System" ∈ g_ws)
    (hk : tg_k t = some (.inr g_O)) (hk2 : tg_k u = some (.inr g_O)) (h10 : 10 ≤ u) (h10t : 10 ≤ t) (h1 : ¬ sp < 0) (h2 : ¬ dp < 0) (h3 : ¬ z < 0) (h4 : sp.toNatClampNeg + z.toNatClampNeg ≤ hp_ln h t i) (h5 : dp.toNatClampNeg + z.toNatClampNeg ≤ hp_ln h u j)
    (hel : ∀ k : Nat, k < z.toNatClampNeg → hp_vr h t i (sp.toNatClampNeg + k) = (0, 0) ∨ ob_ok (hp_vr h t i (sp.toNatClampNeg + k)).1) (hst : g_fit st = true) (hd1 : 1 ≤ d) (hq : pc + 3 = q)
    (K : VV G d k n y cc nL ret hh q ls st (hp_cpy h t i u j sp.toNatClampNeg dp.toNatClampNeg z.toNatClampNeg) Q) : VV G d k n y cc nL ret hh pc ls (pv_I z :: pv_I dp :: pv_O (u, j) :: pv_I sp :: pv_O (t, i) :: st) h Q := by
  intro p e R s m args below meth c H locs cells slots h0 l0 loc a C hR hE hL hl hs ho
  subst hq
  have hts := C.2.2.2.2.2.2.2.1
  have hW := C.2.2.2.2.2.2.2.2.2.1.1
  obtain ⟨c1, c2, c3, c4, c5, c6, c7, c8, c9, c10, c11, c12, c13, c14⟩ := id C
  have h8 : (st.map (fun v => if pv_n v then 1 else 2)).sum ≤ 8 := of_decide_eq_true hst
  have au : hp_al h u j = true := hp_al_of hs.2.2.1 hk2
  have at9 : hp_al h t i = true := hp_al_of hs.2.2.2.2.1 hk
  show W p (gw_l G) e R s m args below meth c H locs cells slots _ (F0 m pc a (Value.int z :: Value.int dp :: pv_c loc (pv_O (u, j)) :: Value.int sp :: pv_c loc (pv_O (t, i)) :: st.map (pv_c loc)))
  rw [hp_ref hk, hp_ref hk2]
  have nn : ∀ z : Int32, ¬ z < 0 → z.toInt = (z.toNatClampNeg : Int) := by
    intro z hz
    have hz0 : (0 : Int) ≤ z.toInt := by
      have := Int32.not_lt.mp hz
      simpa using Int32.le_iff_toInt_le.mp this
    show z.toInt = ((z.toInt.toNat : Nat) : Int)
    omega
  have fOf : ∀ u j, (fun k => hp_sv loc h u j k g_O) = (fun k => va_rf (hp_ro loc (hp_vr h u j k))) := fun _ _ => rfl
  have hc0 : H[loc t i]? = some (arrV (gw_a G g_O) (hp_ln h t i) (fun k => va_rf (hp_ro loc (hp_vr h t i k)))) := hp_arr h10t hR at9 hk
  have hc1 : H[loc u j]? = some (arrV (gw_a G g_O) (hp_ln h u j) (fun k => va_rf (hp_ro loc (hp_vr h u j k)))) := hp_arr h10 hR au hk2
  intro T hT X
  obtain ⟨-, k0, hk0, cm0, hkk0⟩ := (hW.2.1 g_O (by simp [g_tyn])).1 (hp_ln h t i) (fun k => va_rf (hp_ro loc (hp_vr h t i k)))
  obtain ⟨-, k1, hk1, cm1, hkk1⟩ := (hW.2.1 g_O (by simp [g_tyn])).1 (hp_ln h u j) (fun k => va_rf (hp_ro loc (hp_vr h u j k)))
  obtain ⟨vm', X', step⟩ := X.arraycopy c1 c7 (hts _ hw1) (hts _ hw2) (hts _ hw3) (hts _ hw4) (src := loc t i) (dst := loc u j) (cs := arrV (gw_a G g_O) (hp_ln h t i) (fun k => va_rf (hp_ro loc (hp_vr h t i k)))) (cd := arrV (gw_a G g_O) (hp_ln h u j) (fun k => va_rf (hp_ro loc (hp_vr h u j k)))) (srcPos := sp) (destPos := dp) (n := z) (by rw [hT]; exact hc0) (by rw [hT]; exact hc1)
    (fun _ h => by cases h) (fun _ h => by cases h) (fun h => by cases h) (fun h => by cases h) hk0 hk1 hkk0 hkk1 rfl h1 h2 h3
    (by rw [nn sp h1, nn z h3, arrV_size]; omega)
    (by rw [nn dp h2, nn z h3, arrV_size]; omega)
    (fun vm₁ hal i9 hi => by
      have e : (arrV (gw_a G g_O) (hp_ln h t i) (fun k => va_rf (hp_ro loc (hp_vr h t i k)))).slots.getD (sp.toNatClampNeg + i9) .null = va_rf (hp_ro loc (hp_vr h t i (sp.toNatClampNeg + i9))) := by
        rw [Array.getD_eq_getD_getElem?, arrV_read _ _ (by omega)]
        rfl
      rw [e]
      have hok := hR.2.2.2.2.2.1 t i (sp.toNatClampNeg + i9) at9
      cases hy : hp_ro loc (hp_vr h t i (sp.toNatClampNeg + i9)) with
      | none => exact ⟨rfl, trivial⟩
      | some y9 =>
        have hr : ob_ok (hp_vr h t i (sp.toNatClampNeg + i9)).1 ∧ hp_al h (hp_vr h t i (sp.toNatClampNeg + i9)).1 (hp_vr h t i (sp.toNatClampNeg + i9)).2 = true ∧ loc (hp_vr h t i (sp.toNatClampNeg + i9)).1 (hp_vr h t i (sp.toNatClampNeg + i9)).2 = y9 := by
          rcases hel i9 hi with e0 | e0
          · rw [e0] at hy
            cases hy
          · unfold hp_ro at hy
            split at hy
            · cases hy
            · rcases hok with e1 | e1
              · rename_i q0
                exact absurd (by rw [e1]) q0
              · exact ⟨e0, e1, Option.some.inj hy⟩
        obtain ⟨cellV, g1, g2, ⟨kC, hkC⟩, hasg⟩ := hp_any hR hW hr.1 hr.2.1
        rw [hr.2.2] at g1
        obtain ⟨kA, comp, r1, r2, r3, -⟩ := (hW.2.1 g_O (by simp [g_tyn])).2
        cases hk1.symm.trans r1
        cases hkk1.symm.trans r2
        obtain ⟨kE, hkE, -⟩ := Vm.findClass_spec r3
        obtain ⟨kC', hkC', -⟩ := hal.2.2 _ _ hkC
        obtain ⟨kE', hkE', -⟩ := hal.2.2 _ _ hkE
        refine ⟨rfl, cellV, (show T.heap[y9]? = some cellV by rw [hT]; exact g1), (fun q h => by rw [h] at g2; cases g2), ⟨kC', hkC'⟩, ?_, ?_⟩
        · exact ⟨kE', hkE'⟩
        · show vm₁.assignable _ _ = true
          rw [hal.assignable]
          exact hasg _ r3)
    (g := F0 m pc a (.int z :: .int dp :: .ref (loc u j) :: .int sp :: .ref (loc t i) :: st.map (pv_c loc))) rfl (hl.1.trans c3.symm) (rest := st.map (pv_c loc)) rfl (by rw [c2]; exact hd) (by omega) (by rw [hp_cats]; have hw : nativeFrameWords "java/lang/System" "arraycopy" 5 ≤ 20 := (by decide); show 2 * 0 + _ + _ ≤ _; omega)
  have e1 : copied (arrV (gw_a G g_O) (hp_ln h t i) (fun k => va_rf (hp_ro loc (hp_vr h t i k)))) (arrV (gw_a G g_O) (hp_ln h u j) (fun k => va_rf (hp_ro loc (hp_vr h u j k)))) sp dp z = arrV (gw_a G g_O) (hp_ln h u j) (fun k => va_rf (va_cpy (fun k => hp_ro loc (hp_vr h t i k)) (fun k => hp_ro loc (hp_vr h u j k)) sp.toNatClampNeg dp.toNatClampNeg z.toNatClampNeg k)) :=
    va_copied (fun z => va_rf z) _ _ (fun k => hp_ro loc (hp_vr h t i k)) (fun k => hp_ro loc (hp_vr h u j k)) h4
  rw [e1] at X' step
  have hlt : loc u j < H.size := (Array.getElem?_eq_some_iff.mp hc1).1
  have hRn : hp_Rep G loc (hp_cpy h t i u j sp.toNatClampNeg dp.toNatClampNeg z.toNatClampNeg) ((T.setVm vm').setCell (loc u j) (arrV (gw_a G g_O) (hp_ln h u j) (fun k => va_rf (va_cpy (fun k => hp_ro loc (hp_vr h t i k)) (fun k => hp_ro loc (hp_vr h u j k)) sp.toNatClampNeg dp.toNatClampNeg z.toNatClampNeg k)))).heap := by
    have hheap : ∀ x : Cell, ((T.setVm vm').setCell (loc u j) x).heap = H.setIfInBounds (loc u j) x := fun x => by rw [← hT]; rfl
    rw [hheap]
    refine hR.upd (t := u) (i := j) (fun _ _ => rfl) (fun _ _ => rfl) (fun a b c9 k => ⟨rfl, if_neg (fun w => c9 ⟨w.1, w.2.1⟩), rfl, rfl⟩) au h10 ?_ (by simp) (fun w hw => by simp [Array.getElem?_setIfInBounds, Ne.symm hw]) (fun k9 => ?_)
    · refine hp_at_new hk2 h10 ?_
      show (H.setIfInBounds (loc u j) _)[loc u j]? = some (arrV _ (hp_ln h u j) _)
      rw [Array.getElem?_setIfInBounds_self_of_lt hlt]
      refine congrArg some (congrArg (arrV _ _) (funext fun k9 => ?_))
      show va_rf (va_cpy _ _ _ _ _ k9) = va_rf (hp_ro loc (if u = u ∧ j = j ∧ _ ∧ _ then _ else _))
      unfold va_cpy
      by_cases c9 : dp.toNatClampNeg ≤ k9 ∧ k9 < dp.toNatClampNeg + z.toNatClampNeg
      · rw [if_pos c9, if_pos ⟨rfl, rfl, c9⟩]
        rfl
      · rw [if_neg c9, if_neg (fun w => c9 w.2.2)]
        rfl
    · show ok_r h (if _ then _ else _)
      split
      · exact hR.2.2.2.2.2.1 t i _ at9
      · exact hR.2.2.2.2.2.1 u j _ au
  obtain ⟨t9, a1, b1⟩ := K p e R s m args below meth c _ _ cells slots h0 l0 loc a C hRn hE (fun w hw => by
    rcases List.mem_append.mp hw with hw | hw
    · exact hL w hw
    · obtain ⟨i9, -, rfl⟩ := List.mem_map.mp hw
      exact (hR.2.2.1 u j au).1 h10) hl (ok_s.to (h := h) (fun _ _ h9 => h9) hs.2.2.2.2.2) (ok_l.to (h := h) (fun _ _ h9 => h9) ho) _ rfl X'
  exact ⟨t9, step t9 a1, b1⟩
end VVM
