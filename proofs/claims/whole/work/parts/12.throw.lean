section VVT
variable {G : GW} {d k n : Nat} {y : MethodName} {cc : ByteArray} {nL : Nat} {ret : Option FieldType} {hh : List (Nat × Nat × Nat × Nat)} {pc : Nat} {ls : List (Option PV)} {st : List PV} {h : PH} {Q : RS → PH → Prop}
abbrev g_nms : List String := ["java/lang/RuntimeException", "java/lang/Exception"]
/-- what the tables say of 'throw new E()' in a class -/
def th_ok (own : String) (ik ic : Nat) (E : String) : Prop := Bundle.fit E = true ∧ Cond.classLink own ik E ∈ g_ws ∧ Cond.initialized E ∈ g_ws ∧ (∀ w ∈ vx_at0 own ic E g_nms, w ∈ g_ws ∨ w ∈ g_nw) ∧ ∀ w ∈ Cond.classLink own ik E :: Cond.initialized E :: vx_at0 own ic E g_nms, vx_ot w = true
theorem g_flags {l : Launch} (h : l.flags = flags0) : l.stackTraces = false := by
  unfold Launch.stackTraces
  rw [h]
  decide
theorem w_soft_on {w : Cond} (h : w_soft w = true) : w.onTables = true := by cases w <;> first | rfl | cases h
theorem v_throw {ik ic : Nat} {E : String} (d0 : decode cc pc = .ok (.new ik, 3)) (d3 : decode cc (pc + 3) = .ok (.dup, 1)) (d4 : decode cc (pc + 4) = .ok (.invokespecial ic, 3)) (d7 : decode cc (pc + 7) = .ok (.athrow, 1))
    (hhn : hh = []) (ht : th_ok y.cls ik ic E) (hst : g_fit st = true) (hd6 : 6 ≤ d) (hk1 : 1 ≤ k) (hn6 : 6 ≤ n) (hq : Q (.inr E) h) : VV G d k n y cc nL ret hh pc ls st h Q := by
  intro p e R s m args below meth c H locs cells slots h0 l0 loc a C hR hE hL hl hs ho T hT X
  obtain ⟨t1, t2, t3, t4, t5⟩ := ht
  obtain ⟨c1, c2, c3, c4, c5, c6, c7, c8, c9, ⟨c10, c10a, c10b⟩, c11, c12, c13, c14⟩ := id C
  have hz : s.heap.size ≤ H.size := by
    have h9 : s.heap.size ≤ T.heap.size := X.same.2.1
    rw [hT] at h9
    exact h9
  have hkp : ∀ q : Nat, q < (gw_H G).size → ¬ (gw_H G).size ≤ q → s.heap[q]? = (gw_H G)[q]? := fun q hq _ => c10b q hq
  have hSS : va_S (fun q => (gw_H G).size ≤ q) s.heap H locs := ⟨hz, fun q _ hq2 => by rw [hR.2.2.2.1.2 q (by omega), c10b q (by omega)], hL⟩
  have hat : ∀ w ∈ vx_at0 y.cls ic E g_nms, w.before args s = true := fun w hw => by
    rcases t4 w hw with h9 | h9
    · exact c8 w h9
    · exact va_Nw.use (w_soft_on (List.mem_filter.mp h9).2) (c10.2.2.2.2.2.2.2.1 w h9)
  subst hhn
  have h8 : (st.map (fun v => if pv_n v then 1 else 2)).sum ≤ 8 := of_decide_eq_true hst
  refine vx_throw0 c1 c2 (g_flags c10.2.2.2.2.2.2.1) c7 t1 (by decide) (c8 _ t2) (c8 _ t3) hat t5 (c10.2.2.2.2.1.kept hkp) (c10.2.2.2.2.2.1.kept hkp) hSS (hl.1.trans c3.symm) d0 d3 d4 d7 (fun x hx => by rw [c9] at hx; cases hx) (by show 2 + 3 < R.frames; omega) (by rw [hp_cats]; show _ + (13 * (2 + 1) + 42) ≤ _; omega) (by omega) (by omega) c5 (fun t ha hz2 hk2 => ⟨loc, h, hq, ?_, hE⟩) hL (by omega) (by omega) T hT X
  obtain ⟨r1, r2, r3, r4, r5, r6, r7, r8⟩ := hR
  refine ⟨fun u j hu => ?_, r2, fun u j hu => ⟨(r3 u j hu).1, fun c8 => by have := (r3 u j hu).2 c8; omega⟩, ⟨by omega, fun b hb => by rw [hk2 b (by omega)]; exact r4.2 b hb⟩, r5, r6, r7, r8⟩
  by_cases c8 : u = 8
  · subst c8
    exact hp_at8
  exact hp_at_eq (loc := loc) (h := h) (H := H) (hk2 _ ((r3 u j hu).2 c8)) rfl (fun _ _ => rfl) (r1 u j hu)
theorem lv_ok.put0 {loc : Nat → Nat → Nat} {a : Array Slot} {ls : List (Option PV)} {nL i : Nat} {w : Value} (hn : lv_nw ls i = true)
    (h : lv_has a nL ((i, w) :: (lv_la loc ls).filter (fun q => !(q.1 == i) && !(q.1 + 1 == i && q.2.category == 2)))) : lv_ok loc a nL (ls.set i none) := by
  refine ⟨h.1, h.2.1, fun j u hj => ?_⟩
  rw [List.getElem?_set] at hj
  by_cases e : i = j
  · rw [if_pos e] at hj
    split at hj <;> cases hj
  · rw [if_neg e] at hj
    refine h.2.2 (j, pv_c loc u) (List.mem_cons_of_mem _ (List.mem_filter.mpr ⟨lv_la_mem hj, ?_⟩))
    have h1 : (j == i) = false := by simpa using fun q => e q.symm
    have h2 : (j + 1 == i && (pv_c loc u).category == 2) = false := by
      by_cases e2 : j + 1 = i
      · subst e2
        simp only [lv_nw, hj, lv_n] at hn
        rw [pv_n1 hn]
        simp
      · simp [e2]
    simp only [h1, h2]
    rfl
/-- caught, and put away -/
theorem v_catch {E : String} {j hp ln : Nat} (pre9 suf9 : List (Nat × Nat × Nat × Nat)) (x9 : Nat × Nat × Nat × Nat) (hsp : hh = pre9 ++ x9 :: suf9)
    (hpass : ∀ z ∈ pre9, z.2.2.2 ≠ 0 ∧ ∃ nm ∈ g_ex, E ≠ nm ∧ Cond.classLink y.cls z.2.2.2 nm ∈ g_ws) (hx : covers ⟨x9.1, x9.2.1, x9.2.2.1, x9.2.2.2⟩ pc = true) (hx0 : x9.2.2.2 ≠ 0) (hE : E ∈ g_ex)
    (hlk : Cond.classLink y.cls x9.2.2.2 E ∈ g_ws) (hca : Cond.castable E E ∈ g_nw) (hpc : x9.2.2.1 = hp) (hj : j < nL) (hnw : lv_nw ls j = true)
    (hd : (∃ j' : Fin 4, (j' : Nat) = j ∧ decode cc hp = .ok (.astore_n j', 1) ∧ ln = 1) ∨ (decode cc hp = .ok (.astore j, 2) ∧ ln = 2))
    (K : VV G d k n y cc nL ret hh (hp + ln) (ls.set j none) [] h Q) : VT G d k n y cc nL ret hh pc ls E h Q := by
  intro p e R s m args below meth c H locs cells slots h0 l0 loc a rest q9 ce C hR hE9 hL hl ho x1 x2 x3
  subst hpc
  have hsp9 : c.exceptionTable.toList = tableOf pre9 ++ ⟨x9.1, x9.2.1, x9.2.2.1, x9.2.2.2⟩ :: tableOf suf9 := by
    rw [C.2.2.2.2.2.2.2.2.1, hsp]
    simp [tableOf]
  refine vx_catch C.2.2.2.2.2.2.1 _ _ _ hsp9 (fun z hz => ?_) hx hx0 (C.2.2.2.2.2.2.2.1 _ hlk) (va_Nw.use rfl (C.2.2.2.2.2.2.2.2.2.1.1.2.2.2.2.2.2.2.1 _ hca)) x1 x2 x3 ?_
  · obtain ⟨w, hw, rfl⟩ := List.mem_map.mp hz
    obtain ⟨z1, nm, z2, z3, z4⟩ := hpass w hw
    exact Or.inr ⟨z1, nm, C.2.2.2.2.2.2.2.1 _ z4, C.2.2.2.2.2.2.2.2.2.1.1.2.2.2.2.2.2.2.2.2.1 E hE nm z2 z3⟩
  · have K9 : ∀ a2 : Array Slot, lv_has a2 nL ((j, Value.ref q9) :: (lv_la loc ls).filter (fun q => !(q.1 == j) && !(q.1 + 1 == j && q.2.category == 2))) → _ := fun a2 h2 => K p e R s m args below meth c H locs cells slots h0 l0 loc a2 C hR hE9 hL (lv_ok.put0 hnw h2) trivial (ho.put (fun _ h9 => by cases h9))
    rcases hd with ⟨j', hj', hd, rfl⟩ | ⟨hd, rfl⟩
    · exact lv_astore_n C.1 C.2.1 hd hj' hl.has hj rfl K9
    · exact lv_astore C.1 C.2.1 hd hl.has hj rfl K9
theorem v_max {ix : Nat} {x z : Int32} (q : Nat) (hd : decode cc pc = .ok (.invokestatic ix, 3)) (hw1 : Cond.methodLink y.cls ix Lib.Math.max.name ∈ g_ws) (hw2 : Cond.static Lib.Math.max.name ∈ g_ws ∧ Cond.code Lib.Math.max.name Lib.Math.max.code 2 (some .int) ∈ g_ws) (hw3 : Cond.initialized "java/lang/Math" ∈ g_ws) (hst : g_fit st = true) (hd1 : 1 ≤ d) (hq : pc + 3 = q) (K : VV G d k n y cc nL ret hh q ls (pv_I (if x < z then z else x) :: st) h Q) : VV G d k n y cc nL ret hh pc ls (pv_I z :: pv_I x :: st) h Q := by
  intro p e R s m args below meth c H locs cells slots h0 l0 loc a C hR hE hL hl hs ho
  subst hq
  have hts := C.2.2.2.2.2.2.2.1
  obtain ⟨c1, c2, c3, c4, c5, c6, c7, c8, c9, c10, c11, c12, c13, c14⟩ := id C
  have h8 : (st.map (fun v => if pv_n v then 1 else 2)).sum ≤ 8 := of_decide_eq_true hst
  exact va_mmax c1 c2 (c3.trans hl.1.symm) c7 (hts _ hw1) (hts _ hw2.1) (hts _ hw3) (hts _ hw2.2) (by omega) (by rw [hp_cats]; omega) (by omega) (by omega) hd (K p e R s m args below meth c H locs cells slots h0 l0 loc a C hR hE hL hl ⟨trivial, hs.2.2⟩ ho)
theorem v_min {ix : Nat} {x z : Int32} (q : Nat) (hd : decode cc pc = .ok (.invokestatic ix, 3)) (hw1 : Cond.methodLink y.cls ix Lib.Math.min.name ∈ g_ws) (hw2 : Cond.static Lib.Math.min.name ∈ g_ws ∧ Cond.code Lib.Math.min.name Lib.Math.min.code 2 (some .int) ∈ g_ws) (hw3 : Cond.initialized "java/lang/Math" ∈ g_ws) (hst : g_fit st = true) (hd1 : 1 ≤ d) (hq : pc + 3 = q) (K : VV G d k n y cc nL ret hh q ls (pv_I (if z < x then z else x) :: st) h Q) : VV G d k n y cc nL ret hh pc ls (pv_I z :: pv_I x :: st) h Q := by
  intro p e R s m args below meth c H locs cells slots h0 l0 loc a C hR hE hL hl hs ho
  subst hq
  have hts := C.2.2.2.2.2.2.2.1
  obtain ⟨c1, c2, c3, c4, c5, c6, c7, c8, c9, c10, c11, c12, c13, c14⟩ := id C
  have h8 : (st.map (fun v => if pv_n v then 1 else 2)).sum ≤ 8 := of_decide_eq_true hst
  exact va_mmin c1 c2 (c3.trans hl.1.symm) c7 (hts _ hw1) (hts _ hw2.1) (hts _ hw3) (hts _ hw2.2) (by omega) (by rw [hp_cats]; omega) (by omega) (by omega) hd (K p e R s m args below meth c H locs cells slots h0 l0 loc a C hR hE hL hl ⟨trivial, hs.2.2⟩ ho)
theorem v_abs {ix : Nat} {x : Int32} (q : Nat) (hd : decode cc pc = .ok (.invokestatic ix, 3)) (hw1 : Cond.methodLink y.cls ix Lib.Math.abs.name ∈ g_ws) (hw2 : Cond.static Lib.Math.abs.name ∈ g_ws ∧ Cond.code Lib.Math.abs.name Lib.Math.abs.code 1 (some .int) ∈ g_ws) (hw3 : Cond.initialized "java/lang/Math" ∈ g_ws) (hst : g_fit st = true) (hd1 : 1 ≤ d) (hq : pc + 3 = q) (K : VV G d k n y cc nL ret hh q ls (pv_I (if 0 ≤ x then x else 0 - x) :: st) h Q) : VV G d k n y cc nL ret hh pc ls (pv_I x :: st) h Q := by
  intro p e R s m args below meth c H locs cells slots h0 l0 loc a C hR hE hL hl hs ho
  subst hq
  have hts := C.2.2.2.2.2.2.2.1
  obtain ⟨c1, c2, c3, c4, c5, c6, c7, c8, c9, c10, c11, c12, c13, c14⟩ := id C
  have h8 : (st.map (fun v => if pv_n v then 1 else 2)).sum ≤ 8 := of_decide_eq_true hst
  exact va_mabs c1 c2 (c3.trans hl.1.symm) c7 (hts _ hw1) (hts _ hw2.1) (hts _ hw3) (hts _ hw2.2) (by omega) (by rw [hp_cats]; omega) (by omega) (by omega) hd (K p e R s m args below meth c H locs cells slots h0 l0 loc a C hR hE hL hl ⟨trivial, hs.2⟩ ho)
end VVT
