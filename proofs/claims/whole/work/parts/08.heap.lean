section VVW
theorem g_in0 : (g_cl.all fun q => (u_ws q.1 q.2.1 q.2.2).all fun w => decide (w ∈ g_ws)) = true := by decide +kernel
theorem g_in {ci : Nat} {q : vw_C} (h : g_cl[ci]? = some q) : ∀ w ∈ u_ws q.1 q.2.1 q.2.2, w ∈ g_ws := fun w hw => by
  have h1 := List.all_eq_true.mp g_in0 q (List.mem_of_getElem? h)
  exact of_decide_eq_true (List.all_eq_true.mp h1 w hw)
theorem g_nm : ∀ (ci : Nat) (q : vw_C), g_cl[ci]? = some q → ∀ a, a < q.2.2 → ∀ b, b < q.2.2 → a ≠ b → (q.2.1 a).2.1 ≠ (q.2.1 b).2.1
  | 0, _, h => by cases h; exact nmJ0
  | 1, _, h => by cases h; exact nmJ6
  | 2, _, h => by cases h; exact nmJx35411
  | 3, _, h => by cases h; exact nmJx4a65c
  | 4, _, h => by cases h; exact nmX0
  | 5, _, h => by cases h; exact nmX1
  | 6, _, h => by cases h; exact nmX2
  | 7, _, h => by cases h; exact nmX3
  | 8, _, h => by cases h; exact nmX4
  | 9, _, h => by cases h; exact nmX5
  | 10, _, h => by cases h; exact nmX6
  | 11, _, h => by cases h; exact nmX7
  | 12, _, h => by cases h; exact nmX8
  | 13, _, h => by cases h; exact nmX9
  | 14, _, h => by cases h; exact nmX10
  | 15, _, h => by cases h; exact nmX11
  | 16, _, h => by cases h; exact nmX12
  | (_ + 17), _, h => by cases h
theorem g_tyk : ∀ (ci : Nat) (q : vw_C), g_cl[ci]? = some q → ∀ k, k < q.2.2 → parseFieldDescriptor (q.2.1 k).2.2.1 = some (g_ty ci k)
  | 0, _, h => by cases h; exact tyJ0_ok
  | 1, _, h => by cases h; exact tyJ6_ok
  | 2, _, h => by cases h; exact tyJx35411_ok
  | 3, _, h => by cases h; exact tyJx4a65c_ok
  | 4, _, h => by cases h; exact tyX0_ok
  | 5, _, h => by cases h; exact tyX1_ok
  | 6, _, h => by cases h; exact tyX2_ok
  | 7, _, h => by cases h; exact tyX3_ok
  | 8, _, h => by cases h; exact tyX4_ok
  | 9, _, h => by cases h; exact tyX5_ok
  | 10, _, h => by cases h; exact tyX6_ok
  | 11, _, h => by cases h; exact tyX7_ok
  | 12, _, h => by cases h; exact tyX8_ok
  | 13, _, h => by cases h; exact tyX9_ok
  | 14, _, h => by cases h; exact tyX10_ok
  | 15, _, h => by cases h; exact tyX11_ok
  | 16, _, h => by cases h; exact tyX12_ok
  | (_ + 17), _, h => by cases h
def sv_i : FieldType → Bool
  | .object _ => false | .array _ => false | .long => false | .double => false | _ => true
def sv_r : FieldType → Bool
  | .object _ => true | .array _ => true | _ => false
theorem sv_int {loc : Nat → Nat → Nat} {h : PH} {t i k : Nat} {ty : FieldType} (e : sv_i ty = true) : hp_sv loc h t i k ty = .int (hp_vi h t i k) := by cases ty <;> first | rfl | cases e
theorem sv_ref {loc : Nat → Nat → Nat} {h : PH} {t i k : Nat} {ty : FieldType} (e : sv_r ty = true) : hp_sv loc h t i k ty = va_rf (hp_ro loc (hp_vr h t i k)) := by cases ty <;> first | rfl | cases e
theorem hp_sv_eq {loc loc' : Nat → Nat → Nat} {h h' : PH} {t i k : Nat} (e1 : hp_vi h' t i k = hp_vi h t i k) (e2 : hp_ro loc' (hp_vr h' t i k) = hp_ro loc (hp_vr h t i k)) (e3 : hp_vl h' t i k = hp_vl h t i k) (e4 : hp_vd h' t i k = hp_vd h t i k) (ty : FieldType) : hp_sv loc' h' t i k ty = hp_sv loc h t i k ty := by
  cases ty <;> simp only [hp_sv, e1, e2, e3, e4]
theorem tg_0 : tg_k 0 = none := rfl
theorem hp_al_of {h : PH} {t i : Nat} {z : Nat ⊕ FieldType} (ho : ok_r h (t, i)) (hk : tg_k t = some z) : hp_al h t i = true := by
  rcases ho with e | e
  · cases e
    cases hk
  · exact e
theorem hp_ref {loc : Nat → Nat → Nat} {t i : Nat} {z : Nat ⊕ FieldType} (hk : tg_k t = some z) : pv_c loc (pv_O (t, i)) = .ref (loc t i) := by
  have ht : t ≠ 0 := fun e => by subst e; cases hk
  show va_rf (hp_ro loc (t, i)) = _
  simp [hp_ro, ht, va_rf]
theorem hp_obj {G : GW} {loc : Nat → Nat → Nat} {h : PH} {H : Heap} {t i ci : Nat} {q : vw_C} (hR : hp_Rep G loc h H) (ha : hp_al h t i = true) (hk : tg_k t = some (.inl ci)) (hc : g_cl[ci]? = some q) : o_OB t (loc t i) ((gw_D G).1 ci) q.2.2 ((gw_D G).2 ci) H (fun k => hp_sv loc h t i k (g_ty ci k)) := by
  have h1 := hR.1 t i ha
  unfold hp_at at h1
  rw [hk] at h1
  obtain ⟨q', e, h2⟩ := h1
  cases hc.symm.trans e
  exact h2
theorem hp_arr {G : GW} {loc : Nat → Nat → Nat} {h : PH} {H : Heap} {t i : Nat} {ty : FieldType} (h10 : 10 ≤ t) (hR : hp_Rep G loc h H) (ha : hp_al h t i = true) (hk : tg_k t = some (.inr ty)) : H[loc t i]? = some (arrV (gw_a G ty) (hp_ln h t i) (fun k => hp_sv loc h t i k ty)) := by
  have h1 := hR.1 t i ha
  unfold hp_at at h1
  rw [hk] at h1
  exact h1.2 h10
theorem tg_tyn0 : ((List.range 82).all fun t => (t < 10) || (match tg_k t with
  | some (.inr ty) => decide (ty ∈ g_tyn)
  | _ => true)) = true := by decide +kernel
theorem tg_tyn {t : Nat} {ty : FieldType} (hk : tg_k t = some (.inr ty)) (h10 : 10 ≤ t) : ty ∈ g_tyn := by
  rcases Nat.lt_or_ge t 82 with c | c
  · have h1 := List.all_eq_true.mp tg_tyn0 t (List.mem_range.mpr c)
    rw [hk] at h1
    simp only [Bool.or_eq_true, decide_eq_true_eq] at h1
    exact h1.resolve_left (by omega)
  · have e : tg_k t = none := by
      unfold tg_k
      rw [List.getD_eq_getElem?_getD, List.getElem?_eq_none (show tg_tab.length ≤ t from c)]
      rfl
    rw [e] at hk
    cases hk
/-- what can be read of any array -/
theorem hp_arrR {G : GW} {loc : Nat → Nat → Nat} {h : PH} {H : Heap} {t i : Nat} {ty : FieldType} {s : State} (hW : w_ok G s) (hR : hp_Rep G loc h H) (ha : hp_al h t i = true) (hk : tg_k t = some (.inr ty)) :
    ∃ cell : Cell, H[loc t i]? = some cell ∧ s.isArrayOf cell ty ∧ cell.vm ≠ .unknown ∧ hp_ln h t i ≤ cell.slots.size ∧ cell.slots.size.toInt32 = nI (hp_ln h t i) ∧ ∀ k, k < hp_ln h t i → cell.slots[k]? = some (hp_sv loc h t i k ty) := by
  rcases Nat.lt_or_ge t 10 with c | c
  · have h1 := hR.1 t i ha
    unfold hp_at at h1
    rw [hk] at h1
    obtain ⟨hi, cell, e1, e2, e3, e4, e5⟩ := h1.1 c
    obtain ⟨cell', f1, f2⟩ := hW.2.2.2.2.2.2.2.2.2.2.2.2.2 t i ty c hi hk
    have hlt : gw_o G t i < (gw_H G).size := (Array.getElem?_eq_some_iff.mp f1).1
    have e9 := e1
    rw [hR.2.2.2.2.2.2.2 t i c, hR.2.2.2.1.2 _ hlt, f1] at e9
    cases e9
    exact ⟨cell, e1, f2, e2, e3, e4, e5⟩
  · exact ⟨_, hp_arr c hR ha hk, (hW.2.1 ty (tg_tyn hk c)).1 _ _, (fun z => (by cases z)), (by rw [arrV_size]; exact Nat.le_refl _), (by rw [arrV_size]; rfl), fun k hk9 => arrV_read _ _ hk9⟩
theorem hp_at_new {G : GW} {loc : Nat → Nat → Nat} {h : PH} {H : Heap} {t i : Nat} {ty : FieldType} (hk : tg_k t = some (.inr ty)) (h10 : 10 ≤ t) (e : H[loc t i]? = some (arrV (gw_a G ty) (hp_ln h t i) (fun k => hp_sv loc h t i k ty))) : hp_at G loc h t i H := by
  unfold hp_at
  rw [hk]
  exact ⟨fun c => absurd h10 (Nat.not_le.mpr c), fun _ => e⟩
theorem hp_at_eq {G : GW} {loc loc' : Nat → Nat → Nat} {h h' : PH} {H H' : Heap} {t i : Nat} (hH : H'[loc' t i]? = H[loc t i]?) (el : hp_ln h' t i = hp_ln h t i) (e : ∀ k ty, hp_sv loc' h' t i k ty = hp_sv loc h t i k ty) (h0 : hp_at G loc h t i H) : hp_at G loc' h' t i H' := by
  unfold hp_at at h0 ⊢
  cases hk : tg_k t with
  | none => trivial
  | some z =>
    rw [hk] at h0
    cases z with
    | inl ci =>
      obtain ⟨q, hq, cell, h1, h2, h3, h4⟩ := h0
      exact ⟨q, hq, cell, hH.trans h1, h2, h3, fun k hk => (h4 k hk).trans (congrArg some (e k _).symm)⟩
    | inr ty =>
      have e9 : (fun k => hp_sv loc' h' t i k ty) = (fun k => hp_sv loc h t i k ty) := funext fun k => e k ty
      refine ⟨fun c => ?_, fun c => ?_⟩
      · obtain ⟨hi, cell, q1, q2, q3, q4, q5⟩ := h0.1 c
        rw [e9, el]
        exact ⟨hi, cell, hH.trans q1, q2, q3, q4, q5⟩
      · rw [hH, el, e9]
        exact h0.2 c
theorem hp_old.of {G : GW} {h h' : PH} (h0 : hp_old G h) (ea : ∀ t i, hp_al h t i = true → hp_al h' t i = true) (e : ∀ u j, u < 10 → hp_ln h' u j = hp_ln h u j ∧ ∀ k, hp_vi h' u j k = hp_vi h u j k ∧ hp_vr h' u j k = hp_vr h u j k) : hp_old G h' := by
  obtain ⟨a1, a2, a3, a4, a5, a6, a7, a8, a9, a10⟩ := h0
  refine ⟨fun t i hi => ea _ _ (a1 t i hi), fun i => ?_, fun i => ?_, fun i => ?_, fun i => ?_, ?_, ?_, fun k hk => ?_, ?_, fun k => ?_⟩
  · exact ⟨by rw [((e 1 i (by decide)).2 0).2]; exact (a2 i).1, by rw [((e 1 i (by decide)).2 1).1]; exact (a2 i).2⟩
  · exact ⟨by rw [(e 2 i (by decide)).1]; exact (a3 i).1, fun k => by rw [((e 2 i (by decide)).2 k).1]; exact (a3 i).2 k⟩
  · exact ⟨by rw [(e 3 i (by decide)).1]; exact (a4 i).1, fun k => by rw [((e 3 i (by decide)).2 k).1]; exact (a4 i).2 k⟩
  · rw [((e 4 i (by decide)).2 0).1]; exact a5 i
  · rw [(e 5 0 (by decide)).1]; exact a6
  · rw [(e 6 0 (by decide)).1]; exact a7
  · rw [((e 6 0 (by decide)).2 k).2]; exact a8 k hk
  · rw [(e 7 0 (by decide)).1]; exact a9
  · rw [((e 7 0 (by decide)).2 k).1]; exact a10 k
theorem hp_at8 {G : GW} {loc : Nat → Nat → Nat} {h : PH} {i : Nat} {H : Heap} : hp_at G loc h 8 i H := trivial
/-- one thing was written -/
theorem hp_Rep.upd {G : GW} {loc : Nat → Nat → Nat} {h h' : PH} {H H' : Heap} {t i : Nat} (hR : hp_Rep G loc h H) (ea : ∀ u j, hp_al h' u j = hp_al h u j) (el : ∀ u j, hp_ln h' u j = hp_ln h u j)
    (e : ∀ u j, ¬ (u = t ∧ j = i) → ∀ k, hp_vi h' u j k = hp_vi h u j k ∧ hp_vr h' u j k = hp_vr h u j k ∧ hp_vl h' u j k = hp_vl h u j k ∧ hp_vd h' u j k = hp_vd h u j k)
    (ha : hp_al h t i = true) (h10 : 10 ≤ t) (hat : hp_at G loc h' t i H') (hz : H'.size = H.size) (hH : ∀ q, q ≠ loc t i → H'[q]? = H[q]?) (hcl : ∀ k, ok_r h (hp_vr h' t i k)) : hp_Rep G loc h' H' := by
  obtain ⟨r1, r2, r3, r4, r5, r6, r7, r8⟩ := hR
  have ok9 : ∀ r, ok_r h r → ok_r h' r := fun r hr => hr.elim Or.inl (fun q => Or.inr (by rw [ea]; exact q))
  refine ⟨fun u j hu => ?_, fun u j u' j' hu hu' => ?_, fun u j hu => ?_, ⟨by rw [hz]; exact r4.1, fun a h1 => ?_⟩, fun j => by rw [ea]; exact r5 j, fun u j k hu => ?_, ?_, r8⟩
  · rw [ea] at hu
    by_cases c : u = t ∧ j = i
    · obtain ⟨rfl, rfl⟩ := c
      exact hat
    · by_cases c8 : u = 8
      · subst c8
        exact hp_at8
      refine hp_at_eq (hH _ fun q => c ?_) (el u j) (fun k ty => ?_) (r1 u j hu)
      · obtain ⟨e1, e2⟩ := r2 _ _ _ _ ha hu h10 c8 q.symm
        exact ⟨e1.symm, e2.symm⟩
      · obtain ⟨e1, e2, e3, e4⟩ := e u j c k
        exact hp_sv_eq e1 (by rw [e2]) e3 e4 ty
  · rw [ea] at hu hu'
    exact r2 u j u' j' hu hu'
  · rw [ea] at hu
    rw [hz]
    exact r3 u j hu
  · rw [hH a fun q => absurd ((r3 t i ha).1 h10) (by omega)]
    exact r4.2 a h1
  · rw [ea] at hu
    by_cases c : u = t ∧ j = i
    · obtain ⟨rfl, rfl⟩ := c
      exact ok9 _ (hcl k)
    · rw [(e u j c k).2.1]
      exact ok9 _ (r6 u j k hu)
  · refine r7.of (fun u j q => by rw [ea]; exact q) (fun u j hu => ⟨el u j, fun k => ?_⟩)
    have c : ¬ (u = t ∧ j = i) := fun q => by omega
    exact ⟨(e u j c k).1, (e u j c k).2.1⟩
def lc_up (loc : Nat → Nat → Nat) (t i q : Nat) : Nat → Nat → Nat := fun u j => if u = t ∧ j = i then q else loc u j
theorem lc_ne {loc : Nat → Nat → Nat} {t i q u j : Nat} (h : ¬ (u = t ∧ j = i)) : lc_up loc t i q u j = loc u j := if_neg h
theorem lc_at {loc : Nat → Nat → Nat} {t i q : Nat} : lc_up loc t i q t i = q := if_pos ⟨rfl, rfl⟩
theorem ok_r.ro {h : PH} {loc : Nat → Nat → Nat} {r : RN} {t i q : Nat} (hr : ok_r h r) (hn : hp_al h t i = false) : hp_ro (lc_up loc t i q) r = hp_ro loc r := by
  rcases hr with e | e
  · subst e; rfl
  · have c : ¬ (r.1 = t ∧ r.2 = i) := fun z => by rw [z.1, z.2, hn] at e; cases e
    unfold hp_ro
    rw [lc_ne c]
theorem ok_v.c {h : PH} {loc : Nat → Nat → Nat} {v : PV} {t i q : Nat} (hv : ok_v h v) (hn : hp_al h t i = false) : pv_c (lc_up loc t i q) v = pv_c loc v := by
  rcases v with x | r | x | x | x
  · rfl
  · show va_rf _ = va_rf _
    rw [ok_r.ro hv hn]
  · rfl
  · rfl
  · rfl
theorem hp_new_al {h : PH} {t i n u j : Nat} : hp_al (hp_new h t i n) u j = if u = t ∧ j = i then true else hp_al h u j := rfl
theorem hp_new_keep {h : PH} {t i n u j : Nat} (hu : hp_al h u j = true) : hp_al (hp_new h t i n) u j = true := by
  rw [hp_new_al]; split
  · rfl
  · exact hu
theorem ok_r.new {h : PH} {t i n : Nat} {r : RN} (hr : ok_r h r) : ok_r (hp_new h t i n) r := hr.elim Or.inl (fun q => Or.inr (hp_new_keep q))
theorem ok_v.new {h : PH} {t i n : Nat} {v : PV} (hr : ok_v h v) : ok_v (hp_new h t i n) v := by
  rcases v with x | r | x | x | x
  · trivial
  · exact ok_r.new hr
  · trivial
  · trivial
  · trivial
theorem ok_s.c {h : PH} {loc : Nat → Nat → Nat} {st : List PV} {t i q : Nat} (hv : ok_s h st) (hn : hp_al h t i = false) : st.map (pv_c (lc_up loc t i q)) = st.map (pv_c loc) := by
  induction st with
  | nil => rfl
  | cons v l ih => rw [List.map_cons, List.map_cons, ok_v.c hv.1 hn, ih hv.2]
theorem ok_s.to {h h' : PH} {st : List PV} (e : ∀ t i, hp_al h t i = true → hp_al h' t i = true) (hv : ok_s h st) : ok_s h' st := by
  induction st with
  | nil => trivial
  | cons v l ih =>
    refine ⟨?_, ih hv.2⟩
    rcases v with x | r | x | x | x
    · trivial
    · exact hv.1.elim Or.inl (fun q => Or.inr (e _ _ q))
    · trivial
    · trivial
    · trivial
theorem ok_l.to {h h' : PH} {ls : List (Option PV)} (e : ∀ t i, hp_al h t i = true → hp_al h' t i = true) (hv : ok_l h ls) : ok_l h' ls := by
  induction ls with
  | nil => trivial
  | cons v l ih =>
    cases v with
    | none => exact ih hv
    | some v =>
      refine ⟨?_, ih hv.2⟩
      rcases v with x | r | x | x | x
      · trivial
      · exact hv.1.elim Or.inl (fun q => Or.inr (e _ _ q))
      · trivial
      · trivial
      · trivial
theorem lv_ok.new {h : PH} {loc : Nat → Nat → Nat} {a : Array Slot} {ls : List (Option PV)} {nL t i q : Nat} (h0 : lv_ok loc a nL ls) (ho : ok_l h ls) (hn : hp_al h t i = false) : lv_ok (lc_up loc t i q) a nL ls :=
  ⟨h0.1, h0.2.1, fun j v hj => by rw [ok_v.c (ho.at hj) hn]; exact h0.2.2 j v hj⟩
theorem hp_Rep.new {G : GW} {loc : Nat → Nat → Nat} {h : PH} {H H' : Heap} {t i n : Nat} (hR : hp_Rep G loc h H) (hn : hp_al h t i = false) (h10 : 10 ≤ t) (hz : H'.size = H.size + 1) (hH : ∀ q, q < H.size → H'[q]? = H[q]?) (hat : hp_at G (lc_up loc t i H.size) (hp_new h t i n) t i H') : hp_Rep G (lc_up loc t i H.size) (hp_new h t i n) H' := by
  obtain ⟨r1, r2, r3, r4, r5, r6, r7, r8⟩ := hR
  have kk : ∀ u j, ¬ (u = t ∧ j = i) → hp_al (hp_new h t i n) u j = hp_al h u j := fun u j c => if_neg c
  refine ⟨fun u j hu => ?_, fun u j u' j' hu hu' hw hw8 => ?_, fun u j hu => ?_, ⟨by omega, fun a h1 => ?_⟩, fun j => ?_, fun u j k hu => ?_, ?_, fun u j hu => ?_⟩
  · by_cases c : u = t ∧ j = i
    · obtain ⟨rfl, rfl⟩ := c
      exact hat
    · rw [kk u j c] at hu
      by_cases c8 : u = 8
      · subst c8
        exact hp_at8
      refine hp_at_eq (loc := loc) (h := h) (H := H) (by rw [lc_ne c]; exact hH _ ((r3 u j hu).2 c8)) (if_neg c) (fun k ty => ?_) (r1 u j hu)
      refine hp_sv_eq (show hp_vi (hp_new h t i n) u j k = hp_vi h u j k from if_neg c) ?_ (show hp_vl (hp_new h t i n) u j k = hp_vl h u j k from if_neg c) (show hp_vd (hp_new h t i n) u j k = hp_vd h u j k from if_neg c) ty
      rw [show hp_vr (hp_new h t i n) u j k = hp_vr h u j k from if_neg c]
      exact ok_r.ro (r6 u j k hu) hn
  · by_cases c : u = t ∧ j = i
    · by_cases c' : u' = t ∧ j' = i
      · intro _
        exact ⟨c.1.trans c'.1.symm, c.2.trans c'.2.symm⟩
      · rw [kk u' j' c'] at hu'
        rw [lc_ne c', c.1, c.2, lc_at]
        intro e
        have := (r3 u' j' hu').2 hw8
        omega
    · rw [kk u j c] at hu
      by_cases c' : u' = t ∧ j' = i
      · rw [lc_ne c, c'.1, c'.2, lc_at]
        intro e
        have := (r3 u j hu).2 (by omega)
        omega
      · rw [kk u' j' c'] at hu'
        rw [lc_ne c, lc_ne c']
        exact r2 u j u' j' hu hu' hw hw8
  · by_cases c : u = t ∧ j = i
    · obtain ⟨rfl, rfl⟩ := c
      rw [lc_at]
      exact ⟨fun _ => r4.1, fun _ => by omega⟩
    · rw [kk u j c] at hu
      rw [lc_ne c]
      exact ⟨(r3 u j hu).1, fun c8 => by have := (r3 u j hu).2 c8; omega⟩
  · rw [hH a (by have := r4.1; omega)]
    exact r4.2 a h1
  · rw [kk 0 j (fun q => by omega)]
    exact r5 j
  · by_cases c : u = t ∧ j = i
    · obtain ⟨rfl, rfl⟩ := c
      exact Or.inl (if_pos ⟨rfl, rfl⟩)
    · rw [kk u j c] at hu
      rw [show hp_vr (hp_new h t i n) u j k = hp_vr h u j k from if_neg c]
      exact (r6 u j k hu).new
  · refine r7.of (fun u j q => hp_new_keep q) (fun u j hu => ?_)
    have c : ¬ (u = t ∧ j = i) := fun q => by omega
    exact ⟨if_neg c, fun k => ⟨if_neg c, if_neg c⟩⟩
  · rw [lc_ne (fun q => by omega)]
    exact r8 u j hu
theorem hp_ext.new {h0 h : PH} {l0 loc : Nat → Nat → Nat} {t i n q : Nat} (hE : hp_ext h0 l0 h loc) (hn : hp_al h t i = false) : hp_ext h0 l0 (hp_new h t i n) (lc_up loc t i q) := fun u j hu => by
  obtain ⟨e1, e2⟩ := hE u j hu
  refine ⟨hp_new_keep e1, ?_⟩
  rw [lc_ne fun z => by rw [z.1, z.2, hn] at e1; cases e1]
  exact e2
theorem hp_seti_ne {h : PH} {t i k a b c : Nat} {x : Int32} (h0 : ¬ (a = t ∧ b = i ∧ c = k)) : hp_vi (hp_seti h t i k x) a b c = hp_vi h a b c := if_neg h0
theorem hp_seti_at {h : PH} {t i k : Nat} {x : Int32} : hp_vi (hp_seti h t i k x) t i k = x := if_pos ⟨rfl, rfl, rfl⟩
theorem hp_setr_ne {h : PH} {t i k a b c : Nat} {x : RN} (h0 : ¬ (a = t ∧ b = i ∧ c = k)) : hp_vr (hp_setr h t i k x) a b c = hp_vr h a b c := if_neg h0
theorem hp_setr_at {h : PH} {t i k : Nat} {x : RN} : hp_vr (hp_setr h t i k x) t i k = x := if_pos ⟨rfl, rfl, rfl⟩
theorem hp_setl_ne {h : PH} {t i k a b c : Nat} {x : Int64} (h0 : ¬ (a = t ∧ b = i ∧ c = k)) : hp_vl (hp_setl h t i k x) a b c = hp_vl h a b c := if_neg h0
theorem hp_setl_at {h : PH} {t i k : Nat} {x : Int64} : hp_vl (hp_setl h t i k x) t i k = x := if_pos ⟨rfl, rfl, rfl⟩
theorem hp_setd_ne {h : PH} {t i k a b c : Nat} {x : UInt64} (h0 : ¬ (a = t ∧ b = i ∧ c = k)) : hp_vd (hp_setd h t i k x) a b c = hp_vd h a b c := if_neg h0
theorem hp_setd_at {h : PH} {t i k : Nat} {x : UInt64} : hp_vd (hp_setd h t i k x) t i k = x := if_pos ⟨rfl, rfl, rfl⟩
end VVW
