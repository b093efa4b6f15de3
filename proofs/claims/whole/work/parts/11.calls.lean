section VVC
variable {G : GW} {d k n : Nat} {y : MethodName} {cc : ByteArray} {nL : Nat} {ret : Option FieldType} {hh : List (Nat × Nat × Nat × Nat)} {pc : Nat} {ls : List (Option PV)} {st : List PV} {h : PH} {Q : RS → PH → Prop}
/-- the locals at the entry -/
def vv_fl : List PV → List (Option PV)
  | [] => []
  | v :: l => if pv_n v then some v :: vv_fl l else some v :: none :: vv_fl l
def vv_en (nL : Nat) (as : List PV) : List (Option PV) := vv_fl as ++ List.replicate (nL - (vv_fl as).length) none
theorem vv_fl_mem {loc : Nat → Nat → Nat} : ∀ (as : List PV) (j i : Nat) (v : PV), (vv_fl as)[i]? = some (some v) → (j + i, pv_c loc v) ∈ lv_args j (as.map (pv_c loc)) := by
  intro as
  induction as with
  | nil => intro j i v h; simp [vv_fl] at h
  | cons w l ih =>
    intro j i v h
    unfold vv_fl at h
    rw [List.map_cons, lv_args]
    cases hw : pv_n w with
    | true =>
      rw [hw, if_pos rfl] at h
      rw [if_neg (by rw [pv_n1 hw]; decide)]
      cases i with
      | zero => simp at h; subst h; exact List.mem_cons_self
      | succ i =>
        refine List.mem_cons_of_mem _ ?_
        have := ih (j + 1) i v (by simpa using h)
        rwa [show j + 1 + i = j + (i + 1) from by omega] at this
    | false =>
      rw [hw, if_neg (by decide)] at h
      rw [if_pos (pv_n2 hw)]
      match i, h with
      | 0, h => simp at h; subst h; exact List.mem_cons_self
      | 1, h => simp at h
      | i + 2, h =>
        refine List.mem_cons_of_mem _ ?_
        have := ih (j + 2) i v (by simpa using h)
        rwa [show j + 2 + i = j + (i + 2) from by omega] at this
theorem vv_fl_len {loc : Nat → Nat → Nat} : ∀ as : List PV, (lg_sl (as.map (pv_c loc))).length = (vv_fl as).length := by
  intro as
  induction as with
  | nil => rfl
  | cons w l ih =>
    unfold vv_fl
    rw [List.map_cons]
    show (List.flatMap _ (_ :: _)).length = _
    rw [List.flatMap_cons, List.length_append]
    have ih' : (List.flatMap (fun v : Value => if v.category = 2 then [Slot.val v, .second] else [.val v]) (l.map (pv_c loc))).length = (vv_fl l).length := ih
    rw [ih']
    cases hw : pv_n w with
    | true =>
      rw [if_neg (by rw [pv_n1 hw]; decide), if_pos rfl]
      simp; omega
    | false =>
      rw [if_pos (pv_n2 hw), if_neg (by decide)]
      simp; omega
theorem vv_en_ok {loc : Nat → Nat → Nat} (as : List PV) (hn : (vv_fl as).length ≤ nL) : lv_ok loc ((lg_sl (as.map (pv_c loc)) ++ List.replicate (nL - (lg_sl (as.map (pv_c loc))).length) Slot.unset).toArray) nL (vv_en nL as) := by
  have h1 := lv_entry (as.map (pv_c loc)) (n := nL) (by rw [vv_fl_len]; exact hn)
  refine ⟨h1.1, h1.2.1, fun i v hv => ?_⟩
  unfold vv_en at hv
  rw [List.getElem?_append] at hv
  split at hv
  · have := vv_fl_mem (loc := loc) as 0 i v hv
    rw [Nat.zero_add] at this
    exact h1.2.2 _ this
  · rw [List.getElem?_replicate] at hv
    split at hv <;> cases hv
theorem ok_fl {as : List PV} (h0 : ok_s h as) : ok_l h (vv_fl as) := by
  induction as with
  | nil => trivial
  | cons v l ih =>
    unfold vv_fl
    split
    · exact ⟨h0.1, ih h0.2⟩
    · exact ⟨h0.1, ih h0.2⟩
theorem ok_app {a b : List (Option PV)} (ha : ok_l h a) (hb : ok_l h b) : ok_l h (a ++ b) := by
  induction a with
  | nil => exact hb
  | cons v l ih =>
    cases v with
    | none => exact ih ha
    | some v => exact ⟨ha.1, ih ha.2⟩
theorem ok_rep : ∀ j : Nat, ok_l h (List.replicate j none)
  | 0 => trivial
  | j + 1 => ok_rep j
/-- throwing: from here E goes its way -/
def VT (G : GW) (d k n : Nat) (y : MethodName) (cc : ByteArray) (nL : Nat) (ret : Option FieldType) (hh : List (Nat × Nat × Nat × Nat)) (pc : Nat) (ls : List (Option PV)) (E : String) (h : PH) (Q : RS → PH → Prop) : Prop :=
  ∀ (p : Program) (e : Env) (R : Room) (s : State) (m : MethodId) (args : Array Value) (below : List Frame) (meth : Method) (c : Code) (H : Heap) (locs : List Loc) (cells slots : Nat) (h0 : PH) (l0 loc : Nat → Nat → Nat) (a : Array Slot) (rest : List Value) (q9 : Addr) (ce : Cell),
    vv_C G d k n y cc nL ret hh p R s m args meth c cells slots → hp_Rep G loc h H → hp_ext h0 l0 h loc → (∀ q ∈ locs, (gw_H G).size ≤ q.base) → lv_ok loc a nL ls → ok_l h ls → H[q9]? = some ce → ce.vm = .none → s.vm.findClass E = some ce.cls →
    vx_W p (gw_l G) e R s m args below meth c H locs cells slots (vx_MQ below (vv_Q G h0 l0 Q) (vv_X G h0 l0 Q) args s R.cells R.slots (fun q => (gw_H G).size ≤ q)) (F0 m pc a rest) q9
/-- what comes behind a call -/
def vv_K (G : GW) (d k n : Nat) (y : MethodName) (cc : ByteArray) (nL : Nat) (ret : Option FieldType) (hh : List (Nat × Nat × Nat × Nat)) (pc q : Nat) (ls : List (Option PV)) (st : List PV) (Q : RS → PH → Prop) : RS → PH → Prop
  | .inl (some v), h1 => VV G d k n y cc nL ret hh q ls (v :: st) h1 Q
  | .inl none, h1 => VV G d k n y cc nL ret hh q ls st h1 Q
  | .inr E, h1 => VT G d k n y cc nL ret hh pc ls E h1 Q
theorem vv_out {E : String} (hq : Q (.inr E) h) : VT G d k n y cc nL ret [] pc ls E h Q := by
  intro p e R s m args below meth c H locs cells slots h0 l0 loc a rest q9 ce C hR hE hL hl ho x1 x2 x3
  refine vx_out (fun x hx => ?_) C.2.2.2.2.1 x1 x2 x3 (fun t ht _ => ⟨loc, h, hq, by rw [ht]; exact hR, hE⟩) hL (by have := C.2.2.2.2.2.2.2.2.2.2.2.2.1; omega) (by have := C.2.2.2.2.2.2.2.2.2.2.2.2.2; omega)
  rw [C.2.2.2.2.2.2.2.2.1] at hx
  cases hx
/-- a walk is a contract -/
def vv_P (G : GW) (loc : Nat → Nat → Nat) (h : PH) (as : List PV) : Array Value → State → Prop := fun a U => a = (as.map (pv_c loc)).toArray ∧ hp_Rep G loc h U.heap ∧ w_ok G U ∧ ok_s h as
abbrev vv_R (d k n : Nat) : Room := { frames := d, cells := k, slots := n, locals := 40 * d }
theorem w_ok.self {G : GW} {U U' : State} (e : U'.vm = U.vm) (hw : w_ok G U) : w_ok G U' := w_ok.warm (s := U) (by rw [e]; exact State.WarmedH.refl U) hw
theorem vv_blind {loc : Nat → Nat → Nat} {as : List PV} : FrameBlind (vv_P G loc h as) := fun a U g mk q => ⟨q.1, q.2.1, w_ok.self (U := U) (U' := U.calling g mk a) rfl q.2.2.1, q.2.2.2⟩
theorem vv_met {loc : Nat → Nat → Nat} {as : List PV} (hy : plainName y.cls = true) (hn : (vv_fl as).length ≤ nL) (hV : VV G d k n y cc nL ret [] 0 (vv_en nL as) [] h Q) :
    vx_Met (gw_l G) y (Cond.code y cc nL ret :: g_ws) (vv_R d k n) (vv_P G loc h as) (vv_Q G h loc Q) (vv_X G h loc Q) k n (fun q => (gw_H G).size ≤ q) := by
  refine vx_ofW hy rfl ?_
  intro p e s m args below meth c s₁ B hml hex hP
  obtain ⟨rfl, hR, hW, hok⟩ := hP
  have hts : ∀ w ∈ Cond.code y cc nL ret :: g_ws, w.before (as.map (pv_c loc)).toArray s = true := atoms_spec B.pre
  rw [lg_entry_eq]
  have htab : c.exceptionTable.toList = tableOf [] := by
    cases he : c.exceptionTable.toList with
    | nil => rfl
    | cons x l => exact absurd (hex x (by rw [he]; exact List.mem_cons_self)) id
  refine hV p e (vv_R d k n) s m _ below meth c s.heap [] 0 0 h loc loc _ ⟨B.exec, B.bytes, hml, B.returns, B.notSynchronized, (name_of_methodNamed B.named B.method).1, findClass_of_methodNamed B.named, fun w hw => hts w (List.mem_cons_of_mem _ hw), htab, ⟨hW, hR.2.2.2.1.1, hR.2.2.2.1.2⟩, Nat.le_refl _, Nat.le_refl _, by show 0 + k ≤ k; omega, by show 0 + n ≤ n; omega⟩ hR (fun _ _ h9 => ⟨h9, rfl⟩) (fun _ h9 => by cases h9) (vv_en_ok as hn) trivial (ok_app (ok_fl hok) (ok_rep _))
/-- what is known of names stays known -/
theorem hp_ext.v {h1 : PH} {loc l1 : Nat → Nat → Nat} (hE : hp_ext h loc h1 l1) {v : PV} (hv : ok_v h v) : pv_c l1 v = pv_c loc v ∧ ok_v h1 v := by
  rcases v with x | r | x | x | x
  · exact ⟨rfl, trivial⟩
  · rcases hv with e | e
    · subst e
      exact ⟨rfl, Or.inl rfl⟩
    · obtain ⟨e1, e2⟩ := hE _ _ e
      refine ⟨?_, Or.inr e1⟩
      show va_rf (hp_ro l1 r) = va_rf (hp_ro loc r)
      unfold hp_ro
      rw [e2]
  · exact ⟨rfl, trivial⟩
  · exact ⟨rfl, trivial⟩
  · exact ⟨rfl, trivial⟩
theorem hp_ext.s {h1 : PH} {loc l1 : Nat → Nat → Nat} (hE : hp_ext h loc h1 l1) {l : List PV} (hv : ok_s h l) : l.map (pv_c l1) = l.map (pv_c loc) ∧ ok_s h1 l := by
  induction l with
  | nil => exact ⟨rfl, trivial⟩
  | cons v l ih => exact ⟨by rw [List.map_cons, List.map_cons, (hE.v hv.1).1, (ih hv.2).1], (hE.v hv.1).2, (ih hv.2).2⟩
theorem hp_ext.l {h1 : PH} {loc l1 : Nat → Nat → Nat} (hE : hp_ext h loc h1 l1) {l : List (Option PV)} (hv : ok_l h l) : ok_l h1 l := by
  induction l with
  | nil => trivial
  | cons v l ih =>
    cases v with
    | none => exact ih hv
    | some v => exact ⟨(hE.v hv.1).2, ih hv.2⟩
theorem hp_ext.lv {h1 : PH} {loc l1 : Nat → Nat → Nat} (hE : hp_ext h loc h1 l1) {a : Array Slot} {l : List (Option PV)} (hv : ok_l h l) (h0 : lv_ok loc a nL l) : lv_ok l1 a nL l :=
  ⟨h0.1, h0.2.1, fun i v hi => by rw [(hE.v (hv.at hi)).1]; exact h0.2.2 i v hi⟩
theorem hp_ext.trans {h0 h1 : PH} {l0 loc l1 : Nat → Nat → Nat} (hE : hp_ext h0 l0 h loc) (hE2 : hp_ext h loc h1 l1) : hp_ext h0 l0 h1 l1 := fun t i hu => by
  obtain ⟨e1, e2⟩ := hE t i hu
  obtain ⟨e3, e4⟩ := hE2 t i e1
  exact ⟨e3, e4.trans e2⟩
theorem hp_cats {loc : Nat → Nat → Nat} : ((st.map (pv_c loc)).map fun v => v.category) = st.map (fun v => if pv_n v then 1 else 2) := by
  rw [List.map_map]
  refine List.map_congr_left (fun v _ => ?_)
  show (pv_c loc v).category = _
  cases hv : pv_n v with
  | true => exact pv_n1 hv
  | false => exact pv_n2 hv
def g_fit (st : List PV) : Bool := (st.map (fun v => if pv_n v then 1 else 2)).sum ≤ 8
theorem vv_run {Q' : RS → PH → Prop} {mc ms k2 n2 : Nat} {p : Program} {e : Env} {R : Room} {s : State} {m : MethodId} {args : Array Value} {below : List Frame} {meth : Method} {c : Code} {H : Heap} {locs : List Loc} {cells slots : Nat} {h0 : PH} {l0 loc : Nat → Nat → Nat} {a : Array Slot} {stk : List Value} {ar : Array Value}
    (hr : vx_Run p (gw_l G) e R s m args below meth c H locs cells slots mc ms (F0 m pc a stk) (st.map (pv_c loc)) (vv_Q G h loc Q' ar) (vv_X G h loc Q') (fun q => (gw_H G).size ≤ q))
    (C : vv_C G d k n y cc nL ret hh p R s m args meth c cells slots) (hk : k2 + mc = k) (hn : n2 + ms = n) (hE : hp_ext h0 l0 h loc) (hL : ∀ q ∈ locs, (gw_H G).size ≤ q.base) (hl : lv_ok loc a nL ls) (hs : ok_s h st) (ho : ok_l h ls)
    (K : ∀ r h1, Q' r h1 → vv_K G d k2 n2 y cc nL ret hh pc (pc + 3) ls st Q r h1) : W p (gw_l G) e R s m args below meth c H locs cells slots (vx_MQ below (vv_Q G h0 l0 Q) (vv_X G h0 l0 Q) args s R.cells R.slots (fun q => (gw_H G).size ≤ q)) (F0 m pc a stk) := by
  have C2 : vv_C G d k2 n2 y cc nL ret hh p R s m args meth c (cells + mc) (slots + ms) := by
    obtain ⟨c1, c2, c3, c4, c5, c6, c7, c8, c9, c10, c11, c12, c13, c14⟩ := C
    exact ⟨c1, c2, c3, c4, c5, c6, c7, c8, c9, c10, c11, c12, by omega, by omega⟩
  intro T hT X
  rcases hr T hT X with ⟨v, st₀, t, T', L, e0, X', hL', e1, e2, ⟨r, l1, h1, q1, q2, q3, q4, q5⟩, st9⟩ | ⟨q9, st₀, t, T', L, E, ce, e0, X', hL', e1, e2, ⟨l1, h1, q2, q3, q4⟩, x1, x2, x3, st9⟩
  · have hLL : ∀ q ∈ locs ++ L, (gw_H G).size ≤ q.base := fun q hq => (List.mem_append.mp hq).elim (hL q) (hL' q)
    obtain rfl : v = r.map (pv_c l1) := by cases q1; rfl
    obtain ⟨z1, z2⟩ := q4.s hs
    have K1 := K _ _ q2
    cases r with
    | none =>
      obtain ⟨t2, a1, b1⟩ := K1 p e R s m args below meth c T'.heap (locs ++ L) (cells + mc) (slots + ms) h0 l0 l1 a C2 (by rw [e1]; exact q3) (hE.trans q4) hLL (q4.lv ho hl) z2 (q4.l ho) T' rfl X'
      rw [z1] at a1
      exact ⟨t2, st9 t2 a1, b1⟩
    | some v =>
      obtain ⟨t2, a1, b1⟩ := K1 p e R s m args below meth c T'.heap (locs ++ L) (cells + mc) (slots + ms) h0 l0 l1 a C2 (by rw [e1]; exact q3) (hE.trans q4) hLL (q4.lv ho hl) ⟨q5 v rfl, z2⟩ (q4.l ho) T' rfl X'
      rw [List.map_cons, z1] at a1
      exact ⟨t2, st9 t2 a1, b1⟩
  · have hLL : ∀ q ∈ locs ++ L, (gw_H G).size ≤ q.base := fun q hq => (List.mem_append.mp hq).elim (hL q) (hL' q)
    have K1 := K _ _ q2
    obtain ⟨t2, a1, b1⟩ := K1 p e R s m args below meth c T'.heap (locs ++ L) (cells + mc) (slots + ms) h0 l0 l1 a _ q9 ce C2 (by rw [e1]; exact q3) (hE.trans q4) hLL (q4.lv ho hl) (q4.l ho) (by rw [e1]; exact x1) x2 x3 T' rfl X'
    exact ⟨t2, st9.trans a1, b1⟩
theorem vv_run5 {Q' : RS → PH → Prop} {mc ms k2 n2 : Nat} {p : Program} {e : Env} {R : Room} {s : State} {m : MethodId} {args : Array Value} {below : List Frame} {meth : Method} {c : Code} {H : Heap} {locs : List Loc} {cells slots : Nat} {h0 : PH} {l0 loc : Nat → Nat → Nat} {a : Array Slot} {stk : List Value} {ar : Array Value}
    (hr : vx_Run5 p (gw_l G) e R s m args below meth c H locs cells slots mc ms (F0 m pc a stk) (st.map (pv_c loc)) (vv_Q G h loc Q' ar) (vv_X G h loc Q') (fun q => (gw_H G).size ≤ q))
    (C : vv_C G d k n y cc nL ret hh p R s m args meth c cells slots) (hk : k2 + mc = k) (hn : n2 + ms = n) (hE : hp_ext h0 l0 h loc) (hL : ∀ q ∈ locs, (gw_H G).size ≤ q.base) (hl : lv_ok loc a nL ls) (hs : ok_s h st) (ho : ok_l h ls)
    (K : ∀ r h1, Q' r h1 → vv_K G d k2 n2 y cc nL ret hh pc (pc + 5) ls st Q r h1) : W p (gw_l G) e R s m args below meth c H locs cells slots (vx_MQ below (vv_Q G h0 l0 Q) (vv_X G h0 l0 Q) args s R.cells R.slots (fun q => (gw_H G).size ≤ q)) (F0 m pc a stk) := by
  have C2 : vv_C G d k2 n2 y cc nL ret hh p R s m args meth c (cells + mc) (slots + ms) := by
    obtain ⟨c1, c2, c3, c4, c5, c6, c7, c8, c9, c10, c11, c12, c13, c14⟩ := C
    exact ⟨c1, c2, c3, c4, c5, c6, c7, c8, c9, c10, c11, c12, by omega, by omega⟩
  intro T hT X
  rcases hr T hT X with ⟨v, st₀, t, T', L, e0, X', hL', e1, e2, ⟨r, l1, h1, q1, q2, q3, q4, q5⟩, st9⟩ | ⟨q9, st₀, t, T', L, E, ce, e0, X', hL', e1, e2, ⟨l1, h1, q2, q3, q4⟩, x1, x2, x3, st9⟩
  · have hLL : ∀ q ∈ locs ++ L, (gw_H G).size ≤ q.base := fun q hq => (List.mem_append.mp hq).elim (hL q) (hL' q)
    obtain rfl : v = r.map (pv_c l1) := by cases q1; rfl
    obtain ⟨z1, z2⟩ := q4.s hs
    have K1 := K _ _ q2
    cases r with
    | none =>
      obtain ⟨t2, a1, b1⟩ := K1 p e R s m args below meth c T'.heap (locs ++ L) (cells + mc) (slots + ms) h0 l0 l1 a C2 (by rw [e1]; exact q3) (hE.trans q4) hLL (q4.lv ho hl) z2 (q4.l ho) T' rfl X'
      rw [z1] at a1
      exact ⟨t2, st9 t2 a1, b1⟩
    | some v =>
      obtain ⟨t2, a1, b1⟩ := K1 p e R s m args below meth c T'.heap (locs ++ L) (cells + mc) (slots + ms) h0 l0 l1 a C2 (by rw [e1]; exact q3) (hE.trans q4) hLL (q4.lv ho hl) ⟨q5 v rfl, z2⟩ (q4.l ho) T' rfl X'
      rw [List.map_cons, z1] at a1
      exact ⟨t2, st9 t2 a1, b1⟩
  · have hLL : ∀ q ∈ locs ++ L, (gw_H G).size ≤ q.base := fun q hq => (List.mem_append.mp hq).elim (hL q) (hL' q)
    have K1 := K _ _ q2
    obtain ⟨t2, a1, b1⟩ := K1 p e R s m args below meth c T'.heap (locs ++ L) (cells + mc) (slots + ms) h0 l0 l1 a _ q9 ce C2 (by rw [e1]; exact q3) (hE.trans q4) hLL (q4.lv ho hl) (q4.l ho) (by rw [e1]; exact x1) x2 x3 T' rfl X'
    exact ⟨t2, st9.trans a1, b1⟩
/-- what the tables say of a method that is called by its own name -/
def md_ok (y : MethodName) (cc : ByteArray) (nL : Nat) (ret : Option FieldType) (na : Nat) : Prop := Cond.code y cc nL ret ∈ g_ws ∧ Cond.initialized y.cls ∈ g_ws ∧ plainName y.cls = true ∧ (y.cls ≠ "java/lang/invoke/MethodHandle" ∧ y.cls ≠ "java/lang/invoke/VarHandle") ∧ (parseMethodDescriptor y.desc).map (fun d => d.parameters.length) = some na ∧ nL ≤ 21
def mt_ok (own : String) (ix : Nat) (y : MethodName) (cc : ByteArray) (nL : Nat) (ret : Option FieldType) (na : Nat) : Prop := Cond.methodLink own ix y ∈ g_ws ∧ md_ok y cc nL ret na

theorem g_good {s : State} {args : Array Value} (hts : ∀ w ∈ g_ws, w.before args s = true) : ∀ w ∈ g_ws, ∀ (a' : Array Value) (U : State), s.WarmedH U.vm → w.before a' U = true := fun w hw a' U hW => word_at hW (good_of_word (List.mem_filter.mp hw).2) (hts w hw)
theorem g_sig {y : MethodName} {na : Nat} (h9 : (parseMethodDescriptor y.desc).map (fun d => d.parameters.length) = some na) : ∀ sig, parseMethodDescriptor y.desc = some sig → na = sig.parameters.length := fun sig h => by
  rw [h] at h9
  exact (Option.some.inj h9).symm
theorem vv_cb {y' : MethodName} {cc' : ByteArray} {nL' na ix d' k' n' : Nat} {ret' : Option FieldType} {p : Program} {R : Room} {s : State} {m : MethodId} {args : Array Value} {meth : Method} {c : Code} {cells slots : Nat} (C : vv_C G d k n y cc nL ret hh p R s m args meth c cells slots) (hm : mt_ok y.cls ix y' cc' nL' ret' na) (hd : d' + 1 ≤ d) : CallB R s args y.cls ix y' cc' nL' ret' (Cond.code y' cc' nL' ret' :: g_ws) (vv_R d' k' n') k' n' na := by
  obtain ⟨m1, m2, m3, m4, m5, m6, m7⟩ := hm
  obtain ⟨c1, c2, c3, c4, c5, c6, c7, c8, c9, c10, c11, c12, c13, c14⟩ := C
  refine ⟨rfl, rfl, by show d' + 1 ≤ _; omega, by show 8 + (nL' + 11) + 40 * d' ≤ _; omega, fun w hw => ?_, List.mem_cons_self, c8 _ m2, c8 _ m3, m5, g_sig m6, c8 _ m1⟩
  rcases List.mem_cons.mp hw with rfl | hw
  · exact g_good c8 _ m2
  · exact g_good c8 _ hw
theorem vv_cn {y' : MethodName} {cc' : ByteArray} {nL' na ix d' k' n' : Nat} {ret' : Option FieldType} {host : String} {p : Program} {R : Room} {s : State} {m : MethodId} {args : Array Value} {meth : Method} {c : Code} {cells slots : Nat} (C : vv_C G d k n y cc nL ret hh p R s m args meth c cells slots) (hl : Cond.methodLinkNest y.cls ix y' host ∈ g_nw) (hm : md_ok y' cc' nL' ret' na) (hd : d' + 1 ≤ d) : va_CN R s args y.cls ix y' host cc' nL' ret' (Cond.code y' cc' nL' ret' :: g_ws) (vv_R d' k' n') k' n' na := by
  obtain ⟨m2, m3, m4, m5, m6, m7⟩ := hm
  obtain ⟨c1, c2, c3, c4, c5, c6, c7, c8, c9, c10, c11, c12, c13, c14⟩ := C
  refine ⟨⟨rfl, rfl, by show d' + 1 ≤ _; omega, by show 8 + (nL' + 11) + 40 * d' ≤ _; omega, fun w hw => ?_, List.mem_cons_self⟩, c8 _ m2, c8 _ m3, m5, g_sig m6, va_Nw.use rfl (c10.1.2.2.2.2.2.2.2.1 _ hl)⟩
  rcases List.mem_cons.mp hw with rfl | hw
  · exact g_good c8 _ m2
  · exact g_good c8 _ hw
theorem vv_pre {as : List PV} {s : State} {loc : Nat → Nat → Nat} {H : Heap} (hR : hp_Rep G loc h H) (hW : w_ok G s) (hok : ok_s h as) : ∀ U : State, U.heap = H → s.WarmedH U.vm → vv_P G loc h as (as.map (pv_c loc)).toArray U := fun U hU hWU => ⟨rfl, by rw [hU]; exact hR, hW.warm hWU, hok⟩
theorem ok_rev {a b : List PV} (h0 : ok_s h (a.reverse ++ b)) : ok_s h a ∧ ok_s h b := by
  have app : ∀ x z : List PV, ok_s h (x ++ z) ↔ ok_s h x ∧ ok_s h z := by
    intro x z
    induction x with
    | nil => exact ⟨fun q => ⟨trivial, q⟩, fun q => q.2⟩
    | cons v l ih => exact ⟨fun q => ⟨⟨q.1, (ih.mp q.2).1⟩, (ih.mp q.2).2⟩, fun q => ⟨q.1.1, ih.mpr ⟨q.1.2, q.2⟩⟩⟩
  obtain ⟨h1, h2⟩ := (app _ _).mp h0
  refine ⟨?_, h2⟩
  clear h0 h2
  induction a with
  | nil => trivial
  | cons v l ih =>
    rw [List.reverse_cons] at h1
    obtain ⟨h3, h4⟩ := (app _ _).mp h1
    exact ⟨h4.1, ih h3⟩
theorem v_invs {y' : MethodName} {cc' : ByteArray} {nL' na ix d' k' n' k2 n2 : Nat} {ret' : Option FieldType} {ls' : List (Option PV)} (q : Nat) (as : List PV) (hd : decode cc pc = .ok (.invokestatic ix, 3)) (hm : mt_ok y.cls ix y' cc' nL' ret' na) (hs9 : Cond.static y' ∈ g_ws) (hna : as.length = na) (hls : vv_en nL' as = ls') (hfl : (vv_fl as).length ≤ nL') (hst : g_fit st = true) (hd' : d' + 1 ≤ d) (hk : k2 + k' = k) (hn : n2 + n' = n) (hq : pc + 3 = q) {stk : List PV} (hstk : as.reverse ++ st = stk)
    (K : VV G d' k' n' y' cc' nL' ret' [] 0 ls' [] h (vv_K G d k2 n2 y cc nL ret hh pc q ls st Q)) : VV G d k n y cc nL ret hh pc ls stk h Q := by
  intro p e R s m args below meth c H locs cells slots h0 l0 loc a C hR hE hL hl hs ho
  subst hq
  subst hls
  subst hstk
  obtain ⟨oka, oks⟩ := ok_rev hs
  have hcb := vv_cb (k' := k') (n' := n') C hm hd'
  have hstat := C.2.2.2.2.2.2.2.1 _ hs9
  have hroom : cells + k' ≤ R.cells ∧ slots + n' ≤ R.slots := by
    have h1 := C.2.2.2.2.2.2.2.2.2.2.2.2.1
    have h2 := C.2.2.2.2.2.2.2.2.2.2.2.2.2
    omega
  refine vv_run (ar := (as.map (pv_c loc)).toArray) (vx_runS (As := as.map (pv_c loc)) (rest := st.map (pv_c loc)) ⟨C.1, C.2.1, C.2.2.1, C.2.2.2.2.2.2.1, C.2.2.2.2.2.2.2.1⟩ (vv_met (loc := loc) (as := as) hm.2.2.2.1 hfl K) ⟨hcb, hstat⟩ ⟨vv_blind, vv_pre hR C.2.2.2.2.2.2.2.2.2.1.1 oka⟩ rfl (by rw [List.length_map]; exact hna) hl.1 (by rw [List.map_append, List.map_reverse]) ?_ hd hroom) C hk hn hE hL hl oks ho (fun _ _ h9 => h9)
  rw [hp_cats, show JFrame.monitorRoom _ = 0 from rfl, Nat.mul_zero, Nat.zero_add]
  exact of_decide_eq_true hst
theorem v_invsN {y' : MethodName} {cc' : ByteArray} {nL' na ix d' k' n' k2 n2 : Nat} {ret' : Option FieldType} {host : String} {ls' : List (Option PV)} (q : Nat) (as : List PV) (hd : decode cc pc = .ok (.invokestatic ix, 3)) (hl9 : Cond.methodLinkNest y.cls ix y' host ∈ g_nw) (hm : md_ok y' cc' nL' ret' na) (hs9 : Cond.static y' ∈ g_ws) (hna : as.length = na) (hls : vv_en nL' as = ls') (hfl : (vv_fl as).length ≤ nL') (hst : g_fit st = true) (hd' : d' + 1 ≤ d) (hk : k2 + k' = k) (hn : n2 + n' = n) (hq : pc + 3 = q) {stk : List PV} (hstk : as.reverse ++ st = stk)
    (K : VV G d' k' n' y' cc' nL' ret' [] 0 ls' [] h (vv_K G d k2 n2 y cc nL ret hh pc q ls st Q)) : VV G d k n y cc nL ret hh pc ls stk h Q := by
  intro p e R s m args below meth c H locs cells slots h0 l0 loc a C hR hE hL hl hs ho
  subst hq
  subst hls
  subst hstk
  obtain ⟨oka, oks⟩ := ok_rev hs
  have hcb := vv_cn (k' := k') (n' := n') C hl9 hm hd'
  have hstat := C.2.2.2.2.2.2.2.1 _ hs9
  have hroom : cells + k' ≤ R.cells ∧ slots + n' ≤ R.slots := by
    have h1 := C.2.2.2.2.2.2.2.2.2.2.2.2.1
    have h2 := C.2.2.2.2.2.2.2.2.2.2.2.2.2
    omega
  refine vv_run (ar := (as.map (pv_c loc)).toArray) (vx_runSN (As := as.map (pv_c loc)) (rest := st.map (pv_c loc)) ⟨C.1, C.2.1, C.2.2.1, C.2.2.2.2.2.2.1, C.2.2.2.2.2.2.2.1⟩ (vv_met (loc := loc) (as := as) hm.2.2.1 hfl K) ⟨hcb, hstat, trivial⟩ ⟨vv_blind, vv_pre hR C.2.2.2.2.2.2.2.2.2.1.1 oka⟩ rfl (by rw [List.length_map]; exact hna) hl.1 (by rw [List.map_append, List.map_reverse]) ?_ hd hroom) C hk hn hE hL hl oks ho (fun _ _ h9 => h9)
  rw [hp_cats, show JFrame.monitorRoom _ = 0 from rfl, Nat.mul_zero, Nat.zero_add]
  exact of_decide_eq_true hst
theorem v_invv {y' : MethodName} {cc' : ByteArray} {nL' na ix d' k' n' k2 n2 : Nat} {ret' : Option FieldType} {ls' : List (Option PV)} {t i ci : Nat} {z : vw_C} (q : Nat) (as : List PV) (hd : decode cc pc = .ok (.invokevirtual ix, 3)) (hm : mt_ok y.cls ix y' cc' nL' ret' na) (hi9 : Cond.instanceMethod y' ∈ g_ws) (hs9 : Cond.selects z.1 y' y' ∈ g_ws) (hk9 : tg_k t = some (.inl ci)) (hc9 : g_cl[ci]? = some z) (hna : as.length = na) (hls : vv_en nL' (pv_O (t, i) :: as) = ls') (hfl : (vv_fl (pv_O (t, i) :: as)).length ≤ nL') (hst : g_fit st = true) (hd' : d' + 1 ≤ d) (hk : k2 + k' = k) (hn : n2 + n' = n) (hq : pc + 3 = q) {stk : List PV} (hstk : as.reverse ++ (pv_O (t, i) :: st) = stk)
    (K : VV G d' k' n' y' cc' nL' ret' [] 0 ls' [] h (vv_K G d k2 n2 y cc nL ret hh pc q ls st Q)) : VV G d k n y cc nL ret hh pc ls stk h Q := by
  intro p e R s m args below meth c H locs cells slots h0 l0 loc a C hR hE hL hl hs ho
  subst hq
  subst hls
  subst hstk
  obtain ⟨oka, oks⟩ := ok_rev hs
  have ha : hp_al h t i = true := hp_al_of oks.1 hk9
  have hroom : cells + k' ≤ R.cells ∧ slots + n' ≤ R.slots := by
    have h1 := C.2.2.2.2.2.2.2.2.2.2.2.2.1
    have h2 := C.2.2.2.2.2.2.2.2.2.2.2.2.2
    omega
  have hpre := vv_pre (as := pv_O (t, i) :: as) hR C.2.2.2.2.2.2.2.2.2.1.1 ⟨oks.1, oka⟩
  rw [List.map_cons, hp_ref hk9] at hpre
  skip
  refine vv_run (ar := (Value.ref (loc t i) :: as.map (pv_c loc)).toArray) (vx_runV (C := z.1) (b := loc t i) (As := as.map (pv_c loc)) (rest := st.map (pv_c loc)) ⟨C.1, C.2.1, C.2.2.1, C.2.2.2.2.2.2.1, C.2.2.2.2.2.2.2.1⟩ (vv_met (loc := loc) (as := pv_O (t, i) :: as) hm.2.2.2.1 hfl K) ⟨vv_cb (k' := k') (n' := n') C hm hd', C.2.2.2.2.2.2.2.1 _ hi9, C.2.2.2.2.2.2.2.1 _ hs9⟩ ⟨vv_blind, hp_recv hR C.2.2.2.2.2.2.2.2.2.1.1 ha hk9 hc9, hpre⟩ rfl (by rw [List.length_map]; exact hna) hl.1 (by rw [List.map_append, List.map_reverse, List.map_cons, hp_ref hk9]) ?_ hd hroom) C hk hn hE hL hl oks.2 ho (fun _ _ h9 => h9)
  rw [hp_cats, show JFrame.monitorRoom _ = 0 from rfl, Nat.mul_zero, Nat.zero_add]
  exact of_decide_eq_true hst
theorem v_invi {y' : MethodName} {cc' : ByteArray} {nL' na ix d' k' n' k2 n2 : Nat} {ret' : Option FieldType} {ls' : List (Option PV)} {t i : Nat} {z9 : Nat ⊕ FieldType} (q : Nat) (as : List PV) (hd : decode cc pc = .ok (.invokespecial ix, 3)) (hm : mt_ok y.cls ix y' cc' nL' none na) (hi9 : Cond.instanceMethod y' ∈ g_ws) (hr9 : ret' = none) (hnm : y'.name = "<init>") (hk9 : tg_k t = some z9) (hna : as.length = na) (hls : vv_en nL' (pv_O (t, i) :: as) = ls') (hfl : (vv_fl (pv_O (t, i) :: as)).length ≤ nL') (hst : g_fit st = true) (hd' : d' + 1 ≤ d) (hk : k2 + k' = k) (hn : n2 + n' = n) (hq : pc + 3 = q) {stk : List PV} (hstk : as.reverse ++ (pv_O (t, i) :: st) = stk)
    (K : VV G d' k' n' y' cc' nL' ret' [] 0 ls' [] h (vv_K G d k2 n2 y cc nL ret hh pc q ls st Q)) : VV G d k n y cc nL ret hh pc ls stk h Q := by
  intro p e R s m args below meth c H locs cells slots h0 l0 loc a C hR hE hL hl hs ho
  subst hq
  subst hls
  subst hstk
  obtain ⟨oka, oks⟩ := ok_rev hs
  have ha : hp_al h t i = true := hp_al_of oks.1 hk9
  have hroom : cells + k' ≤ R.cells ∧ slots + n' ≤ R.slots := by
    have h1 := C.2.2.2.2.2.2.2.2.2.2.2.2.1
    have h2 := C.2.2.2.2.2.2.2.2.2.2.2.2.2
    omega
  have hpre := vv_pre (as := pv_O (t, i) :: as) hR C.2.2.2.2.2.2.2.2.2.1.1 ⟨oks.1, oka⟩
  rw [List.map_cons, hp_ref hk9] at hpre
  subst hr9
  refine vv_run (ar := (Value.ref (loc t i) :: as.map (pv_c loc)).toArray) (vx_runI (b := loc t i) (As := as.map (pv_c loc)) (rest := st.map (pv_c loc)) ⟨C.1, C.2.1, C.2.2.1, C.2.2.2.2.2.2.1, C.2.2.2.2.2.2.2.1⟩ (vv_met (loc := loc) (as := pv_O (t, i) :: as) hm.2.2.2.1 hfl K) ⟨vv_cb (k' := k') (n' := n') C hm hd', hnm, C.2.2.2.2.2.2.2.1 _ hi9⟩ ⟨vv_blind, hpre⟩ rfl (by rw [List.length_map]; exact hna) hl.1 (by rw [List.map_append, List.map_reverse, List.map_cons, hp_ref hk9]) ?_ hd hroom) C hk hn hE hL hl oks.2 ho (fun _ _ h9 => h9)
  rw [hp_cats, show JFrame.monitorRoom _ = 0 from rfl, Nat.mul_zero, Nat.zero_add]
  exact of_decide_eq_true hst
theorem v_inviN {y' : MethodName} {cc' : ByteArray} {nL' na ix d' k' n' k2 n2 : Nat} {ret' : Option FieldType} {ls' : List (Option PV)} {t i : Nat} {z9 : Nat ⊕ FieldType} (q : Nat) (as : List PV) (hd : decode cc pc = .ok (.invokespecial ix, 3)) {host : String} (hl9 : Cond.methodLinkNest y.cls ix y' host ∈ g_nw) (hm : md_ok y' cc' nL' none na) (hi9 : Cond.instanceMethod y' ∈ g_ws) (hr9 : ret' = none) (hnm : y'.name = "<init>") (hk9 : tg_k t = some z9) (hna : as.length = na) (hls : vv_en nL' (pv_O (t, i) :: as) = ls') (hfl : (vv_fl (pv_O (t, i) :: as)).length ≤ nL') (hst : g_fit st = true) (hd' : d' + 1 ≤ d) (hk : k2 + k' = k) (hn : n2 + n' = n) (hq : pc + 3 = q) {stk : List PV} (hstk : as.reverse ++ (pv_O (t, i) :: st) = stk)
    (K : VV G d' k' n' y' cc' nL' ret' [] 0 ls' [] h (vv_K G d k2 n2 y cc nL ret hh pc q ls st Q)) : VV G d k n y cc nL ret hh pc ls stk h Q := by
  intro p e R s m args below meth c H locs cells slots h0 l0 loc a C hR hE hL hl hs ho
  subst hq
  subst hls
  subst hstk
  obtain ⟨oka, oks⟩ := ok_rev hs
  have ha : hp_al h t i = true := hp_al_of oks.1 hk9
  have hroom : cells + k' ≤ R.cells ∧ slots + n' ≤ R.slots := by
    have h1 := C.2.2.2.2.2.2.2.2.2.2.2.2.1
    have h2 := C.2.2.2.2.2.2.2.2.2.2.2.2.2
    omega
  have hpre := vv_pre (as := pv_O (t, i) :: as) hR C.2.2.2.2.2.2.2.2.2.1.1 ⟨oks.1, oka⟩
  rw [List.map_cons, hp_ref hk9] at hpre
  subst hr9
  refine vv_run (ar := (Value.ref (loc t i) :: as.map (pv_c loc)).toArray) (vx_runIN (host := host) (b := loc t i) (As := as.map (pv_c loc)) (rest := st.map (pv_c loc)) ⟨C.1, C.2.1, C.2.2.1, C.2.2.2.2.2.2.1, C.2.2.2.2.2.2.2.1⟩ (vv_met (loc := loc) (as := pv_O (t, i) :: as) hm.2.2.1 hfl K) ⟨vv_cn (k' := k') (n' := n') C hl9 hm hd', hnm, C.2.2.2.2.2.2.2.1 _ hi9⟩ ⟨vv_blind, hpre⟩ rfl (by rw [List.length_map]; exact hna) hl.1 (by rw [List.map_append, List.map_reverse, List.map_cons, hp_ref hk9]) ?_ hd hroom) C hk hn hE hL hl oks.2 ho (fun _ _ h9 => h9)
  rw [hp_cats, show JFrame.monitorRoom _ = 0 from rfl, Nat.mul_zero, Nat.zero_add]
  exact of_decide_eq_true hst
theorem v_invf {y' : MethodName} {cc' : ByteArray} {nL' na ix d' k' n' k2 n2 : Nat} {ret' : Option FieldType} {ls' : List (Option PV)} {t i ci cnt : Nat} {z : vw_C} {x' : MethodName} (q : Nat) (as : List PV) (hd : decode cc pc = .ok (.invokeinterface ix cnt, 5)) (hl9 : Cond.methodLink y.cls ix x' ∈ g_ws) (hm : md_ok y' cc' nL' ret' na) (hi9 : Cond.instanceMethod y' ∈ g_ws) (hs9 : Cond.selects z.1 x' y' ∈ g_ws) (hf9 : (z.1, x', y') ∈ g_fw) (hx9 : (x'.cls ≠ "java/lang/invoke/MethodHandle" ∧ x'.cls ≠ "java/lang/invoke/VarHandle") ∧ (parseMethodDescriptor x'.desc).map (fun d => d.parameters.length) = some na) (hk9 : tg_k t = some (.inl ci)) (hc9 : g_cl[ci]? = some z) (hna : as.length = na) (hls : vv_en nL' (pv_O (t, i) :: as) = ls') (hfl : (vv_fl (pv_O (t, i) :: as)).length ≤ nL') (hst : g_fit st = true) (hd' : d' + 1 ≤ d) (hk : k2 + k' = k) (hn : n2 + n' = n) (hq : pc + 5 = q) {stk : List PV} (hstk : as.reverse ++ (pv_O (t, i) :: st) = stk)
    (K : VV G d' k' n' y' cc' nL' ret' [] 0 ls' [] h (vv_K G d k2 n2 y cc nL ret hh pc q ls st Q)) : VV G d k n y cc nL ret hh pc ls stk h Q := by
  intro p e R s m args below meth c H locs cells slots h0 l0 loc a C hR hE hL hl hs ho
  subst hq
  subst hls
  subst hstk
  obtain ⟨oka, oks⟩ := ok_rev hs
  have ha : hp_al h t i = true := hp_al_of oks.1 hk9
  have hroom : cells + k' ≤ R.cells ∧ slots + n' ≤ R.slots := by
    have h1 := C.2.2.2.2.2.2.2.2.2.2.2.2.1
    have h2 := C.2.2.2.2.2.2.2.2.2.2.2.2.2
    omega
  have hpre := vv_pre (as := pv_O (t, i) :: as) hR C.2.2.2.2.2.2.2.2.2.1.1 ⟨oks.1, oka⟩
  rw [List.map_cons, hp_ref hk9] at hpre
  have hci : va_CI R s args y.cls z.1 ix x' y' cc' nL' ret' (Cond.code y' cc' nL' ret' :: g_ws) (vv_R d' k' n') k' n' na := by
    obtain ⟨m2, m3, m4, m5, m6, m7⟩ := hm
    obtain ⟨c1, c2, c3, c4, c5, c6, c7, c8, c9, c10, c11, c12, c13, c14⟩ := id C
    obtain ⟨f1, f2, f3, f4, f5⟩ := c10.1.2.2.2.2.2.2.2.2.1 _ hf9
    refine ⟨⟨rfl, rfl, by show d' + 1 ≤ _; omega, by show 8 + (nL' + 11) + 40 * d' ≤ _; omega, fun w hw => ?_, List.mem_cons_self⟩, c8 _ hl9, va_any rfl f1, va_any rfl f2, c8 _ hs9, c8 _ hi9, va_any rfl f3, va_any rfl f4, va_any rfl f5, c8 _ m3, c8 _ m2, hx9.1, g_sig hx9.2⟩
    rcases List.mem_cons.mp hw with rfl | hw
    · exact g_good c8 _ m2
    · exact g_good c8 _ hw
  refine vv_run5 (ar := (Value.ref (loc t i) :: as.map (pv_c loc)).toArray) (vx_runF (x := x') (C := z.1) (cC := (gw_D G).1 ci) (b := loc t i) (As := as.map (pv_c loc)) (rest := st.map (pv_c loc)) ((C.2.2.2.2.2.2.2.2.2.1.1).1.1 ci _ hc9).2 ⟨C.1, C.2.1, C.2.2.1, C.2.2.2.2.2.2.1, C.2.2.2.2.2.2.2.1⟩ (vv_met (loc := loc) (as := pv_O (t, i) :: as) hm.2.2.1 hfl K) hci ⟨vv_blind, hp_recv hR C.2.2.2.2.2.2.2.2.2.1.1 ha hk9 hc9, hpre⟩ rfl (by rw [List.length_map]; exact hna) hl.1 (by rw [List.map_append, List.map_reverse, List.map_cons, hp_ref hk9]) ?_ hd hroom) C hk hn hE hL hl oks.2 ho (fun _ _ h9 => h9)
  rw [hp_cats, show JFrame.monitorRoom _ = 0 from rfl, Nat.mul_zero, Nat.zero_add]
  exact of_decide_eq_true hst
end VVC
