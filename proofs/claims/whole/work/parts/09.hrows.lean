section VVH
variable {G : GW} {d k n : Nat} {y : MethodName} {cc : ByteArray} {nL : Nat} {ret : Option FieldType} {hh : List (Nat × Nat × Nat × Nat)} {pc : Nat} {ls : List (Option PV)} {st : List PV} {h : PH} {Q : RS → PH → Prop}
def fl_ok (own : String) (ix ci kf : Nat) : Prop := ∃ q, g_cl[ci]? = some q ∧ kf < q.2.2 ∧ (Cond.fieldLink own ix (q.2.1 kf).1 (q.2.1 kf).2.1 (q.2.1 kf).2.2.1 ∈ g_ws ∨ (∃ host, Cond.fieldLinkNest own ix (q.2.1 kf).1 (q.2.1 kf).2.1 (q.2.1 kf).2.2.1 host ∈ g_nw) ∨ ∃ rf, Cond.fieldLink own ix rf (q.2.1 kf).2.1 (q.2.1 kf).2.2.1 ∈ g_ws ∧ Cond.sameField rf (q.2.1 kf).1 (q.2.1 kf).2.1 (q.2.1 kf).2.2.1 ∈ g_ws)
theorem v_getf {t i ix ci kf : Nat} {v : PV} (q : Nat) (hd : decode cc pc = .ok (.getfield ix, 3)) (hf : fl_ok y.cls ix ci kf) (hk : tg_k t = some (.inl ci)) (hv : ∀ loc, hp_sv loc h t i kf (g_ty ci kf) = pv_c loc v) (hov : (∀ r, hp_al h t i = true → ok_r h (hp_vr h t i r)) → ok_v h v) (hq : pc + 3 = q) (K : VV G d k n y cc nL ret hh q ls (v :: st) h Q) : VV G d k n y cc nL ret hh pc ls (pv_O (t, i) :: st) h Q := by
  intro p e R s m args below meth c H locs cells slots h0 l0 loc a C hR hE hL hl hs ho
  subst hq
  have ha : hp_al h t i = true := hp_al_of hs.1 hk
  obtain ⟨z, hc, hkN, hlk⟩ := hf
  obtain ⟨cell, q1, q2, q3, q4⟩ := hp_obj hR ha hk hc
  have hts := C.2.2.2.2.2.2.2.1
  obtain ⟨hS, hfc, kC, hkC, hkind⟩ := C.2.2.2.2.2.2.2.2.2.1.1.1.1 ci _ hc
  obtain ⟨cf, kf9, fi, f, hi, hsl⟩ := hS kf hkN
  have hst := (u_facts hfc hkC (u_lays hts (g_in hc) hkN) hi).1
  have hsv : cell.slots[f.slot]? = some (pv_c loc v) := by rw [hsl, q4 kf hkN]; exact congrArg some (hv loc)
  have K9 := K p e R s m args below meth c H locs cells slots h0 l0 loc a C hR hE hL hl ⟨hov (fun r h9 => hR.2.2.2.2.2.1 t i r h9), hs.2⟩ ho
  show W p (gw_l G) e R s m args below meth c H locs cells slots _ (F0 m pc a (pv_c loc (pv_O (t, i)) :: st.map (pv_c loc)))
  rw [hp_ref hk]
  rcases hlk with hlk | ⟨host, hlk⟩ | ⟨rf, hlk, hsf⟩
  · exact W.getf C.1 C.2.1 C.2.2.2.2.2.2.1 (hts _ hlk) hi hst q1 q3.1 hsv rfl rfl hd K9
  · exact va_Wgetf C.1 C.2.1 C.2.2.2.2.2.2.1 (va_Nw.use rfl (C.2.2.2.2.2.2.2.2.2.1.1.2.2.2.2.2.2.2.1 _ hlk)) hi hst q1 q3.1 hsv rfl rfl hd K9
  · exact W.getf C.1 C.2.1 C.2.2.2.2.2.2.1 (hts _ hlk) (u_same (hts _ hsf) _ hi) hst q1 q3.1 hsv rfl rfl hd K9
theorem v_getfi {t i ix ci kf : Nat} (q : Nat) (hd : decode cc pc = .ok (.getfield ix, 3)) (hf : fl_ok y.cls ix ci kf) (hk : tg_k t = some (.inl ci)) (hty : sv_i (g_ty ci kf) = true) (hq : pc + 3 = q) (K : VV G d k n y cc nL ret hh q ls (pv_I (hp_vi h t i kf) :: st) h Q) : VV G d k n y cc nL ret hh pc ls (pv_O (t, i) :: st) h Q :=
  v_getf q hd hf hk (v := pv_I (hp_vi h t i kf)) (fun loc => sv_int hty) (fun _ => trivial) hq K
theorem v_getfr {t i ix ci kf : Nat} (q : Nat) (hd : decode cc pc = .ok (.getfield ix, 3)) (hf : fl_ok y.cls ix ci kf) (hk : tg_k t = some (.inl ci)) (hty : sv_r (g_ty ci kf) = true) (hq : pc + 3 = q) (K : VV G d k n y cc nL ret hh q ls (pv_O (hp_vr h t i kf) :: st) h Q) : VV G d k n y cc nL ret hh pc ls (pv_O (t, i) :: st) h Q := by
  intro p e R s m args below meth c H locs cells slots h0 l0 loc a C hR hE hL hl hs ho
  have ha : hp_al h t i = true := hp_al_of hs.1 hk
  exact v_getf q hd hf hk (v := pv_O (hp_vr h t i kf)) (fun loc => sv_ref hty) (fun h9 => h9 kf ha) hq K p e R s m args below meth c H locs cells slots h0 l0 loc a C hR hE hL hl hs ho
def pf_ok (y : MethodName) (ix ci kf : Nat) : Prop := ∃ q, g_cl[ci]? = some q ∧ kf < q.2.2 ∧ (((q.2.1 kf).2.2.2 = false ∧ (Cond.fieldLink y.cls ix (q.2.1 kf).1 (q.2.1 kf).2.1 (q.2.1 kf).2.2.1 ∈ g_ws ∨ (∃ host, Cond.fieldLinkNest y.cls ix (q.2.1 kf).1 (q.2.1 kf).2.1 (q.2.1 kf).2.2.1 host ∈ g_nw) ∨ ∃ rf, Cond.fieldLink y.cls ix rf (q.2.1 kf).2.1 (q.2.1 kf).2.2.1 ∈ g_ws ∧ Cond.sameField rf (q.2.1 kf).1 (q.2.1 kf).2.1 (q.2.1 kf).2.2.1 ∈ g_ws)) ∨ ((q.2.1 kf).2.2.2 = true ∧ y.name = "<init>" ∧ (q.2.1 kf).1 = y.cls ∧ Cond.fieldLink y.cls ix (q.2.1 kf).1 (q.2.1 kf).2.1 (q.2.1 kf).2.2.1 ∈ g_ws))
theorem v_putf {t i ix ci kf : Nat} {v : PV} {h1 : PH} (q : Nat) (hd : decode cc pc = .ok (.putfield ix, 3)) (hf : pf_ok y ix ci kf) (hk : tg_k t = some (.inl ci)) (h10 : 10 ≤ t)
    (hn : ∀ loc, narrow (g_ty ci kf) (pv_c loc v) = pv_c loc v) (hft : ∀ loc, fits (g_ty ci kf) (pv_c loc v) = true)
    (ea : ∀ u j, hp_al h1 u j = hp_al h u j) (el : ∀ u j, hp_ln h1 u j = hp_ln h u j)
    (eo : ∀ u j, ¬ (u = t ∧ j = i) → ∀ k, hp_vi h1 u j k = hp_vi h u j k ∧ hp_vr h1 u j k = hp_vr h u j k ∧ hp_vl h1 u j k = hp_vl h u j k ∧ hp_vd h1 u j k = hp_vd h u j k)
    (e2 : ∀ loc k, k ≠ kf → hp_sv loc h1 t i k (g_ty ci k) = hp_sv loc h t i k (g_ty ci k)) (e3 : ∀ loc, hp_sv loc h1 t i kf (g_ty ci kf) = pv_c loc v)
    (e4 : ok_v h v → ∀ k, ok_r h (hp_vr h t i k) → ok_r h (hp_vr h1 t i k))
    (hq : pc + 3 = q) (K : VV G d k n y cc nL ret hh q ls st h1 Q) : VV G d k n y cc nL ret hh pc ls (v :: pv_O (t, i) :: st) h Q := by
  intro p e R s m args below meth c H locs cells slots h0 l0 loc a C hR hE hL hl hs ho
  subst hq
  have ha : hp_al h t i = true := hp_al_of hs.2.1 hk
  obtain ⟨z, hc, hkN, hlk⟩ := hf
  obtain ⟨cell, q1, q2, q3, q4⟩ := hp_obj hR ha hk hc
  have hts := C.2.2.2.2.2.2.2.1
  have hap := va_apart (own := y.cls) hts (g_in hc) (g_ty ci) (g_tyk ci z hc) (g_nm ci z hc) C.2.2.2.2.2.2.2.2.2.1.1.1 hc
  obtain ⟨hS, hfc, kC, hkC, hkind⟩ := C.2.2.2.2.2.2.2.2.2.1.1.1.1 ci _ hc
  obtain ⟨cf, kf9, fi, f, hi, hsl⟩ := hS kf hkN
  have hst := (u_facts hfc hkC (u_lays hts (g_in hc) hkN) hi).1
  have hdk := g_tyk ci z hc kf hkN
  have hlt : f.slot < cell.slots.size := by rw [hsl]; exact k2_hasslot (q4 kf hkN)
  have fin : ∀ H1 : Heap, H1[loc t i]? = some (cell.setSlot f.slot (pv_c loc v)) → H1.size = H.size → (∀ q, q ≠ loc t i → H1[q]? = H[q]?) → W p (gw_l G) e R s m args below meth c H1 (locs ++ [⟨loc t i, f.slot⟩]) cells slots (vx_MQ below (vv_Q G h0 l0 Q) (vv_X G h0 l0 Q) args s R.cells R.slots (fun q => (gw_H G).size ≤ q)) (F0 m (pc + 3) a (st.map (pv_c loc))) := by
    intro H1 x1 x2 x3
    have hal1 : ∀ u j, hp_al h u j = true → hp_al h1 u j = true := fun u j hu => by rw [ea]; exact hu
    refine K p e R s m args below meth c H1 _ cells slots h0 l0 loc a C ?_ (fun u j hu => ⟨hal1 _ _ (hE u j hu).1, (hE u j hu).2⟩) ?_ hl (hs.2.2.to hal1) (ho.to hal1)
    · refine hR.upd ea el eo ha h10 ?_ x2 x3 (fun k => e4 hs.1 k (hR.2.2.2.2.2.1 t i k ha))
      unfold hp_at
      rw [hk]
      refine ⟨z, hc, _, x1, q2, q3, fun j hj => ?_⟩
      rw [hsl, t_set q4 hap hkN _ j hj]
      by_cases c9 : j = kf
      · subst c9
        show some (updV _ _ _ _) = _
        rw [updV, if_pos rfl]
        exact congrArg some (e3 loc).symm
      · rw [updV, if_neg c9]
        exact congrArg some (e2 loc j c9).symm
    · intro q hq
      rcases List.mem_append.mp hq with hq | hq
      · exact hL q hq
      · rw [List.mem_singleton.mp hq]
        exact (hR.2.2.1 t i ha).1 h10
  show W p (gw_l G) e R s m args below meth c H locs cells slots _ (F0 m pc a (pv_c loc v :: pv_c loc (pv_O (t, i)) :: st.map (pv_c loc)))
  rw [hp_ref hk]
  rcases hlk with ⟨hfin, hlk⟩ | ⟨hfin, hin, hdecl, hlk⟩
  · have hlay := hts _ (g_in hc _ (u_in_lay hkN))
    unfold u_lay at hlay
    rw [if_neg (by rw [hfin]; decide)] at hlay
    have h6 := u_store hfc hkC hkind hlay hi hdk (hn loc) (hft loc)
    rcases hlk with hlk | ⟨host, hlk⟩ | ⟨rf, hlk, hsf⟩
    · exact W.putK C.1 C.2.1 (f := f) ⟨C.2.2.2.2.2.2.1, hts _ hlk, ⟨_, _, _, hi⟩, hst⟩ (by rw [q2]; exact h6) q1 (q3.2.2 h10) hlt rfl rfl hd fin
    · exact va_WputK C.1 C.2.1 C.2.2.2.2.2.2.1 (va_Nw.use rfl (C.2.2.2.2.2.2.2.2.2.1.1.2.2.2.2.2.2.2.1 _ hlk)) hi hst (by rw [q2]; exact h6) q1 (q3.2.2 h10) hlt rfl rfl hd fin
    · exact W.putK C.1 C.2.1 (f := f) ⟨C.2.2.2.2.2.2.1, hts _ hlk, ⟨_, _, _, u_same (hts _ hsf) _ hi⟩, hst⟩ (by rw [q2]; exact h6) q1 (q3.2.2 h10) hlt rfl rfl hd fin
  · have hlay := hts _ (g_in hc _ (u_in_lay hkN))
    unfold u_lay at hlay
    rw [if_pos hfin] at hlay
    have hcf : m.cls = cf := by
      obtain ⟨_, _, c', _, _, _, -, -, hf', -, -, -, hown2, -⟩ := Cond.laysFinal_spec hlay
      have e1 : c' = cf := by have := hi.symm.trans hf'; simp at this; exact this.1.symm
      rw [hdecl] at hown2
      rw [← e1]
      exact Option.some.inj ((C.2.2.2.2.2.2.1).symm.trans hown2)
    have h6 := u_fits hfc hkC hkind (Or.inr hlay) hi hdk (hn loc) (hft loc)
    exact W.putFinK C.1 C.2.1 C.2.2.2.2.2.2.1 (hts _ hlk) hi hst hcf (C.2.2.2.2.2.1.trans hin) (by rw [q2]; exact h6) q1 (q3.2.2 h10) hlt rfl rfl hd fin
theorem v_putfi {t i ix ci kf : Nat} {x : Int32} (q : Nat) (hd : decode cc pc = .ok (.putfield ix, 3)) (hf : pf_ok y ix ci kf) (hk : tg_k t = some (.inl ci)) (h10 : 10 ≤ t) (hty : sv_i (g_ty ci kf) = true) (hn : narrow (g_ty ci kf) (.int x) = .int x) (hft : fits (g_ty ci kf) (.int x) = true) (hq : pc + 3 = q) (K : VV G d k n y cc nL ret hh q ls st (hp_seti h t i kf x) Q) : VV G d k n y cc nL ret hh pc ls (pv_I x :: pv_O (t, i) :: st) h Q := by
  refine v_putf (h1 := hp_seti h t i kf x) q hd hf hk h10 (fun _ => hn) (fun _ => hft) (fun _ _ => rfl) (fun _ _ => rfl) (fun u j c9 k => ⟨hp_seti_ne (fun z => c9 ⟨z.1, z.2.1⟩), rfl, rfl, rfl⟩) (fun loc k c9 => ?_) (fun loc => ?_) (fun _ _ h9 => h9) hq K
  · exact hp_sv_eq (hp_seti_ne (fun z => c9 z.2.2)) rfl rfl rfl _
  · rw [sv_int hty]
    show Value.int (hp_vi (hp_seti h t i kf x) t i kf) = _
    rw [hp_seti_at]
    rfl
theorem va_rf_n {ty : FieldType} (hty : sv_r ty = true) (r : Option Nat) : narrow ty (va_rf r) = va_rf r ∧ fits ty (va_rf r) = true := by
  cases ty <;> cases r <;> first | exact ⟨rfl, rfl⟩ | cases hty
theorem v_putfr {t i ix ci kf : Nat} {r : RN} (q : Nat) (hd : decode cc pc = .ok (.putfield ix, 3)) (hf : pf_ok y ix ci kf) (hk : tg_k t = some (.inl ci)) (h10 : 10 ≤ t) (hty : sv_r (g_ty ci kf) = true) (hq : pc + 3 = q) (K : VV G d k n y cc nL ret hh q ls st (hp_setr h t i kf r) Q) : VV G d k n y cc nL ret hh pc ls (pv_O r :: pv_O (t, i) :: st) h Q := by
  refine v_putf (h1 := hp_setr h t i kf r) q hd hf hk h10 (fun _ => (va_rf_n hty _).1) (fun _ => (va_rf_n hty _).2) (fun _ _ => rfl) (fun _ _ => rfl) (fun u j c9 k => ⟨rfl, hp_setr_ne (fun z => c9 ⟨z.1, z.2.1⟩), rfl, rfl⟩) (fun loc k c9 => ?_) (fun loc => ?_) (fun hv k h9 => ?_) hq K
  · exact hp_sv_eq (h := h) (h' := hp_setr h t i kf r) (loc := loc) (loc' := loc) rfl (congrArg (hp_ro loc) (hp_setr_ne (fun z => c9 z.2.2))) rfl rfl _
  · rw [sv_ref hty]
    rw [hp_setr_at]
    rfl
  · by_cases c9 : k = kf
    · subst c9
      rw [hp_setr_at]
      exact hv
    · rw [hp_setr_ne (fun z => c9 z.2.2)]
      exact h9
def nw_ok (own : String) (ix ci ns : Nat) : Prop := ∃ q, g_cl[ci]? = some q ∧ Cond.classLink own ix q.1 ∈ g_ws ∧ Cond.instantiable q.1 ns ∈ g_ws ∧ Cond.initialized q.1 ∈ g_ws
theorem hp_dv {loc : Nat → Nat → Nat} {t i z k : Nat} (ty : FieldType) (hty : ty ≠ .float) : hp_sv loc (hp_new h t i z) t i k ty = defaultValue ty := by
  have e1 : hp_vi (hp_new h t i z) t i k = 0 := if_pos ⟨rfl, rfl⟩
  have e2 : hp_vr (hp_new h t i z) t i k = (0, 0) := if_pos ⟨rfl, rfl⟩
  have e3 : hp_vl (hp_new h t i z) t i k = 0 := if_pos ⟨rfl, rfl⟩
  have e4 : hp_vd (hp_new h t i z) t i k = 0 := if_pos ⟨rfl, rfl⟩
  cases ty <;> first | (simp only [hp_sv, e1, e2, e3, e4]; rfl) | exact absurd rfl hty
theorem g_nof : ∀ ci kf, g_ty ci kf ≠ .float := by
  intro ci kf
  match ci with
  | 0 | 1 | 2 | 3 | 4 | 5 | 6 | 7 | 8 | 9 | 10 | 11 | 12 | 13 | 14 | 15 | (_ + 16) => simp only [g_ty, tyJ0, tyJ6, tyJx35411, tyJx4a65c, tyX0, tyX1, tyX2, tyX3, tyX4, tyX5, tyX6, tyX7, tyX8, tyX9, tyX10, tyX11, tyX12] <;> (try split) <;> simp
theorem v_new {ix ci ns k1 n1 : Nat} (q t i : Nat) (hd : decode cc pc = .ok (.new ix, 3)) (hf : nw_ok y.cls ix ci ns) (hk : tg_k t = some (.inl ci)) (h10 : 10 ≤ t) (hn : hp_al h t i = false) (hk1 : k1 + 1 = k) (hn1 : n1 + ns = n) (hq : pc + 3 = q) (K : VV G d k1 n1 y cc nL ret hh q ls (pv_O (t, i) :: st) (hp_new h t i 0) Q) : VV G d k n y cc nL ret hh pc ls st h Q := by
  intro p e R s m args below meth c H locs cells slots h0 l0 loc a C hR hE hL hl hs ho
  subst hq
  subst hk1
  subst hn1
  obtain ⟨z, hc, f1, f2, f3⟩ := hf
  have hts := C.2.2.2.2.2.2.2.1
  obtain ⟨c1, c2, c3, c4, c5, c6, c7, c8, c9, c10, c11, c12, c13, c14⟩ := id C
  refine W.newc C.1 C.2.1 C.2.2.2.2.2.2.1 (hts _ f1) (hts _ f2) (hts _ f3) rfl hd (by omega) (by omega) (fun cC kC x1 x2 x3 x4 => ?_)
  have hKn := C.2.2.2.2.2.2.2.2.2.1.1.1.1 ci _ hc
  have e1 : cC = (gw_D G).1 ci := Option.some.inj (x1.symm.trans hKn.2.1)
  subst e1
  have hz : H.size < (H.push { cls := (gw_D G).1 ci, slots := kC.instanceTypes.map defaultValue, vm := .none }).size := by simp
  have hRn : hp_Rep G (lc_up loc t i H.size) (hp_new h t i 0) (H.push { cls := (gw_D G).1 ci, slots := kC.instanceTypes.map defaultValue, vm := .none }) := by
    refine hR.new hn h10 (by simp) (fun q hq => by rw [Array.getElem?_push]; rw [if_neg (by omega)]) ?_
    unfold hp_at
    rw [hk, lc_at]
    refine ⟨z, hc, o_OB.of (t_OB.to (u_born (o := H.size) (g_ty ci) hts (g_in hc) hKn x2 (by rw [Array.getElem?_push, if_pos rfl]; rfl) (g_tyk ci z hc)) (fun j hj => ?_))⟩
    exact (hp_dv _ (g_nof ci j)).symm
  have K9 := K p e R s m args below meth c _ locs (cells + 1) (slots + ns) h0 l0 (lc_up loc t i H.size) a ⟨c1, c2, c3, c4, c5, c6, c7, c8, c9, c10, c11, c12, by omega, by omega⟩ hRn (hE.new hn) hL (hl.new ho hn) ⟨Or.inr (if_pos ⟨rfl, rfl⟩), hs.to (fun _ _ h9 => hp_new_keep h9)⟩ (ho.to (fun _ _ h9 => hp_new_keep h9))
  rw [List.map_cons, hs.c hn, hp_ref hk, lc_at] at K9
  exact K9
theorem v_newarr {at9 : ArrayType} {ty : FieldType} {x : Int32} {N k1 n1 : Nat} (q t i : Nat) (hd : decode cc pc = .ok (.newarray at9, 2)) (hw : Cond.arrayClass (newarray.typeOf at9) ∈ g_ws) (hty : newarray.typeOf at9 = ty) (hmem : ty ∈ g_tys) (hk : tg_k t = some (.inr ty)) (h10 : 10 ≤ t) (hn : hp_al h t i = false) (hx : ¬ x < 0) (hN : x.toNatClampNeg = N) (hb : N * componentBytes ty ≤ 536870912) (hk1 : k1 + 1 = k) (hn1 : n1 + N = n) (hq : pc + 2 = q) (K : VV G d k1 n1 y cc nL ret hh q ls (pv_O (t, i) :: st) (hp_new h t i N) Q) : VV G d k n y cc nL ret hh pc ls (pv_I x :: st) h Q := by
  intro p e R s m args below meth c H locs cells slots h0 l0 loc a C hR hE hL hl hs ho
  subst hq
  subst hk1
  subst hn1
  subst hty
  have hts := C.2.2.2.2.2.2.2.1
  obtain ⟨c1, c2, c3, c4, c5, c6, c7, c8, c9, c10, c11, c12, c13, c14⟩ := id C
  show W p (gw_l G) e R s m args below meth c H locs cells slots _ (F0 m pc a (Value.int x :: st.map (pv_c loc)))
  refine va_newaK C.1 C.2.1 (hts _ hw) rfl hd rfl hx hN hb (by omega) (by omega) rfl (fun H1 cA x1 x2 x3 x4 x5 => ?_)
  have e1 : cA = gw_a G (newarray.typeOf at9) := by
    have h9 := (C.2.2.2.2.2.2.2.2.2.1.1.2.1 _ (tg_tyn hk h10)).2
    cases at9 <;> exact Option.some.inj (x5.symm.trans h9)
  subst e1
  have hRn : hp_Rep G (lc_up loc t i H.size) (hp_new h t i N) H1 := by
    refine hR.new hn h10 x2 x3 ?_
    refine hp_at_new hk h10 ?_
    rw [lc_at]
    rw [x1, show hp_ln (hp_new h t i N) t i = N from if_pos ⟨rfl, rfl⟩]
    refine congrArg some (congrArg (arrV _ N) (funext fun j => ?_))
    exact (hp_dv _ (by cases at9 <;> first | (intro z; cases z; done) | (simp [g_tys, newarray.typeOf] at hmem))).symm
  have K9 := K p e R s m args below meth c _ locs (cells + 1) (slots + N) h0 l0 (lc_up loc t i H.size) a ⟨c1, c2, c3, c4, c5, c6, c7, c8, c9, c10, c11, c12, by omega, by omega⟩ hRn (hE.new hn) hL (hl.new ho hn) ⟨Or.inr (if_pos ⟨rfl, rfl⟩), hs.2.to (fun _ _ h9 => hp_new_keep h9)⟩ (ho.to (fun _ _ h9 => hp_new_keep h9))
  rw [List.map_cons, hs.2.c hn, hp_ref hk, lc_at] at K9
  exact K9
theorem v_anewarr {ix : Nat} {x : Int32} {N k1 n1 : Nat} (q t i : Nat) (hd : decode cc pc = .ok (.anewarray ix, 3)) (hw : Cond.classLink y.cls ix "java/lang/Object" ∈ g_ws) (hk : tg_k t = some (.inr g_O)) (h10 : 10 ≤ t) (hn : hp_al h t i = false) (hx : ¬ x < 0) (hN : x.toNatClampNeg = N) (hb : N * 4 ≤ 536870912) (hk1 : k1 + 1 = k) (hn1 : n1 + N = n) (hq : pc + 3 = q) (K : VV G d k1 n1 y cc nL ret hh q ls (pv_O (t, i) :: st) (hp_new h t i N) Q) : VV G d k n y cc nL ret hh pc ls (pv_I x :: st) h Q := by
  intro p e R s m args below meth c H locs cells slots h0 l0 loc a C hR hE hL hl hs ho
  subst hq
  subst hk1
  subst hn1
  subst hN
  have hts := C.2.2.2.2.2.2.2.1
  obtain ⟨c1, c2, c3, c4, c5, c6, c7, c8, c9, c10, c11, c12, c13, c14⟩ := id C
  show W p (gw_l G) e R s m args below meth c H locs cells slots _ (F0 m pc a (Value.int x :: st.map (pv_c loc)))
  refine W.anew C.1 C.2.1 C.2.2.2.2.2.2.1 (hts _ hw) (va_AO.use (C.2.2.2.2.2.2.2.2.2.1.1.2.2.2.2.2.2.2.2.2.2.2.2.1)) rfl hd rfl hx hb (by omega) (by omega) (fun cA kA comp x1 x2 x3 x4 => ?_)
  have e1 : cA = gw_a G g_O := by
    obtain ⟨kA9, comp9, z1, z2, z3, z4⟩ := (C.2.2.2.2.2.2.2.2.2.1.1.2.1 g_O (by simp [g_tyn])).2
    exact Option.some.inj (x1.symm.trans z4)
  subst e1
  have hRn : hp_Rep G (lc_up loc t i H.size) (hp_new h t i x.toNatClampNeg) (H.push { cls := gw_a G g_O, slots := Array.replicate x.toNatClampNeg .null, vm := .none }) := by
    refine hR.new hn h10 (by simp) (fun q hq => by rw [Array.getElem?_push]; rw [if_neg (by omega)]) ?_
    refine hp_at_new hk h10 ?_
    rw [lc_at]
    rw [Array.getElem?_push, if_pos rfl, show hp_ln (hp_new h t i x.toNatClampNeg) t i = x.toNatClampNeg from if_pos ⟨rfl, rfl⟩]
    unfold arrV
    congr 2
    refine Array.ext (by simp) (fun j hj1 hj2 => ?_)
    rw [Array.getElem_replicate, Array.getElem_ofFn]
    exact (hp_dv (h := h) (loc := lc_up loc t i H.size) (t := t) (i := i) g_O (by simp)).symm
  have K9 := K p e R s m args below meth c _ locs (cells + 1) (slots + x.toNatClampNeg) h0 l0 (lc_up loc t i H.size) a ⟨c1, c2, c3, c4, c5, c6, c7, c8, c9, c10, c11, c12, by omega, by omega⟩ hRn (hE.new hn) hL (hl.new ho hn) ⟨Or.inr (if_pos ⟨rfl, rfl⟩), hs.2.to (fun _ _ h9 => hp_new_keep h9)⟩ (ho.to (fun _ _ h9 => hp_new_keep h9))
  rw [List.map_cons, hs.2.c hn, hp_ref hk, lc_at] at K9
  exact K9
theorem vp_lt {x : Int32} {z : Nat} (hin : vp_in x z) : x.toNatClampNeg < z := Nat.not_le.mp fun q => hin (Or.inr q)
theorem v_alen {t i : Nat} {ty : FieldType} (q : Nat) (hd : decode cc pc = .ok (.arraylength, 1)) (hk : tg_k t = some (.inr ty)) (hmem : ty ∈ g_tys) (hq : pc + 1 = q) (K : VV G d k n y cc nL ret hh q ls (pv_I (nI (hp_ln h t i)) :: st) h Q) : VV G d k n y cc nL ret hh pc ls (pv_O (t, i) :: st) h Q := by
  intro p e R s m args below meth c H locs cells slots h0 l0 loc a C hR hE hL hl hs ho
  subst hq
  have ha : hp_al h t i = true := hp_al_of hs.1 hk
  show W p (gw_l G) e R s m args below meth c H locs cells slots _ (F0 m pc a (pv_c loc (pv_O (t, i)) :: st.map (pv_c loc)))
  rw [hp_ref hk]
  obtain ⟨cell, z1, z2, z3, z4, z5, z6⟩ := hp_arrR C.2.2.2.2.2.2.2.2.2.1.1 hR ha hk
  refine W.alen C.1 C.2.1 z1 z2 (n := nI (hp_ln h t i)) z5 rfl rfl hd (K p e R s m args below meth c H locs cells slots h0 l0 loc a C hR hE hL hl ⟨trivial, hs.2⟩ ho)
theorem v_iald {t i : Nat} {x : Int32}  (q : Nat) (hd : decode cc pc = .ok (.iaload, 1)) (hk : tg_k t = some (.inr .int)) (hin : vp_in x (hp_ln h t i)) (hq : pc + 1 = q) (K : VV G d k n y cc nL ret hh q ls (pv_I (hp_vi h t i x.toNatClampNeg) :: st) h Q) : VV G d k n y cc nL ret hh pc ls (pv_I x :: pv_O (t, i) :: st) h Q := by
  intro p e R s m args below meth c H locs cells slots h0 l0 loc a C hR hE hL hl hs ho
  subst hq
  have ha : hp_al h t i = true := hp_al_of hs.2.1 hk
  show W p (gw_l G) e R s m args below meth c H locs cells slots _ (F0 m pc a (Value.int x :: pv_c loc (pv_O (t, i)) :: st.map (pv_c loc)))
  rw [hp_ref hk]
  obtain ⟨cell, z1, z2, z3, z4, z5, z6⟩ := hp_arrR C.2.2.2.2.2.2.2.2.2.1.1 hR ha hk
  refine W.iald C.1 C.2.1 z1 z2 z3 (fun z9 => hin (z9.imp id (fun z8 => Nat.le_trans z4 z8))) (v := pv_c loc (pv_I (hp_vi h t i x.toNatClampNeg))) ?_ rfl rfl hd (K p e R s m args below meth c H locs cells slots h0 l0 loc a C hR hE hL hl ⟨trivial, hs.2.2⟩ ho)
  rw [z6 _ (vp_lt hin)]
  rfl
theorem v_zald {t i : Nat} {x : Int32}  (q : Nat) (hd : decode cc pc = .ok (.baload, 1)) (hk : tg_k t = some (.inr .boolean)) (hin : vp_in x (hp_ln h t i)) (hq : pc + 1 = q) (K : VV G d k n y cc nL ret hh q ls (pv_I (hp_vi h t i x.toNatClampNeg) :: st) h Q) : VV G d k n y cc nL ret hh pc ls (pv_I x :: pv_O (t, i) :: st) h Q := by
  intro p e R s m args below meth c H locs cells slots h0 l0 loc a C hR hE hL hl hs ho
  subst hq
  have ha : hp_al h t i = true := hp_al_of hs.2.1 hk
  show W p (gw_l G) e R s m args below meth c H locs cells slots _ (F0 m pc a (Value.int x :: pv_c loc (pv_O (t, i)) :: st.map (pv_c loc)))
  rw [hp_ref hk]
  obtain ⟨cell, z1, z2, z3, z4, z5, z6⟩ := hp_arrR C.2.2.2.2.2.2.2.2.2.1.1 hR ha hk
  refine W.zald C.1 C.2.1 z1 z2 z3 (fun z9 => hin (z9.imp id (fun z8 => Nat.le_trans z4 z8))) (v := pv_c loc (pv_I (hp_vi h t i x.toNatClampNeg))) ?_ rfl rfl hd (K p e R s m args below meth c H locs cells slots h0 l0 loc a C hR hE hL hl ⟨trivial, hs.2.2⟩ ho)
  rw [z6 _ (vp_lt hin)]
  rfl
theorem v_bald {t i : Nat} {x : Int32}  (q : Nat) (hd : decode cc pc = .ok (.baload, 1)) (hk : tg_k t = some (.inr .byte)) (hin : vp_in x (hp_ln h t i)) (hq : pc + 1 = q) (K : VV G d k n y cc nL ret hh q ls (pv_I (hp_vi h t i x.toNatClampNeg) :: st) h Q) : VV G d k n y cc nL ret hh pc ls (pv_I x :: pv_O (t, i) :: st) h Q := by
  intro p e R s m args below meth c H locs cells slots h0 l0 loc a C hR hE hL hl hs ho
  subst hq
  have ha : hp_al h t i = true := hp_al_of hs.2.1 hk
  show W p (gw_l G) e R s m args below meth c H locs cells slots _ (F0 m pc a (Value.int x :: pv_c loc (pv_O (t, i)) :: st.map (pv_c loc)))
  rw [hp_ref hk]
  obtain ⟨cell, z1, z2, z3, z4, z5, z6⟩ := hp_arrR C.2.2.2.2.2.2.2.2.2.1.1 hR ha hk
  refine W.bald C.1 C.2.1 z1 z2 z3 (fun z9 => hin (z9.imp id (fun z8 => Nat.le_trans z4 z8))) (v := pv_c loc (pv_I (hp_vi h t i x.toNatClampNeg))) ?_ rfl rfl hd (K p e R s m args below meth c H locs cells slots h0 l0 loc a C hR hE hL hl ⟨trivial, hs.2.2⟩ ho)
  rw [z6 _ (vp_lt hin)]
  rfl
theorem v_lald {t i : Nat} {x : Int32}  (q : Nat) (hd : decode cc pc = .ok (.laload, 1)) (hk : tg_k t = some (.inr .long)) (hin : vp_in x (hp_ln h t i)) (hq : pc + 1 = q) (K : VV G d k n y cc nL ret hh q ls (pv_L (hp_vl h t i x.toNatClampNeg) :: st) h Q) : VV G d k n y cc nL ret hh pc ls (pv_I x :: pv_O (t, i) :: st) h Q := by
  intro p e R s m args below meth c H locs cells slots h0 l0 loc a C hR hE hL hl hs ho
  subst hq
  have ha : hp_al h t i = true := hp_al_of hs.2.1 hk
  show W p (gw_l G) e R s m args below meth c H locs cells slots _ (F0 m pc a (Value.int x :: pv_c loc (pv_O (t, i)) :: st.map (pv_c loc)))
  rw [hp_ref hk]
  obtain ⟨cell, z1, z2, z3, z4, z5, z6⟩ := hp_arrR C.2.2.2.2.2.2.2.2.2.1.1 hR ha hk
  refine W.lald C.1 C.2.1 z1 z2 z3 (fun z9 => hin (z9.imp id (fun z8 => Nat.le_trans z4 z8))) (v := pv_c loc (pv_L (hp_vl h t i x.toNatClampNeg))) ?_ rfl rfl hd (K p e R s m args below meth c H locs cells slots h0 l0 loc a C hR hE hL hl ⟨trivial, hs.2.2⟩ ho)
  rw [z6 _ (vp_lt hin)]
  rfl
theorem v_dald {t i : Nat} {x : Int32}  (q : Nat) (hd : decode cc pc = .ok (.daload, 1)) (hk : tg_k t = some (.inr .double)) (hin : vp_in x (hp_ln h t i)) (hq : pc + 1 = q) (K : VV G d k n y cc nL ret hh q ls (pv_D (hp_vd h t i x.toNatClampNeg) :: st) h Q) : VV G d k n y cc nL ret hh pc ls (pv_I x :: pv_O (t, i) :: st) h Q := by
  intro p e R s m args below meth c H locs cells slots h0 l0 loc a C hR hE hL hl hs ho
  subst hq
  have ha : hp_al h t i = true := hp_al_of hs.2.1 hk
  show W p (gw_l G) e R s m args below meth c H locs cells slots _ (F0 m pc a (Value.int x :: pv_c loc (pv_O (t, i)) :: st.map (pv_c loc)))
  rw [hp_ref hk]
  obtain ⟨cell, z1, z2, z3, z4, z5, z6⟩ := hp_arrR C.2.2.2.2.2.2.2.2.2.1.1 hR ha hk
  refine W.dald C.1 C.2.1 z1 z2 z3 (fun z9 => hin (z9.imp id (fun z8 => Nat.le_trans z4 z8))) (v := pv_c loc (pv_D (hp_vd h t i x.toNatClampNeg))) ?_ rfl rfl hd (K p e R s m args below meth c H locs cells slots h0 l0 loc a C hR hE hL hl ⟨trivial, hs.2.2⟩ ho)
  rw [z6 _ (vp_lt hin)]
  rfl
theorem v_aald {t i : Nat} {x : Int32} {ty : FieldType} (hty : sv_r ty = true) (hmem : ty ∈ g_tys) (q : Nat) (hd : decode cc pc = .ok (.aaload, 1)) (hk : tg_k t = some (.inr ty)) (hin : vp_in x (hp_ln h t i)) (hq : pc + 1 = q) (K : VV G d k n y cc nL ret hh q ls (pv_O (hp_vr h t i x.toNatClampNeg) :: st) h Q) : VV G d k n y cc nL ret hh pc ls (pv_I x :: pv_O (t, i) :: st) h Q := by
  intro p e R s m args below meth c H locs cells slots h0 l0 loc a C hR hE hL hl hs ho
  subst hq
  have ha : hp_al h t i = true := hp_al_of hs.2.1 hk
  show W p (gw_l G) e R s m args below meth c H locs cells slots _ (F0 m pc a (Value.int x :: pv_c loc (pv_O (t, i)) :: st.map (pv_c loc)))
  rw [hp_ref hk]
  obtain ⟨cell, z1, z2, z3, z4, z5, z6⟩ := hp_arrR C.2.2.2.2.2.2.2.2.2.1.1 hR ha hk
  refine W.aald (ty := ty) C.1 C.2.1 z1 z2 (by cases ty <;> first | rfl | cases hty) z3 (fun z9 => hin (z9.imp id (fun z8 => Nat.le_trans z4 z8))) (v := pv_c loc (pv_O (hp_vr h t i x.toNatClampNeg))) ?_ rfl rfl hd (K p e R s m args below meth c H locs cells slots h0 l0 loc a C hR hE hL hl ⟨hR.2.2.2.2.2.1 t i _ ha, hs.2.2⟩ ho)
  rw [z6 _ (vp_lt hin)]
  exact congrArg some (sv_ref hty)
theorem hp_arrput {loc : Nat → Nat → Nat} {H H1 : Heap} {t i : Nat} {ty : FieldType} {x : Int32} {v : PV} {h1 : PH} (hR : hp_Rep G loc h H) (ha : hp_al h t i = true) (hk : tg_k t = some (.inr ty)) (h10 : 10 ≤ t)
    (ea : ∀ u j, hp_al h1 u j = hp_al h u j) (el : ∀ u j, hp_ln h1 u j = hp_ln h u j)
    (eo : ∀ u j, ¬ (u = t ∧ j = i) → ∀ k, hp_vi h1 u j k = hp_vi h u j k ∧ hp_vr h1 u j k = hp_vr h u j k ∧ hp_vl h1 u j k = hp_vl h u j k ∧ hp_vd h1 u j k = hp_vd h u j k)
    (e2 : ∀ k, k ≠ x.toNatClampNeg → hp_sv loc h1 t i k ty = hp_sv loc h t i k ty) (e3 : hp_sv loc h1 t i x.toNatClampNeg ty = pv_c loc v)
    (e4 : ∀ k, ok_r h (hp_vr h t i k) → ok_r h (hp_vr h1 t i k))
    (x1 : H1[loc t i]? = some ((arrV (gw_a G ty) (hp_ln h t i) (fun k => hp_sv loc h t i k ty)).setSlot x.toNatClampNeg (pv_c loc v))) (x2 : H1.size = H.size) (x3 : ∀ q, q ≠ loc t i → H1[q]? = H[q]?) : hp_Rep G loc h1 H1 := by
  refine hR.upd ea el eo ha h10 ?_ x2 x3 (fun k => e4 k (hR.2.2.2.2.2.1 t i k ha))
  refine hp_at_new hk h10 ?_
  rw [x1, arrV_store, el]
  refine congrArg some (congrArg (arrV _ _) (funext fun j => ?_))
  by_cases c9 : j = x.toNatClampNeg
  · subst c9
    rw [updV, if_pos rfl]
    exact e3.symm
  · rw [updV, if_neg c9]
    exact (e2 j c9).symm
theorem v_iast {t i : Nat} {x : Int32} {w : Int32} (q : Nat) (hd : decode cc pc = .ok (.iastore, 1)) (hk : tg_k t = some (.inr .int)) (h10 : 10 ≤ t) (hin : vp_in x (hp_ln h t i))  (hq : pc + 1 = q) (K : VV G d k n y cc nL ret hh q ls st (hp_seti h t i x.toNatClampNeg w) Q) : VV G d k n y cc nL ret hh pc ls (pv_I w :: pv_I x :: pv_O (t, i) :: st) h Q := by
  intro p e R s m args below meth c H locs cells slots h0 l0 loc a C hR hE hL hl hs ho
  subst hq
  have ha : hp_al h t i = true := hp_al_of hs.2.2.1 hk
  show W p (gw_l G) e R s m args below meth c H locs cells slots _ (F0 m pc a (Value.int w :: Value.int x :: pv_c loc (pv_O (t, i)) :: st.map (pv_c loc)))
  rw [hp_ref hk]
  refine W.iast C.1 C.2.1 (hp_arr h10 hR ha hk) ((C.2.2.2.2.2.2.2.2.2.1.1.2.1 .int (by simp [g_tyn])).1 _ _) (fun z => by cases z) (by rw [arrV_size]; exact hin) rfl rfl hd (fun H1 x1 x2 x3 => ?_)
  refine K p e R s m args below meth c H1 _ cells slots h0 l0 loc a C ?_ hE ?_ hl (ok_s.to (h := h) (fun _ _ h9 => h9) hs.2.2.2) (ok_l.to (h := h) (fun _ _ h9 => h9) ho)
  · refine hp_arrput (h1 := hp_seti h t i x.toNatClampNeg w) (v := pv_I w) hR ha hk h10 (fun _ _ => rfl) (fun _ _ => rfl) (fun u j c9 k => ⟨hp_seti_ne (fun z => c9 ⟨z.1, z.2.1⟩), rfl, rfl, rfl⟩) (fun k c9 => ?_) ?_ (fun _ h9 => h9) x1 x2 x3
    · exact hp_sv_eq (h := h) (h' := hp_seti h t i x.toNatClampNeg w) (loc := loc) (loc' := loc) (hp_seti_ne (fun z => c9 z.2.2)) rfl rfl rfl _
    · show Value.int (hp_vi (hp_seti h t i x.toNatClampNeg w) t i x.toNatClampNeg) = _
      rw [hp_seti_at]
      rfl
  · intro z hz
    rcases List.mem_append.mp hz with hz | hz
    · exact hL z hz
    · rw [List.mem_singleton.mp hz]
      exact (hR.2.2.1 t i ha).1 h10
theorem v_zast {t i : Nat} {x : Int32} {w : Int32} (q : Nat) (hd : decode cc pc = .ok (.bastore, 1)) (hk : tg_k t = some (.inr .boolean)) (h10 : 10 ≤ t) (hin : vp_in x (hp_ln h t i)) (hnz : narrow .boolean (.int w) = .int w) (hq : pc + 1 = q) (K : VV G d k n y cc nL ret hh q ls st (hp_seti h t i x.toNatClampNeg w) Q) : VV G d k n y cc nL ret hh pc ls (pv_I w :: pv_I x :: pv_O (t, i) :: st) h Q := by
  intro p e R s m args below meth c H locs cells slots h0 l0 loc a C hR hE hL hl hs ho
  subst hq
  have ha : hp_al h t i = true := hp_al_of hs.2.2.1 hk
  show W p (gw_l G) e R s m args below meth c H locs cells slots _ (F0 m pc a (Value.int w :: Value.int x :: pv_c loc (pv_O (t, i)) :: st.map (pv_c loc)))
  rw [hp_ref hk]
  refine W.zast C.1 C.2.1 (hp_arr h10 hR ha hk) ((C.2.2.2.2.2.2.2.2.2.1.1.2.1 .boolean (by simp [g_tyn])).1 _ _) (fun z => by cases z) (by rw [arrV_size]; exact hin) rfl rfl hd (fun H1 x1 x2 x3 => ?_)
  refine K p e R s m args below meth c H1 _ cells slots h0 l0 loc a C ?_ hE ?_ hl (ok_s.to (h := h) (fun _ _ h9 => h9) hs.2.2.2) (ok_l.to (h := h) (fun _ _ h9 => h9) ho)
  · rw [hnz] at x1
    refine hp_arrput (h1 := hp_seti h t i x.toNatClampNeg w) (v := pv_I w) hR ha hk h10 (fun _ _ => rfl) (fun _ _ => rfl) (fun u j c9 k => ⟨hp_seti_ne (fun z => c9 ⟨z.1, z.2.1⟩), rfl, rfl, rfl⟩) (fun k c9 => ?_) ?_ (fun _ h9 => h9) x1 x2 x3
    · exact hp_sv_eq (h := h) (h' := hp_seti h t i x.toNatClampNeg w) (loc := loc) (loc' := loc) (hp_seti_ne (fun z => c9 z.2.2)) rfl rfl rfl _
    · show Value.int (hp_vi (hp_seti h t i x.toNatClampNeg w) t i x.toNatClampNeg) = _
      rw [hp_seti_at]
      rfl
  · intro z hz
    rcases List.mem_append.mp hz with hz | hz
    · exact hL z hz
    · rw [List.mem_singleton.mp hz]
      exact (hR.2.2.1 t i ha).1 h10
theorem v_last {t i : Nat} {x : Int32} {w : Int64} (q : Nat) (hd : decode cc pc = .ok (.lastore, 1)) (hk : tg_k t = some (.inr .long)) (h10 : 10 ≤ t) (hin : vp_in x (hp_ln h t i))  (hq : pc + 1 = q) (K : VV G d k n y cc nL ret hh q ls st (hp_setl h t i x.toNatClampNeg w) Q) : VV G d k n y cc nL ret hh pc ls (pv_L w :: pv_I x :: pv_O (t, i) :: st) h Q := by
  intro p e R s m args below meth c H locs cells slots h0 l0 loc a C hR hE hL hl hs ho
  subst hq
  have ha : hp_al h t i = true := hp_al_of hs.2.2.1 hk
  show W p (gw_l G) e R s m args below meth c H locs cells slots _ (F0 m pc a (Value.long w :: Value.int x :: pv_c loc (pv_O (t, i)) :: st.map (pv_c loc)))
  rw [hp_ref hk]
  refine W.last C.1 C.2.1 (hp_arr h10 hR ha hk) ((C.2.2.2.2.2.2.2.2.2.1.1.2.1 .long (by simp [g_tyn])).1 _ _) (fun z => by cases z) (by rw [arrV_size]; exact hin) rfl rfl hd (fun H1 x1 x2 x3 => ?_)
  refine K p e R s m args below meth c H1 _ cells slots h0 l0 loc a C ?_ hE ?_ hl (ok_s.to (h := h) (fun _ _ h9 => h9) hs.2.2.2) (ok_l.to (h := h) (fun _ _ h9 => h9) ho)
  · refine hp_arrput (h1 := hp_setl h t i x.toNatClampNeg w) (v := pv_L w) hR ha hk h10 (fun _ _ => rfl) (fun _ _ => rfl) (fun u j c9 k => ⟨rfl, rfl, hp_setl_ne (fun z => c9 ⟨z.1, z.2.1⟩), rfl⟩) (fun k c9 => ?_) ?_ (fun _ h9 => h9) x1 x2 x3
    · exact hp_sv_eq (h := h) (h' := hp_setl h t i x.toNatClampNeg w) (loc := loc) (loc' := loc) rfl rfl (hp_setl_ne (fun z => c9 z.2.2)) rfl _
    · show Value.long (hp_vl (hp_setl h t i x.toNatClampNeg w) t i x.toNatClampNeg) = _
      rw [hp_setl_at]
      rfl
  · intro z hz
    rcases List.mem_append.mp hz with hz | hz
    · exact hL z hz
    · rw [List.mem_singleton.mp hz]
      exact (hR.2.2.1 t i ha).1 h10
theorem v_dast {t i : Nat} {x : Int32} {w : UInt64} (q : Nat) (hd : decode cc pc = .ok (.dastore, 1)) (hk : tg_k t = some (.inr .double)) (h10 : 10 ≤ t) (hin : vp_in x (hp_ln h t i))  (hq : pc + 1 = q) (K : VV G d k n y cc nL ret hh q ls st (hp_setd h t i x.toNatClampNeg w) Q) : VV G d k n y cc nL ret hh pc ls (pv_D w :: pv_I x :: pv_O (t, i) :: st) h Q := by
  intro p e R s m args below meth c H locs cells slots h0 l0 loc a C hR hE hL hl hs ho
  subst hq
  have ha : hp_al h t i = true := hp_al_of hs.2.2.1 hk
  show W p (gw_l G) e R s m args below meth c H locs cells slots _ (F0 m pc a (Value.double w :: Value.int x :: pv_c loc (pv_O (t, i)) :: st.map (pv_c loc)))
  rw [hp_ref hk]
  refine W.dast C.1 C.2.1 (hp_arr h10 hR ha hk) ((C.2.2.2.2.2.2.2.2.2.1.1.2.1 .double (by simp [g_tyn])).1 _ _) (fun z => by cases z) (by rw [arrV_size]; exact hin) rfl rfl hd (fun H1 x1 x2 x3 => ?_)
  refine K p e R s m args below meth c H1 _ cells slots h0 l0 loc a C ?_ hE ?_ hl (ok_s.to (h := h) (fun _ _ h9 => h9) hs.2.2.2) (ok_l.to (h := h) (fun _ _ h9 => h9) ho)
  · refine hp_arrput (h1 := hp_setd h t i x.toNatClampNeg w) (v := pv_D w) hR ha hk h10 (fun _ _ => rfl) (fun _ _ => rfl) (fun u j c9 k => ⟨rfl, rfl, rfl, hp_setd_ne (fun z => c9 ⟨z.1, z.2.1⟩)⟩) (fun k c9 => ?_) ?_ (fun _ h9 => h9) x1 x2 x3
    · exact hp_sv_eq (h := h) (h' := hp_setd h t i x.toNatClampNeg w) (loc := loc) (loc' := loc) rfl rfl rfl (hp_setd_ne (fun z => c9 z.2.2)) _
    · show Value.double (hp_vd (hp_setd h t i x.toNatClampNeg w) t i x.toNatClampNeg) = _
      rw [hp_setd_at]
      rfl
  · intro z hz
    rcases List.mem_append.mp hz with hz | hz
    · exact hL z hz
    · rw [List.mem_singleton.mp hz]
      exact (hR.2.2.1 t i ha).1 h10
/-- the name of the class of a tag's things -/
def tg_n (t : Nat) : String := match tg_k t with
  | some (.inl ci) => ((g_cl[ci]?).getD ("", fun _ => ("", "", "", false), 0)).1
  | some (.inr .int) => "[I"
  | _ => ""
theorem hp_recv {loc : Nat → Nat → Nat} {H : Heap} {t i ci : Nat} {q : vw_C} {s : State} (hR : hp_Rep G loc h H) (hW : w_ok G s) (ha : hp_al h t i = true) (hk : tg_k t = some (.inl ci)) (hc : g_cl[ci]? = some q) : ∃ cell : Cell, H[loc t i]? = some cell ∧ cell.vm.isStatics = false ∧ s.vm.findClass q.1 = some cell.cls := by
  obtain ⟨cell, q1, q2, q3, q4⟩ := hp_obj hR ha hk hc
  exact ⟨cell, q1, q3.2.1, by rw [q2]; exact (hW.1.1 ci _ hc).2.1⟩
theorem hp_recvA {loc : Nat → Nat → Nat} {H : Heap} {t i : Nat} {s : State} (h10 : 10 ≤ t) (hR : hp_Rep G loc h H) (hW : w_ok G s) (ha : hp_al h t i = true) (hk : tg_k t = some (.inr .int)) : ∃ cell : Cell, H[loc t i]? = some cell ∧ cell.vm.isStatics = false ∧ s.vm.findClass "[I" = some cell.cls :=
  ⟨_, hp_arr h10 hR ha hk, rfl, (hW.2.1 .int (by simp [g_tyn])).2⟩
theorem v_aast {t i u j : Nat} {x : Int32} (q : Nat) (hd : decode cc pc = .ok (.aastore, 1)) (hk : tg_k t = some (.inr g_O)) (h10 : 10 ≤ t) (hu : (∃ ci, tg_k u = some (.inl ci) ∧ ∃ z, g_cl[ci]? = some z ∧ Cond.castable z.1 "java/lang/Object" ∈ g_nw) ∨ (tg_k u = some (.inr .int) ∧ 10 ≤ u ∧ Cond.castable "[I" "java/lang/Object" ∈ g_nw)) (hin : vp_in x (hp_ln h t i)) (hq : pc + 1 = q) (K : VV G d k n y cc nL ret hh q ls st (hp_setr h t i x.toNatClampNeg (u, j)) Q) : VV G d k n y cc nL ret hh pc ls (pv_O (u, j) :: pv_I x :: pv_O (t, i) :: st) h Q := by
  intro p e R s m args below meth c H locs cells slots h0 l0 loc a C hR hE hL hl hs ho
  subst hq
  have ha : hp_al h t i = true := hp_al_of hs.2.2.1 hk
  obtain ⟨au, hru⟩ : hp_al h u j = true ∧ pv_c loc (pv_O (u, j)) = .ref (loc u j) := by
    rcases hu with ⟨ci, hu, -⟩ | ⟨hu, -⟩
    · exact ⟨hp_al_of hs.1 hu, hp_ref hu⟩
    · exact ⟨hp_al_of hs.1 hu, hp_ref hu⟩
  have hW := C.2.2.2.2.2.2.2.2.2.1.1
  obtain ⟨kA, comp, z1, z2, z3, z4⟩ := (hW.2.1 g_O (by simp [g_tyn])).2
  obtain ⟨kcomp, hkcomp, -⟩ := Vm.findClass_spec z3
  obtain ⟨cv, c1, c2, kv, c3, c4⟩ : ∃ cv : Cell, H[loc u j]? = some cv ∧ cv.vm.isStatics = false ∧ ∃ kv : Class, s.vm.classes[cv.cls]? = some kv ∧ s.vm.assignable cv.cls comp = true := by
    rcases hu with ⟨ci, hu, z, hz, hw⟩ | ⟨hu, hu10, hw⟩
    · obtain ⟨cell, q1, q2, q3⟩ := hp_recv hR hW au hu hz
      obtain ⟨kv, hkv, -⟩ := Vm.findClass_spec q3
      exact ⟨cell, q1, q2, kv, hkv, vb_asgC (hW.2.2.2.2.2.2.2.1 _ hw) _ _ z3 q3⟩
    · obtain ⟨cell, q1, q2, q3⟩ := hp_recvA hu10 hR hW au hu
      obtain ⟨kv, hkv, -⟩ := Vm.findClass_spec q3
      exact ⟨cell, q1, q2, kv, hkv, vb_asgC (hW.2.2.2.2.2.2.2.1 _ hw) _ _ z3 q3⟩
  show W p (gw_l G) e R s m args below meth c H locs cells slots _ (F0 m pc a (pv_c loc (pv_O (u, j)) :: Value.int x :: pv_c loc (pv_O (t, i)) :: st.map (pv_c loc)))
  rw [hp_ref hk, hru]
  refine W.aast C.1 C.2.1 (hp_arr h10 hR ha hk) (fun q h => by cases h) (fun h => by cases h) z1 z2 rfl hkcomp ⟨fun z => hin (Or.inl z), by rw [arrV_size]; exact vp_lt hin⟩ c1 (fun q h => by rw [h] at c2; cases c2) c3 c4 rfl rfl hd (fun H1 x1 x2 x3 => ?_)
  refine K p e R s m args below meth c H1 _ cells slots h0 l0 loc a C ?_ hE ?_ hl (ok_s.to (h := h) (fun _ _ h9 => h9) hs.2.2.2) (ok_l.to (h := h) (fun _ _ h9 => h9) ho)
  · refine hp_arrput (h1 := hp_setr h t i x.toNatClampNeg (u, j)) (v := pv_O (u, j)) hR ha hk h10 (fun _ _ => rfl) (fun _ _ => rfl) (fun u j c9 k => ⟨rfl, hp_setr_ne (fun z => c9 ⟨z.1, z.2.1⟩), rfl, rfl⟩) (fun k c9 => ?_) ?_ (fun k h9 => ?_) (by rw [hru]; exact x1) x2 x3
    · exact hp_sv_eq (h := h) (h' := hp_setr h t i x.toNatClampNeg (u, j)) (loc := loc) (loc' := loc) rfl (congrArg (hp_ro loc) (hp_setr_ne (fun z => c9 z.2.2))) rfl rfl _
    · show va_rf (hp_ro loc (hp_vr (hp_setr h t i x.toNatClampNeg (u, j)) t i x.toNatClampNeg)) = _
      rw [hp_setr_at]
      rfl
    · by_cases c9 : k = x.toNatClampNeg
      · rw [c9, hp_setr_at]
        exact hs.1
      · rw [hp_setr_ne (fun z => c9 z.2.2)]
        exact h9
  · intro z hz
    rcases List.mem_append.mp hz with hz | hz
    · exact hL z hz
    · rw [List.mem_singleton.mp hz]
      exact (hR.2.2.1 t i ha).1 h10
theorem v_aastN {t i : Nat} {x : Int32} (q : Nat) (hd : decode cc pc = .ok (.aastore, 1)) (hk : tg_k t = some (.inr g_O)) (h10 : 10 ≤ t) (hin : vp_in x (hp_ln h t i)) (hq : pc + 1 = q) (K : VV G d k n y cc nL ret hh q ls st (hp_setr h t i x.toNatClampNeg (0, 0)) Q) : VV G d k n y cc nL ret hh pc ls (pv_O (0, 0) :: pv_I x :: pv_O (t, i) :: st) h Q := by
  intro p e R s m args below meth c H locs cells slots h0 l0 loc a C hR hE hL hl hs ho
  subst hq
  have ha : hp_al h t i = true := hp_al_of hs.2.2.1 hk
  have hW := C.2.2.2.2.2.2.2.2.2.1.1
  show W p (gw_l G) e R s m args below meth c H locs cells slots _ (F0 m pc a (Value.null :: Value.int x :: pv_c loc (pv_O (t, i)) :: st.map (pv_c loc)))
  rw [hp_ref hk]
  refine va_WaastN (C := "java/lang/Object") C.1 C.2.1 (hp_arr h10 hR ha hk) ((hW.2.1 g_O (by simp [g_tyn])).1 _ _) (fun z => by cases z) (by rw [arrV_size]; exact hin) rfl rfl hd (fun H1 x1 x2 x3 => ?_)
  refine K p e R s m args below meth c H1 _ cells slots h0 l0 loc a C ?_ hE ?_ hl (ok_s.to (h := h) (fun _ _ h9 => h9) hs.2.2.2) (ok_l.to (h := h) (fun _ _ h9 => h9) ho)
  · refine hp_arrput (h1 := hp_setr h t i x.toNatClampNeg (0, 0)) (v := pv_O (0, 0)) hR ha hk h10 (fun _ _ => rfl) (fun _ _ => rfl) (fun u j c9 k => ⟨rfl, hp_setr_ne (fun z => c9 ⟨z.1, z.2.1⟩), rfl, rfl⟩) (fun k c9 => ?_) ?_ (fun k h9 => ?_) x1 x2 x3
    · exact hp_sv_eq (h := h) (h' := hp_setr h t i x.toNatClampNeg (0, 0)) (loc := loc) (loc' := loc) rfl (congrArg (hp_ro loc) (hp_setr_ne (fun z => c9 z.2.2))) rfl rfl _
    · show va_rf (hp_ro loc (hp_vr (hp_setr h t i x.toNatClampNeg (0, 0)) t i x.toNatClampNeg)) = _
      rw [hp_setr_at]
      rfl
    · by_cases c9 : k = x.toNatClampNeg
      · rw [c9, hp_setr_at]
        exact Or.inl rfl
      · rw [hp_setr_ne (fun z => c9 z.2.2)]
        exact h9
  · intro z hz
    rcases List.mem_append.mp hz with hz | hz
    · exact hL z hz
    · rw [List.mem_singleton.mp hz]
      exact (hR.2.2.1 t i ha).1 h10
/-- a static field -/
theorem v_gets {ix : Nat} {z : String × String × String × PV} (q : Nat) (hd : decode cc pc = .ok (.getstatic ix, 3)) (hw : Cond.fieldLink y.cls ix z.1 z.2.1 z.2.2.1 ∈ g_ws) (hz : z ∈ g_st) (hv : ∀ r, z.2.2.2 = pv_O r → r.1 < 10 ∧ r.2 < g_odn r.1) (hq : pc + 3 = q) (K : VV G d k n y cc nL ret hh q ls (z.2.2.2 :: st) h Q) : VV G d k n y cc nL ret hh pc ls st h Q := by
  intro p e R s m args below meth c H locs cells slots h0 l0 loc a C hR hE hL hl hs ho
  subst hq
  obtain ⟨cf, kf, fi, f, a9, cell, f1, f2, f3, f4, f5, f6, f7, f8⟩ := C.2.2.2.2.2.2.2.2.2.1.1.2.2.1 _ hz
  have ha9 : a9 < (gw_H G).size := (Array.getElem?_eq_some_iff.mp f5).1
  have hvc : pv_c (gw_o G) z.2.2.2 = pv_c loc z.2.2.2 ∧ ok_v h z.2.2.2 := by
    revert hv
    generalize z.2.2.2 = w
    intro hv
    rcases w with x | r | x | x | x
    · exact ⟨rfl, trivial⟩
    · obtain ⟨v1, v2⟩ := hv r rfl
      refine ⟨?_, Or.inr (hR.2.2.2.2.2.2.1.1 r.1 r.2 v2)⟩
      show va_rf (hp_ro _ r) = va_rf (hp_ro _ r)
      unfold hp_ro
      rw [hR.2.2.2.2.2.2.2 _ _ v1]
    · exact ⟨rfl, trivial⟩
    · exact ⟨rfl, trivial⟩
    · exact ⟨rfl, trivial⟩
  rw [hvc.1] at f7
  exact W.gets C.1 C.2.1 C.2.2.2.2.2.2.1 (C.2.2.2.2.2.2.2.1 _ hw) f1 f2 f3 f4 (by rw [hR.2.2.2.1.2 _ ha9]; exact f5) (fun z9 => by rw [z9] at f6; cases f6) f7 rfl hd (K p e R s m args below meth c H locs cells slots h0 l0 loc a C hR hE hL hl ⟨hvc.2, hs⟩ ho)
/-- a text -/
theorem v_ldcs {ix i : Nat} {tx : String} (q : Nat) (hd : decode cc pc = .ok (.ldc ix, 2)) (hz : (y.cls, ix, tx, i) ∈ g_sx) (hi : i < 11) (hq : pc + 2 = q) (K : VV G d k n y cc nL ret hh q ls (pv_O (1, i) :: st) h Q) : VV G d k n y cc nL ret hh pc ls st h Q := by
  intro p e R s m args below meth c H locs cells slots h0 l0 loc a C hR hE hL hl hs ho
  subst hq
  have h9 := C.2.2.2.2.2.2.2.2.2.1.1.2.2.2.1 _ hz
  have K9 := K p e R s m args below meth c H locs cells slots h0 l0 loc a C hR hE hL hl ⟨Or.inr (hR.2.2.2.2.2.2.1.1 1 i hi), hs⟩ ho
  rw [List.map_cons, hp_ref (z := .inl 0) rfl, hR.2.2.2.2.2.2.2 1 i (by decide)] at K9
  exact va_ldcS C.1 C.2.1 C.2.2.2.2.2.2.1 h9 hd K9
/-- a cast -/
theorem v_cast {ix t i : Nat} (q : Nat) (hd : decode cc pc = .ok (.checkcast ix, 3)) (hu : (∃ ci z, tg_k t = some (.inl ci) ∧ g_cl[ci]? = some z ∧ Cond.classLink y.cls ix z.1 ∈ g_ws)) (hq : pc + 3 = q) (K : VV G d k n y cc nL ret hh q ls (pv_O (t, i) :: st) h Q) : VV G d k n y cc nL ret hh pc ls (pv_O (t, i) :: st) h Q := by
  intro p e R s m args below meth c H locs cells slots h0 l0 loc a C hR hE hL hl hs ho
  subst hq
  obtain ⟨ci, z, hk, hc, hw⟩ := hu
  have ha : hp_al h t i = true := hp_al_of hs.1 hk
  have K9 := K p e R s m args below meth c H locs cells slots h0 l0 loc a C hR hE hL hl hs ho
  rw [List.map_cons, hp_ref hk] at K9
  show W p (gw_l G) e R s m args below meth c H locs cells slots _ (F0 m pc a (pv_c loc (pv_O (t, i)) :: st.map (pv_c loc)))
  rw [hp_ref hk]
  exact va_castS C.1 C.2.1 C.2.2.2.2.2.2.1 (C.2.2.2.2.2.2.2.1 _ hw) (C.2.2.2.2.2.2.2.2.2.1.1.1.1 ci _ hc).2 (hp_recv hR C.2.2.2.2.2.2.2.2.2.1.1 ha hk hc) hd K9
/-- Object.<init> -/
theorem v_objinit {ix : Nat} {r : RN} (q : Nat) (hd : decode cc pc = .ok (.invokespecial ix, 3)) (hw : Cond.methodLink y.cls ix Lib.objectInit ∈ g_ws) (hw2 : Cond.instanceMethod Lib.objectInit ∈ g_ws) (hw3 : Cond.code Lib.objectInit ⟨#[0xb1]⟩ 1 none ∈ g_ws) (hr : ¬ r.1 = 0) (hd1 : 1 ≤ d) (hst : (st.map (fun v => if pv_n v then 1 else 2)).sum ≤ 20) (hq : pc + 3 = q) (K : VV G d k n y cc nL ret hh q ls st h Q) : VV G d k n y cc nL ret hh pc ls (pv_O r :: st) h Q := by
  intro p e R s m args below meth c H locs cells slots h0 l0 loc a C hR hE hL hl hs ho
  subst hq
  have hts := C.2.2.2.2.2.2.2.1
  obtain ⟨c1, c2, c3, c4, c5, c6, c7, c8, c9, c10, c11, c12, c13, c14⟩ := id C
  have hcat : ((st.map (pv_c loc)).map fun v => v.category) = st.map (fun v => if pv_n v then 1 else 2) := by
    rw [List.map_map]
    refine List.map_congr_left (fun v _ => ?_)
    show (pv_c loc v).category = _
    cases hv : pv_n v with
    | true => exact pv_n1 hv
    | false => exact pv_n2 hv
  show W p (gw_l G) e R s m args below meth c H locs cells slots _ (F0 m pc a (va_rf (hp_ro loc r) :: st.map (pv_c loc)))
  rw [hp_ro, if_neg hr]
  refine W.objInit C.1 C.2.1 C.2.2.2.2.2.2.1 (hts _ hw) (hts _ hw2) (hts _ hw3) rfl (hl.1.trans c3.symm) rfl hd (by omega) ?_ (K p e R s m args below meth c H locs cells slots h0 l0 loc a C hR hE hL hl hs.2 ho)
  rw [hcat, show JFrame.monitorRoom _ = 0 from rfl]
  omega
end VVH
