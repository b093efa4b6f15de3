section VVB2
/-- one tag's things are as they were -/
def hp_te (h h' : PH) (t : Nat) : Prop := hp_al h' t = hp_al h t ∧ hp_ln h' t = hp_ln h t ∧ hp_vi h' t = hp_vi h t ∧ hp_vr h' t = hp_vr h t ∧ hp_vl h' t = hp_vl h t ∧ hp_vd h' t = hp_vd h t
theorem hp_te.rf {h : PH} {t : Nat} : hp_te h h t := ⟨rfl, rfl, rfl, rfl, rfl, rfl⟩
theorem hp_te.tr {h h1 h2 : PH} {t : Nat} (e : hp_te h h1 t) (e2 : hp_te h1 h2 t) : hp_te h h2 t := ⟨e2.1.trans e.1, e2.2.1.trans e.2.1, e2.2.2.1.trans e.2.2.1, e2.2.2.2.1.trans e.2.2.2.1, e2.2.2.2.2.1.trans e.2.2.2.2.1, e2.2.2.2.2.2.trans e.2.2.2.2.2⟩
theorem hp_te.i {h : PH} {t i k u : Nat} {x : Int32} (n : u ≠ t) : hp_te h (hp_seti h t i k x) u := ⟨rfl, rfl, funext fun b => funext fun c => hp_seti_ne (fun z => n z.1), rfl, rfl, rfl⟩
theorem hp_te.r {h : PH} {t i k u : Nat} {x : RN} (n : u ≠ t) : hp_te h (hp_setr h t i k x) u := ⟨rfl, rfl, rfl, funext fun b => funext fun c => hp_setr_ne (fun z => n z.1), rfl, rfl⟩
theorem hp_te.l {h : PH} {t i k u : Nat} {x : Int64} (n : u ≠ t) : hp_te h (hp_setl h t i k x) u := ⟨rfl, rfl, rfl, rfl, funext fun b => funext fun c => hp_setl_ne (fun z => n z.1), rfl⟩
theorem hp_te.d {h : PH} {t i k u : Nat} {x : UInt64} (n : u ≠ t) : hp_te h (hp_setd h t i k x) u := ⟨rfl, rfl, rfl, rfl, rfl, funext fun b => funext fun c => hp_setd_ne (fun z => n z.1)⟩
theorem hp_te.n {h : PH} {t i m u : Nat} (n : u ≠ t) : hp_te h (hp_new h t i m) u := ⟨funext fun b => if_neg (fun z => n z.1), funext fun b => if_neg (fun z => n z.1), funext fun b => funext fun c => if_neg (fun z => n z.1), funext fun b => funext fun c => if_neg (fun z => n z.1), funext fun b => funext fun c => if_neg (fun z => n z.1), funext fun b => funext fun c => if_neg (fun z => n z.1)⟩
theorem hp_te.c {h : PH} {t i u j sp dp z v : Nat} (n : v ≠ u) : hp_te h (hp_cpy h t i u j sp dp z) v := ⟨rfl, rfl, rfl, funext fun b => funext fun c => if_neg (fun z => n z.1), rfl, rfl⟩
/-- names of a tag from g on are unused -/
def fr_t (h : PH) (t : Nat) : Prop := ∃ g, ∀ j, g ≤ j → hp_al h t j = false
theorem fr_t.te {h h' : PH} {t : Nat} (f : fr_t h t) (e : hp_te h h' t) : fr_t h' t := by
  obtain ⟨g, hg⟩ := f
  exact ⟨g, fun j hj => by rw [e.1]; exact hg j hj⟩
theorem hp_new_al0 {h : PH} {t i n : Nat} : hp_al (hp_new h t i n) t i = true := if_pos ⟨rfl, rfl⟩
theorem hp_new_ln0 {h : PH} {t i n : Nat} : hp_ln (hp_new h t i n) t i = n := if_pos ⟨rfl, rfl⟩
theorem hp_new_vi0 {h : PH} {t i n k : Nat} : hp_vi (hp_new h t i n) t i k = 0 := if_pos ⟨rfl, rfl⟩
theorem hp_new_vr0 {h : PH} {t i n k : Nat} : hp_vr (hp_new h t i n) t i k = (0, 0) := if_pos ⟨rfl, rfl⟩
theorem hp_new_vl0 {h : PH} {t i n k : Nat} : hp_vl (hp_new h t i n) t i k = 0 := if_pos ⟨rfl, rfl⟩
theorem hp_new_vd0 {h : PH} {t i n k : Nat} : hp_vd (hp_new h t i n) t i k = 0 := if_pos ⟨rfl, rfl⟩
theorem hp_new_ne {h : PH} {t i n u j : Nat} (c : ¬ (u = t ∧ j = i)) : hp_al (hp_new h t i n) u j = hp_al h u j ∧ hp_ln (hp_new h t i n) u j = hp_ln h u j ∧ ∀ k, hp_vi (hp_new h t i n) u j k = hp_vi h u j k ∧ hp_vr (hp_new h t i n) u j k = hp_vr h u j k := ⟨if_neg c, if_neg c, fun k => ⟨if_neg c, if_neg c⟩⟩
theorem fr_t.new {h : PH} {t i n : Nat} (f : fr_t h t) : fr_t (hp_new h t i n) t := by
  obtain ⟨g, hg⟩ := f
  refine ⟨max g (i + 1), fun j hj => ?_⟩
  rw [(hp_new_ne (by omega)).1]
  exact hg j (by omega)
/-- a list: n things f in an array of cap places -/
def is_L (h : PH) (tl il ta n cap : Nat) (f : Nat → RN) : Prop :=
  hp_al h tl il = true ∧ hp_vi h tl il 2 = nI n ∧ (n ≤ cap ∧ cap ≤ 1000) ∧ (∃ a j, hp_vr h tl il 1 = (a, j) ∧ hp_al h a j = true ∧ hp_ln h a j = cap ∧ (∀ k, k < n → hp_vr h a j k = f k) ∧ ((a = 5 ∧ j = 0 ∧ cap = 0) ∨ (a = ta ∧ 10 ≤ cap))) ∧ fr_t h ta
theorem is_L.te {h h' : PH} {tl il ta n cap : Nat} {f : Nat → RN} (hL : is_L h tl il ta n cap f) (e1 : hp_te h h' tl) (e2 : hp_te h h' ta) (e3 : hp_te h h' 5) : is_L h' tl il ta n cap f := by
  obtain ⟨a1, a2, a3, ⟨a, j, b1, b2, b3, b4, b5⟩, a5⟩ := hL
  refine ⟨by rw [e1.1]; exact a1, by rw [e1.2.2.1]; exact a2, a3, ⟨a, j, by rw [e1.2.2.2.1]; exact b1, ?_, ?_, fun k hk => ?_, b5⟩, a5.te e2⟩
  · rcases b5 with ⟨rfl, _⟩ | ⟨rfl, _⟩
    · rw [e3.1]; exact b2
    · rw [e2.1]; exact b2
  · rcases b5 with ⟨rfl, _⟩ | ⟨rfl, _⟩
    · rw [e3.2.1]; exact b3
    · rw [e2.2.1]; exact b3
  · rcases b5 with ⟨rfl, _⟩ | ⟨rfl, _⟩
    · rw [e3.2.2.2.1]; exact b4 k hk
    · rw [e2.2.2.2.1]; exact b4 k hk
theorem is_L.f {h : PH} {tl il ta n cap : Nat} {f f' : Nat → RN} (hL : is_L h tl il ta n cap f) (e : ∀ k, k < n → f k = f' k) : is_L h tl il ta n cap f' := by
  obtain ⟨a1, a2, a3, ⟨a, j, b1, b2, b3, b4, b5⟩, a5⟩ := hL
  exact ⟨a1, a2, a3, ⟨a, j, b1, b2, b3, fun k hk => (b4 k hk).trans (e k hk), b5⟩, a5⟩
theorem nI_m1 {n : Nat} (h : n < 2 ^ 31) : (nI n).toNatClampNeg = n := nI_clamp h
theorem in_nI {m c : Nat} (h : m < c) (h2 : m < 2 ^ 31) : vp_in (nI m) c := by
  intro q
  rcases q with q | q
  · exact nI_pos h2 q
  · rw [nI_clamp h2] at q; omega
theorem vq_i {Q : RS → PH → Prop} {h : PH} {x z : Int32} (hq : Q (.inl (some (pv_I x))) h) (e : x = z) : Q (.inl (some (pv_I z))) h := e ▸ hq
end VVB2

set_option maxRecDepth 20000 in
theorem C_J3_checkIndex_8e157 {G : GW} {h : PH} {Q : RS → PH → Prop} {m c : Nat} {r : RN} (h1 : m < c) (h2 : c < 2 ^ 31) (hq : Q (.inl (some (pv_I (nI m)))) h) : VV G 0 0 0 yJ3_checkIndex_8e157 cJ3_checkIndex_8e157 3 (some .int) [] 0 (vv_en 3 [pv_I (nI m), pv_I (nI c), pv_O r]) [] h Q := by
  show VV G 0 0 0 yJ3_checkIndex_8e157 cJ3_checkIndex_8e157 3 (some .int) [] 0 [some (pv_I (nI m)), some (pv_I (nI c)), some (pv_O r)] [] h Q
  refine v_iload_n 1 dJ3_checkIndex_8e157_0 rfl rfl ?_
  refine v_if_lt 9 4 dJ3_checkIndex_8e157_1 (by decide) rfl (fun c1 => ?_) (fun c1 => ?_)
  · exact absurd c1 (nI_pos (by omega))
  · refine v_iload_n 5 dJ3_checkIndex_8e157_4 rfl rfl ?_
    refine v_iload_n 6 dJ3_checkIndex_8e157_5 rfl rfl ?_
    refine v_icmp_lt 16 9 dJ3_checkIndex_8e157_6 (by decide) rfl (fun c6 => ?_) (fun c6 => ?_)
    · refine v_iload_n 17 dJ3_checkIndex_8e157_16 rfl rfl ?_
      refine v_ireturn dJ3_checkIndex_8e157_17 rfl ?_
      exact hq
    · exact absurd (nI_lt h1 h2) c6
set_option maxRecDepth 20000 in
theorem C_J15_checkIndex_7cf53 {G : GW} {h : PH} {Q : RS → PH → Prop} {m c : Nat} (h1 : m < c) (h2 : c < 2 ^ 31) (hq : Q (.inl (some (pv_I (nI m)))) h) : VV G 1 0 0 yJ15_checkIndex_7cf53 cJ15_checkIndex_7cf53 2 (some .int) [] 0 (vv_en 2 [pv_I (nI m), pv_I (nI c)]) [] h Q := by
  show VV G 1 0 0 yJ15_checkIndex_7cf53 cJ15_checkIndex_7cf53 2 (some .int) [] 0 [some (pv_I (nI m)), some (pv_I (nI c))] [] h Q
  refine v_iload_n 1 dJ15_checkIndex_7cf53_0 rfl rfl ?_
  refine v_iload_n 2 dJ15_checkIndex_7cf53_1 rfl rfl ?_
  refine v_null 3 dJ15_checkIndex_7cf53_2 rfl ?_
  refine v_invs (d' := 0) (k' := 0) (n' := 0) (k2 := 0) (n2 := 0) 6 [_, _, _] dJ15_checkIndex_7cf53_3 mt_J15_105 ms_J3_checkIndex_8e157 rfl rfl (of_decide_eq_true rfl) rfl (by decide) rfl rfl rfl rfl (C_J3_checkIndex_8e157 h1 h2 ?_)
  refine v_ireturn dJ15_checkIndex_7cf53_6 rfl ?_
  exact hq
set_option maxRecDepth 20000 in
theorem C_Jx4a65c_size_8abf5 {G : GW} {h : PH} {Q : RS → PH → Prop} {tl il ta n cap : Nat} {f : Nat → RN} (htl : tg_k tl = some (.inl 3)) (hta : tg_k ta = some (.inr g_O)) (hL : is_L h tl il ta n cap f) (hq : Q (.inl (some (pv_I (nI n)))) h) : VV G 0 0 0 yJx4a65c_size_8abf5 cJx4a65c_size_8abf5 1 (some .int) [] 0 (vv_en 1 [pv_O (tl, il)]) [] h Q := by
  show VV G 0 0 0 yJx4a65c_size_8abf5 cJx4a65c_size_8abf5 1 (some .int) [] 0 [some (pv_O (tl, il))] [] h Q
  refine v_aload_n 1 dJx4a65c_size_8abf5_0 rfl rfl ?_
  refine v_getfi 4 dJx4a65c_size_8abf5_1 fl_Jx4a65c_48 (by first | assumption | rfl) (by rfl) rfl ?_
  refine v_ireturn dJx4a65c_size_8abf5_4 rfl ?_
  exact vq_i hq hL.2.1.symm
set_option maxRecDepth 20000 in
theorem C_Jx4a65c_isEmpty_aae02 {G : GW} {h : PH} {Q : RS → PH → Prop} {tl il ta n cap : Nat} {f : Nat → RN} (htl : tg_k tl = some (.inl 3)) (hta : tg_k ta = some (.inr g_O)) (hL : is_L h tl il ta n cap f) (hq : Q (.inl (some (pv_I (if n = 0 then 1 else 0)))) h) : VV G 0 0 0 yJx4a65c_isEmpty_aae02 cJx4a65c_isEmpty_aae02 1 (some .boolean) [] 0 (vv_en 1 [pv_O (tl, il)]) [] h Q := by
  show VV G 0 0 0 yJx4a65c_isEmpty_aae02 cJx4a65c_isEmpty_aae02 1 (some .boolean) [] 0 [some (pv_O (tl, il))] [] h Q
  refine v_aload_n 1 dJx4a65c_isEmpty_aae02_0 rfl rfl ?_
  refine v_getfi 4 dJx4a65c_isEmpty_aae02_1 fl_Jx4a65c_48 (by first | assumption | rfl) (by rfl) rfl ?_
  refine v_if_ne 11 7 dJx4a65c_isEmpty_aae02_4 (by decide) rfl (fun c4 => ?_) (fun c4 => ?_)
  · rw [hL.2.1] at c4
    refine v_iconstv (v := 0) 12 dJx4a65c_isEmpty_aae02_11 (by decide) rfl ?_
    refine v_zreturn (ty := .boolean) (by first | rfl | decide | exact nz_if | exact nz_fi) dJx4a65c_isEmpty_aae02_12 rfl ?_
    have a3 := hL.2.2.1
    refine vq_i hq ?_
    by_cases e : n = 0
    · subst e
      first | rfl | exact absurd rfl c4 | exact absurd c4 (by decide)
    · first | exact absurd c4 (nI_ne0 (by omega) (by omega)) | exact absurd (nI_ne0 (n := n) (by omega) (by omega)) c4 | exact if_neg e
  · rw [hL.2.1] at c4
    refine v_iconstv (v := 1) 8 dJx4a65c_isEmpty_aae02_7 (by decide) rfl ?_
    refine v_goto 12 dJx4a65c_isEmpty_aae02_8 (by decide) ?_
    refine v_zreturn (ty := .boolean) (by first | rfl | decide | exact nz_if | exact nz_fi) dJx4a65c_isEmpty_aae02_12 rfl ?_
    have a3 := hL.2.2.1
    refine vq_i hq ?_
    by_cases e : n = 0
    · subst e
      first | rfl | exact absurd rfl c4 | exact absurd c4 (by decide)
    · first | exact absurd c4 (nI_ne0 (by omega) (by omega)) | exact absurd (nI_ne0 (n := n) (by omega) (by omega)) c4 | exact if_neg e
set_option maxRecDepth 20000 in
theorem C_Jx4a65c_elementData_915e3 {G : GW} {h : PH} {Q : RS → PH → Prop} {m tl il ta n cap : Nat} {f : Nat → RN} (htl : tg_k tl = some (.inl 3)) (hta : tg_k ta = some (.inr g_O)) (hL : is_L h tl il ta n cap f) (h1 : m < n) (hq : Q (.inl (some (pv_O (f m)))) h) : VV G 0 0 0 yJx4a65c_elementData_915e3 cJx4a65c_elementData_915e3 2 (some (.object "java/lang/Object")) [] 0 (vv_en 2 [pv_O (tl, il), pv_I (nI m)]) [] h Q := by
  show VV G 0 0 0 yJx4a65c_elementData_915e3 cJx4a65c_elementData_915e3 2 (some (.object "java/lang/Object")) [] 0 [some (pv_O (tl, il)), some (pv_I (nI m))] [] h Q
  obtain ⟨a1, a2, a3, ⟨a, j, b1, b2, b3, b4, b5⟩, a5⟩ := hL
  have hka : tg_k a = some (.inr g_O) := by
    rcases b5 with ⟨rfl, _⟩ | ⟨rfl, _⟩
    · rfl
    · exact hta
  refine v_aload_n 1 dJx4a65c_elementData_915e3_0 rfl rfl ?_
  refine v_getfr 4 dJx4a65c_elementData_915e3_1 fl_Jx4a65c_9 (by first | assumption | rfl) (by rfl) rfl ?_
  rw [b1]
  refine v_iload_n 5 dJx4a65c_elementData_915e3_4 rfl rfl ?_
  refine v_aald (ty := g_O) (by rfl) (by simp [g_tys]) 6 dJx4a65c_elementData_915e3_5 (by first | assumption | rfl) (by rw [b3]; exact in_nI (by omega) (by omega)) rfl ?_
  refine v_areturn dJx4a65c_elementData_915e3_6 rfl (Or.inl ⟨_, rfl⟩) ?_
  rw [nI_clamp (by omega), b4 m h1]
  exact hq
set_option maxRecDepth 20000 in
theorem C_Jx4a65c_get_915e3 {G : GW} {h : PH} {Q : RS → PH → Prop} {m tl il ta n cap : Nat} {f : Nat → RN} (htl : tg_k tl = some (.inl 3)) (hta : tg_k ta = some (.inr g_O)) (hL : is_L h tl il ta n cap f) (h1 : m < n) (hq : Q (.inl (some (pv_O (f m)))) h) : VV G 2 0 0 yJx4a65c_get_915e3 cJx4a65c_get_915e3 2 (some (.object "java/lang/Object")) [] 0 (vv_en 2 [pv_O (tl, il), pv_I (nI m)]) [] h Q := by
  show VV G 2 0 0 yJx4a65c_get_915e3 cJx4a65c_get_915e3 2 (some (.object "java/lang/Object")) [] 0 [some (pv_O (tl, il)), some (pv_I (nI m))] [] h Q
  have a2 := hL.2.1
  have a3 := hL.2.2.1
  refine v_iload_n 1 dJx4a65c_get_915e3_0 rfl rfl ?_
  refine v_aload_n 2 dJx4a65c_get_915e3_1 rfl rfl ?_
  refine v_getfi 5 dJx4a65c_get_915e3_2 fl_Jx4a65c_48 (by first | assumption | rfl) (by rfl) rfl ?_
  rw [a2]
  refine v_invs (d' := 1) (k' := 0) (n' := 0) (k2 := 0) (n2 := 0) 8 [_, _] dJx4a65c_get_915e3_5 mt_Jx4a65c_118 ms_J15_checkIndex_7cf53 rfl rfl (of_decide_eq_true rfl) rfl (by decide) rfl rfl rfl rfl (C_J15_checkIndex_7cf53 h1 (by omega) ?_)
  refine v_pop 9 dJx4a65c_get_915e3_8 rfl rfl ?_
  refine v_aload_n 10 dJx4a65c_get_915e3_9 rfl rfl ?_
  refine v_iload_n 11 dJx4a65c_get_915e3_10 rfl rfl ?_
  refine v_invv (d' := 0) (k' := 0) (n' := 0) (k2 := 0) (n2 := 0) 14 [_] dJx4a65c_get_915e3_11 mt_Jx4a65c_123 mi_Jx4a65c_elementData_915e3 me_Jx4a65c_elementData_915e3 (by first | assumption | rfl) (by rfl) rfl rfl (of_decide_eq_true rfl) rfl (by decide) rfl rfl rfl rfl (C_Jx4a65c_elementData_915e3 htl hta hL h1 ?_)
  refine v_areturn dJx4a65c_get_915e3_14 rfl (Or.inl ⟨_, rfl⟩) ?_
  exact hq
set_option maxRecDepth 20000 in
theorem C_J6_intValue_8abf5 {G : GW} {h : PH} {Q : RS → PH → Prop} {j : Nat} (hq : Q (.inl (some (pv_I (hp_vi h 4 j 0)))) h) : VV G 0 0 0 yJ6_intValue_8abf5 cJ6_intValue_8abf5 1 (some .int) [] 0 (vv_en 1 [pv_O (4, j)]) [] h Q := by
  show VV G 0 0 0 yJ6_intValue_8abf5 cJ6_intValue_8abf5 1 (some .int) [] 0 [some (pv_O (4, j))] [] h Q
  refine v_aload_n 1 dJ6_intValue_8abf5_0 rfl rfl ?_
  refine v_getfi 4 dJ6_intValue_8abf5_1 fl_J6_205 (by first | assumption | rfl) (by rfl) rfl ?_
  refine v_ireturn dJ6_intValue_8abf5_4 rfl ?_
  exact hq
