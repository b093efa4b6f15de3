section VVTX
/-- one thing is as it was -/
def hp_tx (h h' : PH) (t i : Nat) : Prop := hp_al h' t i = hp_al h t i ∧ hp_ln h' t i = hp_ln h t i ∧ hp_vi h' t i = hp_vi h t i ∧ hp_vr h' t i = hp_vr h t i
theorem hp_te.x {h h' : PH} {t : Nat} (e : hp_te h h' t) (i : Nat) : hp_tx h h' t i := ⟨by rw [e.1], by rw [e.2.1], by rw [e.2.2.1], by rw [e.2.2.2.1]⟩
theorem hp_tx.rf {h : PH} {t i : Nat} : hp_tx h h t i := ⟨rfl, rfl, rfl, rfl⟩
theorem hp_tx.tr {h h1 h2 : PH} {t i : Nat} (e : hp_tx h h1 t i) (e2 : hp_tx h1 h2 t i) : hp_tx h h2 t i := ⟨e2.1.trans e.1, e2.2.1.trans e.2.1, e2.2.2.1.trans e.2.2.1, e2.2.2.2.trans e.2.2.2⟩
theorem hp_tx.i {h : PH} {t i k u j : Nat} {x : Int32} (n : ¬ (u = t ∧ j = i)) : hp_tx h (hp_seti h t i k x) u j := ⟨rfl, rfl, funext fun c => hp_seti_ne (fun z => n ⟨z.1, z.2.1⟩), rfl⟩
theorem hp_tx.r {h : PH} {t i k u j : Nat} {x : RN} (n : ¬ (u = t ∧ j = i)) : hp_tx h (hp_setr h t i k x) u j := ⟨rfl, rfl, rfl, funext fun c => hp_setr_ne (fun z => n ⟨z.1, z.2.1⟩)⟩
theorem hp_tx.n {h : PH} {t i m u j : Nat} (n : ¬ (u = t ∧ j = i)) : hp_tx h (hp_new h t i m) u j := ⟨if_neg n, if_neg n, funext fun c => if_neg n, funext fun c => if_neg n⟩
variable {S S' : SP} {h h' : PH}
theorem lg_1.tx {i : Nat} (R : lg_1 S h i) (e : hp_tx h h' 11 i) (f : hp_tx S.1 S'.1 41 i) : lg_1 S' h' i := by
  unfold lg_1 at *
  rw [e.1, e.2.2.1, f.2.2.1]
  exact R
theorem s_uc_tx {f : Nat} (e : hp_tx S.1 S'.1 62 f) : ∀ n, s_uc S' f n = s_uc S f n
  | 0 => rfl
  | n + 1 => by
    show s_uc S' f n + (if hp_vi S'.1 62 f n = 0 then 0 else 1) = s_uc S f n + (if hp_vi S.1 62 f n = 0 then 0 else 1)
    rw [s_uc_tx e n, e.2.2.1]
theorem s_w_tx {f : Nat} {l : Int32} (e1 : hp_vi S'.1 41 (s_lg S f) 0 = hp_vi S.1 41 (s_lg S f) 0 ∧ hp_vi S'.1 41 (s_lg S f) 1 = hp_vi S.1 41 (s_lg S f) 1 ∧ hp_vi S'.1 41 (s_lg S f) 2 = hp_vi S.1 41 (s_lg S f) 2 ∧ hp_vi S'.1 41 (s_lg S f) 3 = hp_vi S.1 41 (s_lg S f) 3) (e2 : hp_tx S.1 S'.1 42 f) : s_w S' f l = s_w S f l ∧ s_f S' f l = s_f S f l ∧ s_a S' f l = s_a S f l ∧ s_lg S' f = s_lg S f := by
  have h0 : s_lg S' f = s_lg S f := by show (hp_vr S'.1 42 f 0).2 = _; rw [e2.2.2.2]
  have h1 : s_w S' f l = s_w S f l := by unfold s_w; rw [h0, e1.2.1, e2.2.2.1]
  exact ⟨h1, by unfold s_f; rw [h0, e1.1, e1.2.2.2, e2.2.2.1], by unfold s_a; rw [h1, h0, e1.2.2.1], h0⟩
theorem fl_1.tx {g : Nat} (R : fl_1 S h g) (e : hp_tx h h' 12 g) (e0 : hp_tx h h' 30 g) (e1 : hp_tx h h' 31 g) (e2 : hp_tx h h' 32 g) (f1 : hp_vi S'.1 41 (s_lg S g) 0 = hp_vi S.1 41 (s_lg S g) 0 ∧ hp_vi S'.1 41 (s_lg S g) 1 = hp_vi S.1 41 (s_lg S g) 1 ∧ hp_vi S'.1 41 (s_lg S g) 2 = hp_vi S.1 41 (s_lg S g) 2 ∧ hp_vi S'.1 41 (s_lg S g) 3 = hp_vi S.1 41 (s_lg S g) 3) (f2 : hp_tx S.1 S'.1 42 g) (f3 : hp_tx S.1 S'.1 62 g) : fl_1 S' h' g := by
  obtain ⟨a1, a2, a3⟩ := R
  have E := fun l => s_w_tx (S := S) (S' := S') (f := g) (l := l) f1 f2
  have en : s_n S' g = s_n S g := f3.2.1
  refine ⟨by rw [e.1, e.2.2.2, e0.2.1, e1.2.1, e2.2.1]; exact a1, ?_, fun l hl => ?_⟩
  · rw [e.2.2.1, (E 0).2.2.2, f1.1, f1.2.2.1, f2.2.2.1, s_uc_tx f3, en]
    exact a2
  · rw [(E _).1, (E _).2.1, e0.2.2.1, e1.2.2.1, e2.2.2.1, f3.2.2.1]
    exact a3 l (by omega)
theorem pn_1.tx {p : Nat} (R : pn_1 S h p) (e : hp_tx h h' 13 p) (e1 : hp_tx h h' 16 p) (e2 : hp_tx h h' 17 p) (f : hp_tx S.1 S'.1 43 p) (f0 : ¬ (s_fa S p).1 = 0 → hp_vi S'.1 42 (hp_vr S.1 46 p 0).2 2 = hp_vi S.1 42 (hp_vr S.1 46 p 0).2 2) (f1 : hp_tx S.1 S'.1 46 p) (f2 : hp_tx S.1 S'.1 47 p) (c : S'.2.1 (10 + p) = S.2.1 (10 + p)) : pn_1 S' h' p := by
  have F : s_fa S' p = s_fa S p := by show hp_vr S'.1 43 p 3 = _; rw [f.2.2.2]
  have B : s_ba S' p = s_ba S p := by show hp_vr S'.1 43 p 4 = _; rw [f.2.2.2]
  have L : s_lf S' p = s_lf S p := by
    unfold s_lf
    rw [F, f1.2.2.2, f.2.2.1]
    by_cases q : (s_fa S p).1 = 0
    · rw [if_pos q, if_pos q]
    · rw [if_neg q, if_neg q, f0 q]
  unfold pn_1 pk_1 nn_ at *
  rw [F, B, L, c, e.1, e.2.2.1, e.2.2.2, f.2.2.1, e1.1, e1.2.2.1, e1.2.2.2, e2.1, e2.2.2.1, e2.2.2.2, f1.2.2.1, f1.2.2.2, f2.2.2.1, f2.2.2.2]
  exact R
theorem pi_1.tx {p : Nat} (R : pi_1 S h p) (e : hp_tx h h' 14 p) (e1 : hp_tx h h' 18 p) (e3 : hp_tx h h' 33 p) (e4 : hp_tx h h' 34 p) (e5 : hp_tx h h' 35 p) (e6 : hp_tx h h' 36 p) (f : hp_tx S.1 S'.1 44 p) (f1 : hp_tx S.1 S'.1 48 p) (f3 : hp_tx S.1 S'.1 63 p) (f4 : hp_tx S.1 S'.1 64 p) (c : S'.2.1 (20 + p) = S.2.1 (20 + p)) (c2 : S'.2.1 (30 + p) = S.2.1 (30 + p)) : pi_1 S' h' p := by
  unfold pi_1 pk_1 s_pa nn_ at *
  rw [e.1, e.2.2.1, e.2.2.2, e1.1, e1.2.2.1, e1.2.2.2, e3.2.1, e3.2.2.1, e4.2.1, e4.2.2.1, e5.2.1, e6.2.1, f.2.2.2, f1.2.2.1, f1.2.2.2, f3.2.2.1, f4.2.2.1, c, c2]
  exact R
/-- a count put -/
def c_up (c : Nat → Nat) (k v : Nat) : Nat → Nat := fun j => if j = k then v else c j
theorem c_at {c : Nat → Nat} {k v : Nat} : c_up c k v k = v := if_pos rfl
theorem c_ne {c : Nat → Nat} {k v j : Nat} (n : ¬ j = k) : c_up c k v j = c j := if_neg n
/-- the other counts and their lists, where one count goes -/
theorem ixf_w {c : Int32} (h : ¬ ixf_ c tx_w 0 < 0) : (c = 119 ∨ c = 109 ∨ c = 111 ∨ c = 104) ∧ (∃ w : Nat, ixf_ c tx_w 0 = nI w ∧ w < 4) ∧ wd_c (ixf_ c tx_w 0) = c := by
  unfold ixf_ at *
  by_cases q1 : nI 119 = c
  · subst q1; exact ⟨Or.inl rfl, ⟨0, by rw [if_pos rfl], by decide⟩, by rw [if_pos rfl]; rfl⟩
  rw [if_neg q1] at *
  unfold ixf_ at *
  by_cases q2 : nI 109 = c
  · subst q2; exact ⟨Or.inr (Or.inl rfl), ⟨1, by rw [if_pos rfl], by decide⟩, by rw [if_pos rfl]; rfl⟩
  rw [if_neg q2] at *
  unfold ixf_ at *
  by_cases q3 : nI 111 = c
  · subst q3; exact ⟨Or.inr (Or.inr (Or.inl rfl)), ⟨2, by rw [if_pos rfl], by decide⟩, by rw [if_pos rfl]; rfl⟩
  rw [if_neg q3] at *
  unfold ixf_ at *
  by_cases q4 : nI 104 = c
  · subst q4; exact ⟨Or.inr (Or.inr (Or.inr rfl)), ⟨3, by rw [if_pos rfl], by decide⟩, by rw [if_pos rfl]; rfl⟩
  rw [if_neg q4] at h
  exact absurd (show (-1 : Int32) < 0 by decide) h
theorem ixf_f {c : Int32} (h : ¬ ixf_ c tx_f 0 < 0) : c = 112 ∨ c = 99 ∨ c = 98 := by
  unfold ixf_ at h
  by_cases q1 : nI 112 = c
  · exact Or.inl q1.symm
  rw [if_neg q1] at h
  unfold ixf_ at h
  by_cases q2 : nI 99 = c
  · exact Or.inr (Or.inl q2.symm)
  rw [if_neg q2] at h
  unfold ixf_ at h
  by_cases q3 : nI 98 = c
  · exact Or.inr (Or.inr q3.symm)
  rw [if_neg q3] at h
  exact absurd (show (-1 : Int32) < 0 by decide) h
theorem ixf_y {c : Int32} (h : ¬ ixf_ c tx_y 0 < 0) : c = 102 ∨ c = 113 ∨ c = 114 ∨ c = 115 := by
  unfold ixf_ at h
  by_cases q1 : nI 102 = c
  · exact Or.inl q1.symm
  rw [if_neg q1] at h
  unfold ixf_ at h
  by_cases q2 : nI 113 = c
  · exact Or.inr (Or.inl q2.symm)
  rw [if_neg q2] at h
  unfold ixf_ at h
  by_cases q3 : nI 114 = c
  · exact Or.inr (Or.inr (Or.inl q3.symm))
  rw [if_neg q3] at h
  unfold ixf_ at h
  by_cases q4 : nI 115 = c
  · exact Or.inr (Or.inr (Or.inr q4.symm))
  rw [if_neg q4] at h
  exact absurd (show (-1 : Int32) < 0 by decide) h
theorem ixf_c {c : Int32} (h : ¬ ixf_ c tx_c 0 < 0) : c = 115 ∨ c = 99 ∨ c = 98 := by
  unfold ixf_ at h
  by_cases q1 : nI 115 = c
  · exact Or.inl q1.symm
  rw [if_neg q1] at h
  unfold ixf_ at h
  by_cases q2 : nI 99 = c
  · exact Or.inr (Or.inl q2.symm)
  rw [if_neg q2] at h
  unfold ixf_ at h
  by_cases q3 : nI 98 = c
  · exact Or.inr (Or.inr q3.symm)
  rw [if_neg q3] at h
  exact absurd (show (-1 : Int32) < 0 by decide) h
end VVTX
