section VVTE
theorem vi_i {h : PH} {t i k u j l : Nat} {x : Int32} : hp_vi (hp_seti h t i k x) u j l = if u = t ∧ j = i ∧ l = k then x else hp_vi h u j l := rfl
theorem vr_r {h : PH} {t i k u j l : Nat} {x : RN} : hp_vr (hp_setr h t i k x) u j l = if u = t ∧ j = i ∧ l = k then x else hp_vr h u j l := rfl
theorem vr_i {h : PH} {t i k u j l : Nat} {x : Int32} : hp_vr (hp_seti h t i k x) u j l = hp_vr h u j l := rfl
theorem vi_r {h : PH} {t i k u j l : Nat} {x : RN} : hp_vi (hp_setr h t i k x) u j l = hp_vi h u j l := rfl
theorem ln_i {h : PH} {t i k u j : Nat} {x : Int32} : hp_ln (hp_seti h t i k x) u j = hp_ln h u j := rfl
theorem ln_r {h : PH} {t i k u j : Nat} {x : RN} : hp_ln (hp_setr h t i k x) u j = hp_ln h u j := rfl
theorem vi_n {h : PH} {t i n u j l : Nat} : hp_vi (hp_new h t i n) u j l = if u = t ∧ j = i then 0 else hp_vi h u j l := rfl
theorem vr_n {h : PH} {t i n u j l : Nat} : hp_vr (hp_new h t i n) u j l = if u = t ∧ j = i then (0, 0) else hp_vr h u j l := rfl
theorem ln_n {h : PH} {t i n u j : Nat} : hp_ln (hp_new h t i n) u j = if u = t ∧ j = i then n else hp_ln h u j := rfl
theorem s_uc_te {S S' : SP} {f : Nat} (e : hp_te S.1 S'.1 62) : ∀ n, s_uc S' f n = s_uc S f n
  | 0 => rfl
  | n + 1 => by
    show s_uc S' f n + (if hp_vi S'.1 62 f n = 0 then 0 else 1) = s_uc S f n + (if hp_vi S.1 62 f n = 0 then 0 else 1)
    rw [s_uc_te e n, e.2.2.1]
variable {S S' : SP} {h h' : PH}
theorem q1_0.te (R : q1_0 S h) (e : hp_te h h' 10) (f : hp_vi S'.1 40 = hp_vi S.1 40) : q1_0 S' h' := by
  unfold q1_0 at *
  rw [e.1, e.2.2.1, e.2.2.2.1, f]
  exact R
theorem q1_L.te (R : q1_L S h) (e : ∀ t, (20 ≤ t ∧ t < 30) ∨ t = 5 → hp_te h h' t) (f : S'.2 = S.2) : q1_L S' h' := by
  unfold q1_L nn_ at *
  rw [f]
  obtain ⟨a0, a1, a2, a3, a4⟩ := R
  exact ⟨a0.te (e _ (by decide)) (e _ (by decide)) (e _ (by decide)), a1.te (e _ (by decide)) (e _ (by decide)) (e _ (by decide)), a2.te (e _ (by decide)) (e _ (by decide)) (e _ (by decide)), a3.te (e _ (by decide)) (e _ (by decide)) (e _ (by decide)), a4.te (e _ (by decide)) (e _ (by decide)) (e _ (by decide))⟩
theorem q1_1.te (R : q1_1 S h) (e : hp_te h h' 11) (f : hp_te S.1 S'.1 41) (c : S'.2.1 0 = S.2.1 0) : q1_1 S' h' := by
  unfold q1_1 lg_1 nn_ at *
  rw [c, e.1, e.2.2.1, f.2.2.1]
  exact R
theorem fl_1.te {g : Nat} (R : fl_1 S h g) (e : hp_te h h' 12) (e0 : hp_te h h' 30) (e1 : hp_te h h' 31) (e2 : hp_te h h' 32) (f1 : hp_te S.1 S'.1 41) (f2 : hp_te S.1 S'.1 42) (f3 : hp_te S.1 S'.1 62) : fl_1 S' h' g := by
  obtain ⟨a1, a2, a3⟩ := R
  have E := fun l => s_w_te (S := S) (S' := S') (f := g) (l := l) f1 f2
  refine ⟨by rw [e.1, e.2.2.2.1, e0.2.1, e1.2.1, e2.2.1]; exact a1, ?_, fun l hl => ?_⟩
  · rw [e.2.2.1, f1.2.2.1, f2.2.2.1, (E 0).2.2.2, s_uc_te f3, show s_n S' g = s_n S g from by show hp_ln S'.1 62 g = _; rw [f3.2.1]]
    exact a2
  · rw [(E _).1, (E _).2.1, e0.2.2.1, e1.2.2.1, e2.2.2.1, f3.2.2.1]
    exact a3 l (by have : s_n S' g = s_n S g := by show hp_ln S'.1 62 g = _; rw [f3.2.1]
                   omega)
theorem q1_2.te (R : q1_2 S h) (e : hp_te h h' 12) (e0 : hp_te h h' 30) (e1 : hp_te h h' 31) (e2 : hp_te h h' 32) (f1 : hp_te S.1 S'.1 41) (f2 : hp_te S.1 S'.1 42) (f3 : hp_te S.1 S'.1 62) (c : S'.2.1 1 = S.2.1 1) : q1_2 S' h' := by
  refine ⟨fun g hg => (R.1 g (by unfold nn_ at *; omega)).te e e0 e1 e2 f1 f2 f3, fun g hg => ?_⟩
  rw [e.1, e0.1, e1.1, e2.1]
  exact R.2 g (by unfold nn_ at *; omega)
theorem pn_1.te {p : Nat} (R : pn_1 S h p) (e : ∀ k, hp_al h' 13 p = hp_al h 13 p ∧ hp_vi h' 13 p k = hp_vi h 13 p k ∧ hp_vr h' 13 p k = hp_vr h 13 p k) (e1 : hp_te h h' 16) (e2 : hp_te h h' 17) (f : ∀ k, hp_vi S'.1 43 p k = hp_vi S.1 43 p k ∧ hp_vr S'.1 43 p k = hp_vr S.1 43 p k) (f0 : hp_te S.1 S'.1 42) (f1 : hp_te S.1 S'.1 46) (f2 : hp_te S.1 S'.1 47) (c : S'.2.1 (10 + p) = S.2.1 (10 + p)) : pn_1 S' h' p := by
  have F : s_fa S' p = s_fa S p := (f 3).2
  have B : s_ba S' p = s_ba S p := (f 4).2
  have L : s_lf S' p = s_lf S p := by unfold s_lf; rw [F, f1.2.2.2.1, f0.2.2.1, (f 9).1]
  unfold pn_1 pk_1 nn_ at *
  rw [F, B, L, c, e1.1, e1.2.2.1, e1.2.2.2.1, e2.1, e2.2.2.1, e2.2.2.2.1, f1.2.2.1, f1.2.2.2.1, f2.2.2.1, f2.2.2.2.1]
  simp only [(e _).1, (e _).2.1, (e _).2.2, (f _).1] at *
  rw [(e 0).1]
  exact R
theorem q1_3.te (R : q1_3 S h) (e : hp_te h h' 13) (e1 : hp_te h h' 16) (e2 : hp_te h h' 17) (f : hp_te S.1 S'.1 43) (f0 : hp_te S.1 S'.1 42) (f1 : hp_te S.1 S'.1 46) (f2 : hp_te S.1 S'.1 47) (c : S'.2.1 2 = S.2.1 2) (c2 : ∀ p, p < S.2.1 2 → S'.2.1 (10 + p) = S.2.1 (10 + p)) : q1_3 S' h' := by
  refine ⟨fun p hp => (R.1 p (by unfold nn_ at *; omega)).te (fun k => ⟨by rw [e.1], by rw [e.2.2.1], by rw [e.2.2.2.1]⟩) e1 e2 (fun k => ⟨by rw [f.2.2.1], by rw [f.2.2.2.1]⟩) f0 f1 f2 (c2 p (by unfold nn_ at *; omega)), fun p hp => ?_⟩
  rw [e.1, e1.1, e2.1]
  exact R.2 p (by unfold nn_ at *; omega)
/-- only one panel is another -/
theorem q1_3.up {p : Nat} (R : q1_3 S h) (e : ∀ j, ¬ j = p → ∀ k, hp_vi h' 13 j k = hp_vi h 13 j k ∧ hp_vr h' 13 j k = hp_vr h 13 j k) (ea : hp_al h' 13 = hp_al h 13) (e1 : hp_te h h' 16) (e2 : hp_te h h' 17) (f : ∀ j, ¬ j = p → ∀ k, hp_vi S'.1 43 j k = hp_vi S.1 43 j k ∧ hp_vr S'.1 43 j k = hp_vr S.1 43 j k) (f0 : hp_te S.1 S'.1 42) (f1 : hp_te S.1 S'.1 46) (f2 : hp_te S.1 S'.1 47) (c : S'.2.1 = S.2.1) (P : pn_1 S' h' p) : q1_3 S' h' := by
  refine ⟨fun j hj => ?_, fun j hj => ?_⟩
  · by_cases q : j = p
    · exact q ▸ P
    · exact (R.1 j (by unfold nn_ at *; rw [c] at hj; exact hj)).te (fun k => ⟨by rw [ea], e j q k⟩) e1 e2 (f j q) f0 f1 f2 (by rw [c])
  · rw [ea, e1.1, e2.1]
    exact R.2 j (by unfold nn_ at *; rw [c] at hj; exact hj)
theorem pi_1.te {p : Nat} (R : pi_1 S h p) (e : hp_te h h' 14) (e1 : hp_te h h' 18) (e3 : hp_te h h' 33) (e4 : hp_te h h' 34) (e5 : hp_te h h' 35) (e6 : hp_te h h' 36) (f : hp_te S.1 S'.1 44) (f1 : hp_te S.1 S'.1 48) (f3 : hp_te S.1 S'.1 63) (f4 : hp_te S.1 S'.1 64) (c : S'.2.1 (20 + p) = S.2.1 (20 + p)) (c2 : S'.2.1 (30 + p) = S.2.1 (30 + p)) : pi_1 S' h' p := by
  unfold pi_1 pk_1 s_pa nn_ at *
  rw [e.1, e.2.2.1, e.2.2.2.1, e1.1, e1.2.2.1, e1.2.2.2.1, e3.2.1, e3.2.2.1, e4.2.1, e4.2.2.1, e5.2.1, e6.2.1, f.2.2.2.1, f1.2.2.1, f1.2.2.2.1, f3.2.2.1, f4.2.2.1, c, c2]
  exact R
theorem q1_4.te (R : q1_4 S h) (e : hp_te h h' 14) (e1 : hp_te h h' 18) (e3 : hp_te h h' 33) (e4 : hp_te h h' 34) (e5 : hp_te h h' 35) (e6 : hp_te h h' 36) (f : hp_te S.1 S'.1 44) (f1 : hp_te S.1 S'.1 48) (f3 : hp_te S.1 S'.1 63) (f4 : hp_te S.1 S'.1 64) (c0 : S'.2.1 3 = S.2.1 3) (c : ∀ p, p < S.2.1 3 → S'.2.1 (20 + p) = S.2.1 (20 + p) ∧ S'.2.1 (30 + p) = S.2.1 (30 + p)) : q1_4 S' h' := by
  refine ⟨fun p hp => (R.1 p (by unfold nn_ at *; omega)).te e e1 e3 e4 e5 e6 f f1 f3 f4 (c p (by unfold nn_ at *; omega)).1 (c p (by unfold nn_ at *; omega)).2, fun p hp => ?_⟩
  rw [e.1, e1.1, e3.1, e4.1, e5.1, e6.1]
  exact R.2 p (by unfold nn_ at *; omega)
theorem q1_5.te (R : q1_5 S h) (e : hp_te h h' 15) (f : hp_te S.1 S'.1 45) (c : S'.2 = S.2) : q1_5 S' h' := by
  unfold q1_5 nn_ at *
  rw [c, e.1, e.2.2.1, f.2.2.1]
  exact R
/-- the class's things stay where its tags do -/
theorem Rp1.te (R : Rp1 S h) (e : ∀ t, (10 ≤ t ∧ t < 40) ∨ t = 5 → hp_te h h' t) : Rp1 S h' := by
  obtain ⟨R0, RL, R1, R2, R3, R4, R5⟩ := R
  exact ⟨R0.te (e _ (by decide)) rfl, RL.te (fun t ht => e t (by omega)) rfl, R1.te (e _ (by decide)) hp_te.rf rfl, R2.te (e _ (by decide)) (e _ (by decide)) (e _ (by decide)) (e _ (by decide)) hp_te.rf hp_te.rf hp_te.rf rfl, R3.te (e _ (by decide)) (e _ (by decide)) (e _ (by decide)) hp_te.rf hp_te.rf hp_te.rf hp_te.rf rfl (fun _ _ => rfl), R4.te (e _ (by decide)) (e _ (by decide)) (e _ (by decide)) (e _ (by decide)) (e _ (by decide)) (e _ (by decide)) hp_te.rf hp_te.rf hp_te.rf hp_te.rf rfl (fun _ _ => ⟨rfl, rfl⟩), R5.te (e _ (by decide)) hp_te.rf rfl⟩
end VVTE
