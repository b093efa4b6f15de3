section VVJ
variable {S S' : SP} {N N' : Nat}
theorem i_pk.te {u p lo : Nat} (I : i_pk S u p lo) (e : hp_tx S.1 S'.1 u p) (e62 : hp_ln S'.1 62 = hp_ln S.1 62) (c : nn_ S' 1 = nn_ S 1) : i_pk S' u p lo := by
  unfold i_pk s_n at *
  rw [e.1, e.2.2.1, e.2.2.2, e62, c]
  exact I
theorem i_lg.te {i : Nat} (I : i_lg S i) (e : hp_tx S.1 S'.1 41 i) : i_lg S' i := by
  unfold i_lg at *
  rw [e.1, e.2.2.1]
  exact I
theorem i_fl.te {f : Nat} (I : i_fl S f) (e : hp_tx S.1 S'.1 42 f) (e2 : hp_tx S.1 S'.1 62 f) (c : nn_ S' 0 = nn_ S 0) : i_fl S' f := by
  unfold i_fl s_lg s_n at *
  rw [e.1, e.2.2.1, e.2.2.2, e2.1, e2.2.1, e2.2.2.1, c]
  exact I
theorem i_pn.up {p : Nat} (I : i_pn S N p) (a : hp_al S'.1 43 p = hp_al S.1 43 p) (r : hp_vr S'.1 43 p = hp_vr S.1 43 p) (e46 : hp_tx S.1 S'.1 46 p) (e47 : hp_tx S.1 S'.1 47 p) (e62 : hp_ln S'.1 62 = hp_ln S.1 62) (c1 : nn_ S' 1 = nn_ S 1) (c10 : nn_ S' (10 + p) = nn_ S (10 + p)) (v : ∀ k, k < 3 → hp_vi S'.1 43 p k = hp_vi S.1 43 p k)
    (t6 : (hp_vi S'.1 43 p 6 = 0 ∧ hp_vi S'.1 43 p 8 = 0) ∨ (hp_vi S'.1 43 p 6 = 1 ∧ ¬ (s_fa S p).1 = 0)) (t8 : ∃ w : Nat, hp_vi S'.1 43 p 8 = nI w ∧ w ≤ 24) (t9 : ∃ w : Nat, hp_vi S'.1 43 p 9 = nI w ∧ w ≤ 400) (t10 : ∃ w : Nat, hp_vi S'.1 43 p 10 = nI w ∧ w ≤ 99) (t12 : ∃ w : Nat, hp_vi S'.1 43 p 12 = nI w ∧ w ≤ 9 * N') (t0 : (s_fa S p).1 = 0 → hp_vi S'.1 43 p 9 = 0) : i_pn S' N' p := by
  obtain ⟨b1, b2, b3, b4, b5, b6, b7, -⟩ := I
  unfold i_pn s_fa s_ba at *
  rw [a, r, e46.1, e47.1, v 0 (by decide), v 1 (by decide), v 2 (by decide), c10]
  exact ⟨b1, b2.imp id (fun q => ⟨q.1, q.2.te e46 e62 c1⟩), b3.imp id (fun q => ⟨q.1, q.2.te e47 e62 c1⟩), b4, b5, b6, b7, t6, t8, t9, t10, t12, t0⟩
theorem i_pn.te {p : Nat} (I : i_pn S N p) (e : hp_tx S.1 S'.1 43 p) (e46 : hp_tx S.1 S'.1 46 p) (e47 : hp_tx S.1 S'.1 47 p) (e62 : hp_ln S'.1 62 = hp_ln S.1 62) (c1 : nn_ S' 1 = nn_ S 1) (c10 : nn_ S' (10 + p) = nn_ S (10 + p)) (hN : N ≤ N') : i_pn S' N' p := by
  obtain ⟨-, -, -, -, -, -, -, t6, t8, t9, t10, ⟨w, t12, hw⟩, t0⟩ := id I
  refine I.up e.1 e.2.2.2 e46 e47 e62 c1 c10 (fun k _ => by rw [e.2.2.1]) ?_ ?_ ?_ ?_ ?_ ?_
  · rw [e.2.2.1]; exact t6
  · rw [e.2.2.1]; exact t8
  · rw [e.2.2.1]; exact t9
  · rw [e.2.2.1]; exact t10
  · rw [e.2.2.1]; exact ⟨w, t12, by omega⟩
  · rw [e.2.2.1]; exact t0
theorem i_pi.up {p : Nat} (I : i_pi S p) (e44 : hp_tx S.1 S'.1 44 p) (e48 : hp_tx S.1 S'.1 48 p) (a63 : hp_al S'.1 63 p = hp_al S.1 63 p ∧ hp_ln S'.1 63 p = hp_ln S.1 63 p) (a64 : hp_al S'.1 64 p = hp_al S.1 64 p ∧ hp_ln S'.1 64 p = hp_ln S.1 64 p) (e62 : hp_ln S'.1 62 = hp_ln S.1 62) (c1 : nn_ S' 1 = nn_ S 1)
    (t2 : ∀ k, k < 64 → ∃ w : Nat, hp_vi S'.1 63 p k = nI w ∧ w < 8) (t3 : ∀ k, k < 8 → ∃ w : Nat, hp_vi S'.1 64 p k = nI w ∧ w ≤ 99) (t4 : pc_ (fun k => hp_vi S'.1 63 p k) (nn_ S' (20 + p)) (nn_ S' (30 + p))) : i_pi S' p := by
  obtain ⟨b1, b2, -⟩ := I
  refine ⟨?_, ?_, t2, t3, t4⟩
  · rw [e44.1, e44.2.2.2, a63.1, a63.2, a64.1, a64.2]; exact b1
  · unfold s_pa at *
    rw [e44.2.2.2, e48.1]
    exact b2.imp id (fun q => ⟨q.1, q.2.te e48 e62 c1⟩)
theorem i_pi.te {p : Nat} (I : i_pi S p) (e44 : hp_tx S.1 S'.1 44 p) (e48 : hp_tx S.1 S'.1 48 p) (e63 : hp_tx S.1 S'.1 63 p) (e64 : hp_tx S.1 S'.1 64 p) (e62 : hp_ln S'.1 62 = hp_ln S.1 62) (c1 : nn_ S' 1 = nn_ S 1) (c2 : nn_ S' (20 + p) = nn_ S (20 + p)) (c3 : nn_ S' (30 + p) = nn_ S (30 + p)) : i_pi S' p := by
  obtain ⟨-, -, t2, t3, t4⟩ := id I
  refine I.up e44 e48 ⟨e63.1, e63.2.1⟩ ⟨e64.1, e64.2.1⟩ e62 c1 ?_ ?_ ?_
  · rw [e63.2.2.1]; exact t2
  · rw [e64.2.2.1]; exact t3
  · rw [e63.2.2.1, c2, c3]; exact t4
theorem s_sl_te : ∀ n, (∀ i, i < n → hp_vi S'.1 41 i 4 = hp_vi S.1 41 i 4) → s_sl S' n = s_sl S n
  | 0, _ => rfl
  | n + 1, e => by
    show s_sl S' n + (if hp_vi S'.1 41 n 4 = 0 then 0 else 1) = s_sl S n + _
    rw [s_sl_te n (fun i hi => e i (by omega)), e n (by omega)]
theorem s_la_te : ∀ n, (∀ i, i < n → hp_vr S'.1 43 i = hp_vr S.1 43 i) → s_la S' n = s_la S n
  | 0, _ => rfl
  | n + 1, e => by
    show s_la S' n + (if (hp_vr S'.1 43 n 3).1 = 0 then 0 else 1) + (if (hp_vr S'.1 43 n 4).1 = 0 then 0 else 1) = s_la S n + _ + _
    rw [s_la_te n (fun i hi => e i (by omega)), e n (by omega)]
theorem s_a_tx {f : Nat} {l : Int32} (e42 : hp_tx S.1 S'.1 42 f) (e41 : ∀ k, k < 4 → hp_vi S'.1 41 (s_lg S f) k = hp_vi S.1 41 (s_lg S f) k) : s_a S' f l = s_a S f l := by
  have e : s_lg S' f = s_lg S f := by unfold s_lg; rw [e42.2.2.2]
  unfold s_a s_w
  rw [e, e42.2.2.1, e41 1 (by decide), e41 2 (by decide)]
theorem s_ua_te {f : Nat} : ∀ n, (∀ l, l < n → s_a S' f (nI l) = s_a S f (nI l) ∧ hp_vi S'.1 62 f l = hp_vi S.1 62 f l) → s_ua S' f n = s_ua S f n
  | 0, _ => rfl
  | n + 1, e => by
    show s_ua S' f n + (if hp_vi S'.1 62 f n = 0 then 0 else s_a S' f (nI n)) = s_ua S f n + _
    rw [s_ua_te n (fun l hl => e l (by omega)), (e n (by omega)).1, (e n (by omega)).2]
theorem s_ut_te : ∀ n, (∀ f, f < n → s_n S' f = s_n S f ∧ ∀ l, s_a S' f (nI l) = s_a S f (nI l) ∧ hp_vi S'.1 62 f l = hp_vi S.1 62 f l) → s_ut S' n = s_ut S n
  | 0, _ => rfl
  | n + 1, e => by
    show s_ut S' n + s_ua S' n (s_n S' n) = s_ut S n + _
    rw [s_ut_te n (fun f hf => e f (by omega)), (e n (by omega)).1, s_ua_te _ (fun l _ => (e n (by omega)).2 l)]
theorem s_oa_te : ∀ n, (∀ k, k < n → S'.2.2 k = S.2.2 k ∧ hp_vi S'.1 45 (S.2.2 k) = hp_vi S.1 45 (S.2.2 k)) → s_oa S' n = s_oa S n
  | 0, _ => rfl
  | n + 1, e => by
    show s_oa S' n + hp_vi S'.1 45 (S'.2.2 n) 0 * hp_vi S'.1 45 (S'.2.2 n) 1 = s_oa S n + _
    rw [s_oa_te n (fun k hk => e k (by omega)), (e n (by omega)).1, (e n (by omega)).2]
theorem s_hd_te {rr : RN} {u p f l : Nat} (e : hp_tx S.1 S'.1 u p) : s_hd S' rr u p f l = s_hd S rr u p f l := by
  unfold s_hd
  rw [e.2.2.1, e.2.2.2]
theorem s_u1_te {f l : Nat} : ∀ n, (∀ p, p < n → hp_vr S'.1 43 p = hp_vr S.1 43 p ∧ hp_tx S.1 S'.1 46 p ∧ hp_tx S.1 S'.1 47 p) → s_u1 S' f l n = s_u1 S f l n
  | 0, _ => rfl
  | n + 1, e => by
    obtain ⟨e1, e2, e3⟩ := e n (by omega)
    show s_u1 S' f l n + s_hd S' (hp_vr S'.1 43 n 3) 46 n f l + s_hd S' (hp_vr S'.1 43 n 4) 47 n f l = s_u1 S f l n + _ + _
    rw [s_u1_te n (fun p hp => e p (by omega)), e1, s_hd_te e2, s_hd_te e3]
theorem s_u2_te {f l : Nat} : ∀ n, (∀ p, p < n → hp_vr S'.1 44 p = hp_vr S.1 44 p ∧ hp_tx S.1 S'.1 48 p) → s_u2 S' f l n = s_u2 S f l n
  | 0, _ => rfl
  | n + 1, e => by
    obtain ⟨e1, e2⟩ := e n (by omega)
    show s_u2 S' f l n + s_hd S' (hp_vr S'.1 44 n 1) 48 n f l = s_u2 S f l n + _
    rw [s_u2_te n (fun p hp => e p (by omega)), e1, s_hd_te e2]
/-- panels' and pictures' numbers changed -/
theorem Iv.up (I : Iv S N) (te : ∀ t, ¬ t = 40 ∧ ¬ t = 43 ∧ ¬ t = 63 ∧ ¬ t = 64 → hp_te S.1 S'.1 t) (a3 : hp_al S'.1 43 = hp_al S.1 43) (v3 : hp_vr S'.1 43 = hp_vr S.1 43) (a63 : hp_al S'.1 63 = hp_al S.1 63) (a64 : hp_al S'.1 64 = hp_al S.1 64) (c : ∀ j, j < 20 → nn_ S' j = nn_ S j) (o : S'.2.2 = S.2.2)
    (sm : ∀ k, 6 ≤ k → k < 11 → hp_vi S'.1 40 0 k = hp_vi S.1 40 0 k) (pn : ∀ p, p < nn_ S 2 → i_pn S' N' p) (pi : ∀ p, p < nn_ S 3 → i_pi S' p) : Iv S' N' := by
  obtain ⟨⟨c0, c1, c2, c3, c4, c5⟩, lg, fl, -, -, ⟨f1, f2, f3, f4, f5, f6⟩, s, u⟩ := I
  have hs : ∀ l f, s_a S' f (nI l) = s_a S f (nI l) := fun l f => s_a_tx ((te 42 (by decide)).x f) (fun k _ => by rw [(te 41 (by decide)).2.2.1])
  refine ⟨⟨?_, ?_, ?_, ?_, ?_, ?_⟩, fun i hi => ?_, fun f hf => ?_, fun p hp => ?_, fun p hp => ?_, ⟨?_, ?_, ?_, ?_, ?_, ?_⟩, ?_, fun f l hf hl => ?_⟩
  · rw [c 0 (by decide)]; exact c0
  · rw [c 0 (by decide), c 1 (by decide), s_sl_te (S := S) (S' := S') _ (fun i _ => by rw [(te 41 (by decide)).2.2.1])]; exact c1
  · rw [c 2 (by decide)]; exact c2
  · rw [c 3 (by decide)]; exact c3
  · rw [c 4 (by decide), c 2 (by decide), s_la_te (S := S) (S' := S') _ (fun i _ => by rw [v3])]; exact c4
  · rw [c 4 (by decide), c 5 (by decide)]; exact c5
  · rw [c 0 (by decide)] at hi; exact (lg i hi).te ((te 41 (by decide)).x i)
  · rw [c 1 (by decide)] at hf; exact (fl f hf).te ((te 42 (by decide)).x f) ((te 62 (by decide)).x f) (c 0 (by decide))
  · rw [c 2 (by decide)] at hp; exact pn p hp
  · rw [c 3 (by decide)] at hp; exact pi p hp
  · rw [c 0 (by decide), (te 41 (by decide)).1]; exact f1
  · rw [c 1 (by decide), (te 42 (by decide)).1, (te 62 (by decide)).1]; exact f2
  · rw [c 2 (by decide), a3, (te 46 (by decide)).1, (te 47 (by decide)).1]; exact f3
  · rw [c 3 (by decide), (te 44 (by decide)).1, (te 48 (by decide)).1, a63, a64]; exact f4
  · rw [c 4 (by decide), (te 45 (by decide)).1]; exact f5
  · rw [c 5 (by decide), c 4 (by decide), o, (te 45 (by decide)).1]; exact f6
  · unfold i_sm at *
    rw [c 1 (by decide), c 5 (by decide), sm 6 (by decide) (by decide), sm 7 (by decide) (by decide), sm 8 (by decide) (by decide), sm 9 (by decide) (by decide), sm 10 (by decide) (by decide), s_ut_te (S := S) (S' := S') _ (fun f _ => ⟨by unfold s_n; rw [(te 62 (by decide)).2.1], fun l => ⟨hs l f, by rw [(te 62 (by decide)).2.2.1]⟩⟩), s_oa_te (S := S) (S' := S') _ (fun k _ => ⟨by rw [o], by rw [(te 45 (by decide)).2.2.1]⟩)]
    exact s
  · rw [c 1 (by decide)] at hf
    have hl2 : l < s_n S f := by unfold s_n at *; rw [(te 62 (by decide)).2.1] at hl; exact hl
    rw [c 2 (by decide), c 3 (by decide), s_u1_te (S := S) (S' := S') _ (fun p _ => ⟨by rw [v3], (te 46 (by decide)).x p, (te 47 (by decide)).x p⟩), s_u2_te (S := S) (S' := S') _ (fun p _ => ⟨by rw [(te 44 (by decide)).2.2.2.1], (te 48 (by decide)).x p⟩), (te 62 (by decide)).2.2.1]
    exact u f l hf hl2
theorem Iv.m (I : Iv S N) (h : N ≤ N') : Iv S N' := I.up (fun _ _ => hp_te.rf) rfl rfl rfl rfl (fun _ _ => rfl) rfl (fun _ _ _ => rfl) (fun p hp => (I.2.2.2.1 p hp).te hp_tx.rf hp_tx.rf hp_tx.rf rfl rfl rfl h) (fun p hp => I.2.2.2.2.1 p hp)
/-- one panel's numbers changed -/
theorem Iv.pn {A : PH} {x : Nat} (I : Iv S N) (hN : N ≤ N') (te : ∀ t, ¬ t = 43 → hp_te S.1 A t) (al : hp_al A 43 = hp_al S.1 43) (vr : hp_vr A 43 = hp_vr S.1 43) (ne : ∀ p, ¬ p = x → hp_tx S.1 A 43 p) (v : ∀ k, k < 3 → hp_vi A 43 x k = hp_vi S.1 43 x k)
    (t : x < nn_ S 2 → ((hp_vi A 43 x 6 = 0 ∧ hp_vi A 43 x 8 = 0) ∨ (hp_vi A 43 x 6 = 1 ∧ ¬ (s_fa S x).1 = 0)) ∧ (∃ w : Nat, hp_vi A 43 x 8 = nI w ∧ w ≤ 24) ∧ (∃ w : Nat, hp_vi A 43 x 9 = nI w ∧ w ≤ 400) ∧ (∃ w : Nat, hp_vi A 43 x 10 = nI w ∧ w ≤ 99) ∧ (∃ w : Nat, hp_vi A 43 x 12 = nI w ∧ w ≤ 9 * N') ∧ ((s_fa S x).1 = 0 → hp_vi A 43 x 9 = 0)) : Iv (A, S.2) N' := by
  refine I.up (S' := (A, S.2)) (fun t ht => te t ht.2.1) al vr (te 63 (by decide)).1 (te 64 (by decide)).1 (fun _ _ => rfl) rfl (fun k _ _ => by show hp_vi A 40 0 k = _; rw [(te 40 (by decide)).2.2.1]) (fun p hp => ?_) (fun p hp => (I.2.2.2.2.1 p hp).te ((te 44 (by decide)).x p) ((te 48 (by decide)).x p) ((te 63 (by decide)).x p) ((te 64 (by decide)).x p) (te 62 (by decide)).2.1 rfl rfl rfl)
  by_cases e : p = x
  · subst e
    obtain ⟨t6, t8, t9, t10, t12, t0⟩ := t hp
    exact (I.2.2.2.1 p hp).up (congrFun al p) (congrFun vr p) ((te 46 (by decide)).x p) ((te 47 (by decide)).x p) (te 62 (by decide)).2.1 rfl rfl v t6 t8 t9 t10 t12 t0
  · exact (I.2.2.2.1 p hp).te (ne p e) ((te 46 (by decide)).x p) ((te 47 (by decide)).x p) (te 62 (by decide)).2.1 rfl rfl hN
/-- one picture's numbers changed -/
theorem Iv.pi {A : PH} {c : Nat → Nat} {x : Nat} (I : Iv S N) (hx : x < nn_ S 3) (hN : N ≤ N') (te : ∀ t, ¬ t = 63 → ¬ t = 64 → hp_te S.1 A t) (a63 : hp_al A 63 = hp_al S.1 63 ∧ hp_ln A 63 = hp_ln S.1 63) (a64 : hp_al A 64 = hp_al S.1 64 ∧ hp_ln A 64 = hp_ln S.1 64) (ne : ∀ p, ¬ p = x → hp_tx S.1 A 63 p ∧ hp_tx S.1 A 64 p) (hc : ∀ j, ¬ j = 20 + x → ¬ j = 30 + x → c j = S.2.1 j)
    (t : (∀ k, k < 64 → ∃ w : Nat, hp_vi A 63 x k = nI w ∧ w < 8) ∧ (∀ k, k < 8 → ∃ w : Nat, hp_vi A 64 x k = nI w ∧ w ≤ 99) ∧ pc_ (fun k => hp_vi A 63 x k) (c (20 + x)) (c (30 + x))) : Iv (A, c, S.2.2) N' := by
  have z3 := I.cs.2.2.2.1
  refine I.up (S' := (A, c, S.2.2)) (fun t ht => te t ht.2.2.1 ht.2.2.2) (te 43 (by decide) (by decide)).1 (te 43 (by decide) (by decide)).2.2.2.1 a63.1 a64.1 (fun j hj => hc j (by omega) (by omega)) rfl (fun k _ _ => by show hp_vi A 40 0 k = _; rw [(te 40 (by decide) (by decide)).2.2.1]) (fun p hp => (I.2.2.2.1 p hp).te ((te 43 (by decide) (by decide)).x p) ((te 46 (by decide) (by decide)).x p) ((te 47 (by decide) (by decide)).x p) (te 62 (by decide) (by decide)).2.1 (hc 1 (by omega) (by omega)) (hc (10 + p) (by have := I.cs.2.2.1; omega) (by have := I.cs.2.2.1; omega)) hN) (fun p hp => ?_)
  by_cases e : p = x
  · subst e
    obtain ⟨t2, t3, t4⟩ := t
    exact (I.2.2.2.2.1 p hp).up ((te 44 (by decide) (by decide)).x p) ((te 48 (by decide) (by decide)).x p) ⟨congrFun a63.1 p, congrFun a63.2 p⟩ ⟨congrFun a64.1 p, congrFun a64.2 p⟩ (te 62 (by decide) (by decide)).2.1 (hc 1 (by omega) (by omega)) t2 t3 t4
  · exact (I.2.2.2.2.1 p hp).te ((te 44 (by decide) (by decide)).x p) ((te 48 (by decide) (by decide)).x p) (ne p e).1 (ne p e).2 (te 62 (by decide) (by decide)).2.1 (hc 1 (by omega) (by omega)) (hc _ (by omega) (by omega)) (hc _ (by omega) (by omega))
theorem J2.te (J : J2 S) (e : hp_ln S'.1 45 = hp_ln S.1 45) (c : nn_ S' 5 = nn_ S 5) (o : S'.2.2 = S.2.2) : J2 S' := fun k hk => by
  rw [e, o]
  exact J k (c ▸ hk)
end VVJ
