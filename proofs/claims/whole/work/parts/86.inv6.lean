section VVJ6
variable {S B : SP} {N : Nat}
theorem s_la_up {S' : SP} {p u sl : Nat} (hu : (u = 46 ∧ sl = 3) ∨ (u = 47 ∧ sl = 4)) (r : ∀ i k, hp_vr S'.1 43 i k = if i = p ∧ k = sl then (u, p) else hp_vr S.1 43 i k) (h0 : (hp_vr S.1 43 p sl).1 = 0) : ∀ n, s_la S' n = s_la S n + (if p < n then 1 else 0)
  | 0 => rfl
  | n + 1 => by
    show s_la S' n + (if (hp_vr S'.1 43 n 3).1 = 0 then 0 else 1) + (if (hp_vr S'.1 43 n 4).1 = 0 then 0 else 1) = s_la S n + (if (hp_vr S.1 43 n 3).1 = 0 then 0 else 1) + (if (hp_vr S.1 43 n 4).1 = 0 then 0 else 1) + _
    rw [s_la_up hu r h0 n]
    by_cases e : n = p
    · subst e
      rw [if_neg (Nat.lt_irrefl n), if_pos (Nat.lt_succ_self n)]
      rcases hu with ⟨rfl, rfl⟩ | ⟨rfl, rfl⟩
      · have r3 : hp_vr S'.1 43 n 3 = (46, n) := (r n 3).trans (if_pos ⟨rfl, rfl⟩)
        have r4 : hp_vr S'.1 43 n 4 = hp_vr S.1 43 n 4 := (r n 4).trans (if_neg (by omega))
        rw [r3, r4, if_pos h0, if_neg (fun q => absurd q (by decide : ¬ (46 : Nat) = 0))]
        omega
      · have r3 : hp_vr S'.1 43 n 3 = hp_vr S.1 43 n 3 := (r n 3).trans (if_neg (by omega))
        have r4 : hp_vr S'.1 43 n 4 = (47, n) := (r n 4).trans (if_pos ⟨rfl, rfl⟩)
        have z4 : (if (hp_vr S.1 43 n 4).1 = 0 then 0 else 1) = 0 := if_pos h0
        rw [r3, r4, z4]
        show _ + (if (47 : Nat) = 0 then 0 else 1) = _
        rw [if_neg (by decide : ¬ (47 : Nat) = 0)]
        omega
    · have r3 : hp_vr S'.1 43 n 3 = hp_vr S.1 43 n 3 := (r n 3).trans (if_neg (fun z => e z.1))
      have r4 : hp_vr S'.1 43 n 4 = hp_vr S.1 43 n 4 := (r n 4).trans (if_neg (fun z => e z.1))
      rw [r3, r4]
      by_cases q : p < n
      · have q1 : (if p < n then 1 else 0) = 1 := if_pos q
        have q2 : (if p < n + 1 then 1 else 0) = 1 := if_pos (by omega)
        rw [q1, q2]; omega
      · have q1 : (if p < n then 1 else 0) = 0 := if_neg q
        have q2 : (if p < n + 1 then 1 else 0) = 0 := if_neg (by omega)
        rw [q1, q2]; omega
theorem s_hd_nw {S' : SP} {u p f a m g l : Nat} (h0 : u ≠ 0) (ru : hp_vr S'.1 u p 0 = (42, f)) (e1 : hp_vi S'.1 u p 1 = nI a) (e2 : hp_vi S'.1 u p 2 = nI m) (ha : a < 2 ^ 31) (hm : m < 2 ^ 31) : s_hd S' (u, p) u p g l = if g = f ∧ a ≤ l ∧ l < a + m then 1 else 0 := by
  unfold s_hd cl_
  rw [ru, e1, e2, nI_clamp ha, nI_clamp hm]
  by_cases q : g = f ∧ a ≤ l ∧ l < a + m
  · rw [if_pos q, if_pos ⟨h0, q.1.symm, q.2⟩]
  · rw [if_neg q, if_neg (fun z => q ⟨z.2.1.symm, z.2.2⟩)]
theorem s_hd_z {S' : SP} {rr : RN} {u p g l : Nat} (h : rr.1 = 0) : s_hd S' rr u p g l = 0 := if_neg (fun q => q.1 h)
theorem s_u1_up {S' : SP} {p u sl f a m g l : Nat} (hu : (u = 46 ∧ sl = 3) ∨ (u = 47 ∧ sl = 4)) (r : ∀ i k, hp_vr S'.1 43 i k = if i = p ∧ k = sl then (u, p) else hp_vr S.1 43 i k) (h0 : (hp_vr S.1 43 p sl).1 = 0) (x : ∀ t i, (t = 46 ∨ t = 47) → ¬ (t = u ∧ i = p) → hp_tx S.1 S'.1 t i) (ru : hp_vr S'.1 u p 0 = (42, f)) (e1 : hp_vi S'.1 u p 1 = nI a) (e2 : hp_vi S'.1 u p 2 = nI m) (ha : a < 2 ^ 31) (hm : m < 2 ^ 31) : ∀ n, s_u1 S' g l n = s_u1 S g l n + (if p < n then (if g = f ∧ a ≤ l ∧ l < a + m then 1 else 0) else 0)
  | 0 => rfl
  | n + 1 => by
    show s_u1 S' g l n + s_hd S' (hp_vr S'.1 43 n 3) 46 n g l + s_hd S' (hp_vr S'.1 43 n 4) 47 n g l = s_u1 S g l n + s_hd S (hp_vr S.1 43 n 3) 46 n g l + s_hd S (hp_vr S.1 43 n 4) 47 n g l + _
    rw [s_u1_up hu r h0 x ru e1 e2 ha hm n]
    by_cases e : n = p
    · subst e
      rw [if_neg (Nat.lt_irrefl n), if_pos (Nat.lt_succ_self n)]
      rcases hu with ⟨rfl, rfl⟩ | ⟨rfl, rfl⟩
      · have r3 : hp_vr S'.1 43 n 3 = (46, n) := (r n 3).trans (if_pos ⟨rfl, rfl⟩)
        have r4 : hp_vr S'.1 43 n 4 = hp_vr S.1 43 n 4 := (r n 4).trans (if_neg (by omega))
        rw [r3, r4, s_hd_nw (by decide) ru e1 e2 ha hm, s_hd_z (S' := S) h0, s_hd_te (x 47 n (Or.inr rfl) (by omega))]
        omega
      · have r3 : hp_vr S'.1 43 n 3 = hp_vr S.1 43 n 3 := (r n 3).trans (if_neg (by omega))
        have r4 : hp_vr S'.1 43 n 4 = (47, n) := (r n 4).trans (if_pos ⟨rfl, rfl⟩)
        rw [r3, r4, s_hd_nw (by decide) ru e1 e2 ha hm, s_hd_z (S' := S) h0, s_hd_te (x 46 n (Or.inl rfl) (by omega))]
        omega
    · have r3 : hp_vr S'.1 43 n 3 = hp_vr S.1 43 n 3 := (r n 3).trans (if_neg (fun z => e z.1))
      have r4 : hp_vr S'.1 43 n 4 = hp_vr S.1 43 n 4 := (r n 4).trans (if_neg (fun z => e z.1))
      rw [r3, r4, s_hd_te (x 46 n (Or.inl rfl) (fun z => e z.2)), s_hd_te (x 47 n (Or.inr rfl) (fun z => e z.2))]
      by_cases q : p < n
      · rw [if_pos q, if_pos (by omega : p < n + 1)]; omega
      · rw [if_neg q, if_neg (by omega : ¬ p < n + 1)]; omega
theorem s_u2_up {S' : SP} {p f a m g l : Nat} (r : ∀ i, hp_vr S'.1 44 i 1 = if i = p then (48, p) else hp_vr S.1 44 i 1) (h0 : (hp_vr S.1 44 p 1).1 = 0) (x : ∀ i, ¬ i = p → hp_tx S.1 S'.1 48 i) (ru : hp_vr S'.1 48 p 0 = (42, f)) (e1 : hp_vi S'.1 48 p 1 = nI a) (e2 : hp_vi S'.1 48 p 2 = nI m) (ha : a < 2 ^ 31) (hm : m < 2 ^ 31) : ∀ n, s_u2 S' g l n = s_u2 S g l n + (if p < n then (if g = f ∧ a ≤ l ∧ l < a + m then 1 else 0) else 0)
  | 0 => rfl
  | n + 1 => by
    show s_u2 S' g l n + s_hd S' (hp_vr S'.1 44 n 1) 48 n g l = s_u2 S g l n + s_hd S (hp_vr S.1 44 n 1) 48 n g l + _
    rw [s_u2_up r h0 x ru e1 e2 ha hm n, r]
    by_cases e : n = p
    · subst e
      rw [if_neg (Nat.lt_irrefl n), if_pos (Nat.lt_succ_self n), if_pos rfl, s_hd_nw (by decide) ru e1 e2 ha hm, s_hd_z (S' := S) h0]
    · rw [if_neg e, s_hd_te (x n e)]
      by_cases q : p < n
      · rw [if_pos q, if_pos (by omega : p < n + 1)]; omega
      · rw [if_neg q, if_neg (by omega : ¬ p < n + 1)]; omega
theorem Iv.of (I : Iv S N) (J : J2 S) : of_ok S := ⟨I.2.2.2.2.2.1.2.2.2.2.1, I.2.2.2.2.2.1.2.2.2.2.2, I.1.2.2.2.2.2, J⟩
theorem of_ok.te {S' : SP} (F : of_ok S) (e : hp_te S.1 S'.1 45) (c : S'.2 = S.2) : of_ok S' := by
  obtain ⟨f1, f2, f3, f4⟩ := F
  have e2 : S'.2.1 = S.2.1 := by rw [c]
  have e3 : S'.2.2 = S.2.2 := by rw [c]
  unfold of_ok nn_
  rw [e.1, e2, e3]
  exact ⟨f1, f2, f3, fun k hk => by rw [e.2.1, e3]; exact f4 k (by unfold nn_ at hk ⊢; rw [← e2]; exact hk)⟩
theorem i3_sm (a b c o d e x y z o' : Int32) (h : o' + z = o + (x - y)) : a + y + b + c + o' + d + (e + z) = a + b + c + o + d + e + x := by
  have h2 : o' + z + y = o + x := by rw [h, Int32.sub_eq_add_neg, Int32.add_assoc, Int32.add_assoc x, Int32.add_comm (-y) y, ← Int32.sub_eq_add_neg, Int32.sub_self, Int32.add_zero]
  have h3 : a + y + b + c + o' + d + (e + z) = a + b + c + d + e + (o' + z + y) := by
    simp only [Int32.add_assoc]
    congr 1
    rw [i3_lc y b, i3_lc y c, i3_lc o' d, i3_lc y d, i3_lc o' e, i3_lc y e, i3_lc y o', Int32.add_comm y z]
  rw [h3, h2]
  simp only [Int32.add_assoc]
  congr 3
  rw [i3_lc o d, i3_lc o e]
theorem iv_ly {p u sl f a m : Nat} (I : Iv S N) (J : J2 S) (hB2 : B.2 = S.2) (hp : p < nn_ S 2) (hf : f < nn_ S 1) (ham : a + m ≤ s_n S f) (m1 : 1 ≤ m) (m8 : m ≤ 8) (h62 : ∀ k, k < m → hp_vi S.1 62 f (a + k) = 0) (hu : (u = 46 ∧ sl = 3) ∨ (u = 47 ∧ sl = 4))
    (te : ∀ t, ¬ t = u ∧ ¬ t = 43 ∧ ¬ t = 40 → hp_te S.1 B.1 t) (a43 : hp_al B.1 43 = hp_al S.1 43) (v43 : ∀ i k, ¬ k = 5 → hp_vi B.1 43 i k = hp_vi S.1 43 i k) (r43 : ∀ i k, hp_vr B.1 43 i k = if i = p ∧ k = sl then (u, p) else hp_vr S.1 43 i k) (xu : ∀ i, ¬ i = p → hp_tx S.1 B.1 u i) (alu : hp_al B.1 u p = true) (ru : hp_vr B.1 u p 0 = (42, f)) (iu1 : hp_vi B.1 u p 1 = nI a) (iu2 : hp_vi B.1 u p 2 = nI m)
    (sum : hp_vi B.1 40 0 7 + hp_vi B.1 40 0 8 = hp_vi S.1 40 0 7 + hp_vi S.1 43 p 0 * hp_vi S.1 43 p 1 + hp_vi S.1 40 0 8) (s40 : ∀ k, k = 6 ∨ k = 9 ∨ k = 10 → hp_vi B.1 40 0 k = hp_vi S.1 40 0 k) (h0 : (hp_vr S.1 43 p sl).1 = 0) (t60 : hp_vi S.1 43 p 6 = 0) : Iv (ws_up (ly_ B p f a m).1 (ly_ B p f a m).2) (N + 1) ∧ J2 (ws_up (ly_ B p f a m).1 (ly_ B p f a m).2) := by
  have hn24 := I.n24 hf
  have z2 := I.cs.2.2.1
  obtain ⟨⟨c0, c1, c2, c3, c4, c5⟩, lg, fl, pn, pi, ⟨f1, f2, f3, f4, f5, f6⟩, s, us⟩ := id I
  have hu0 : ¬ u = 40 ∧ ¬ u = 41 ∧ ¬ u = 42 ∧ ¬ u = 43 ∧ ¬ u = 44 ∧ ¬ u = 45 ∧ ¬ u = 48 ∧ ¬ u = 62 ∧ ¬ u = 63 ∧ ¬ u = 64 ∧ ¬ u = 0 := by omega
  -- the laid state
  have F := ((I.of J).te (S' := B) (te 45 (by omega)) hB2).te (S' := su_ B f a m) (su_te B f a (by decide) m) (su_2 B f a m)
  have X := of_ls (S := su_ B f a m) f a (s_st B p (nI m)) (hp_vi B.1 43 p 1) (sm_a B f a m - hp_vi B.1 43 p 0 * hp_vi B.1 43 p 1) F m
  have TL : ∀ t, ¬ t = 62 ∧ ¬ t = 45 ∧ ¬ t = 40 → hp_te B.1 (ws_up (ly_ B p f a m).1 (ly_ B p f a m).2).1 t := fun t q => ((su_te B f a q.1 m).tr (ls_te _ _ _ _ _ _ q.2.1 m)).tr (hp_te.i q.2.2)
  have E62 : hp_te (su_ B f a m).1 (ws_up (ly_ B p f a m).1 (ly_ B p f a m).2).1 62 := (ls_te _ _ _ _ _ _ (by decide) m).tr (hp_te.i (by decide))
  have E45 : hp_te (ly_ B p f a m).1.1 (ws_up (ly_ B p f a m).1 (ly_ B p f a m).2).1 45 := hp_te.i (by decide)
  have CC : ∀ j, ¬ j = 4 → ¬ j = 5 → nn_ (ws_up (ly_ B p f a m).1 (ly_ B p f a m).2) j = nn_ S j := fun j q1 q2 => by
    show (ly_ B p f a m).1.2.1 j = _
    have h := (ls_c (su_ B f a m) f a (s_st B p (nI m)) (hp_vi B.1 43 p 1) (sm_a B f a m - hp_vi B.1 43 p 0 * hp_vi B.1 43 p 1) m).1 j q1 q2
    unfold ly_
    rw [h, su_2, hB2]
  have VK : ∀ k, ¬ k = 10 → hp_vi (ws_up (ly_ B p f a m).1 (ly_ B p f a m).2).1 40 0 k = hp_vi B.1 40 0 k := fun k hk => by
    refine (hp_seti_ne (fun z => hk z.2.2)).trans ?_
    unfold ly_
    rw [(ls_te (su_ B f a m) f a (s_st B p (nI m)) (hp_vi B.1 43 p 1) (sm_a B f a m - hp_vi B.1 43 p 0 * hp_vi B.1 43 p 1) (t := 40) (by decide) m).2.2.1, (su_te B f a (t := 40) (by decide) m).2.2.1]
  have V10 : hp_vi (ws_up (ly_ B p f a m).1 (ly_ B p f a m).2).1 40 0 10 = hp_vi B.1 40 0 10 + (ly_ B p f a m).2 := by
    refine hp_seti_at.trans ?_
    unfold ly_
    rw [(ls_te (su_ B f a m) f a (s_st B p (nI m)) (hp_vi B.1 43 p 1) (sm_a B f a m - hp_vi B.1 43 p 0 * hp_vi B.1 43 p 1) (t := 40) (by decide) m).2.2.1, (su_te B f a (t := 40) (by decide) m).2.2.1]
  have O2 : (ws_up (ly_ B p f a m).1 (ly_ B p f a m).2).2 = (ly_ B p f a m).1.2 := rfl
  obtain ⟨⟨g1, g2, g3, g4⟩, g5, g6⟩ := X
  have g7 : s_oa (ws_up (ly_ B p f a m).1 (ly_ B p f a m).2) (nn_ (ly_ B p f a m).1 5) + (ly_ B p f a m).2 = s_oa S (nn_ S 5) + (sm_a S f a m - hp_vi S.1 43 p 0 * hp_vi S.1 43 p 1) := by
    have e1 : s_oa (ws_up (ly_ B p f a m).1 (ly_ B p f a m).2) (nn_ (ly_ B p f a m).1 5) = s_oa (ly_ B p f a m).1 (nn_ (ly_ B p f a m).1 5) := s_oa_te _ (fun k _ => ⟨rfl, by rw [E45.2.2.1]⟩)
    have e2 : s_oa (su_ B f a m) (nn_ (su_ B f a m) 5) = s_oa S (nn_ S 5) := by
      rw [show nn_ (su_ B f a m) 5 = nn_ S 5 from by unfold nn_; rw [su_2, hB2]]
      exact s_oa_te _ (fun k _ => ⟨by rw [su_2, hB2], by rw [((te 45 (by omega)).tr (su_te B f a (by decide) m)).2.2.1]⟩)
    have e3 : ∀ k, sm_a B f a k = sm_a S f a k := fun k => by
      induction k with
      | zero => rfl
      | succ k ih => show sm_a B f a k + _ = sm_a S f a k + _; rw [ih, (s_w_te (te 41 (by omega)) (te 42 (by omega))).2.2.1]
    rw [e1]
    refine Eq.trans g6 ?_
    rw [e2, e3, v43 p 0 (by decide), v43 p 1 (by decide)]
  have NN4 : nn_ (ly_ B p f a m).1 4 ≤ nn_ S 4 + m := by
    refine Nat.le_trans g5 (Nat.le_of_eq ?_)
    unfold nn_
    rw [su_2, hB2]
  have W : ∀ t, ¬ t = 62 ∧ ¬ t = 45 ∧ ¬ t = 40 ∧ ¬ t = 43 ∧ ¬ t = u → hp_te S.1 (ws_up (ly_ B p f a m).1 (ly_ B p f a m).2).1 t := fun t q => (te t ⟨q.2.2.2.2, q.2.2.2.1, q.2.2.1⟩).tr (TL t ⟨q.1, q.2.1, q.2.2.1⟩)
  have T43 := TL 43 (by decide)
  have TU := TL u (by omega)
  have E62' : hp_al (ws_up (ly_ B p f a m).1 (ly_ B p f a m).2).1 62 = hp_al S.1 62 ∧ hp_ln (ws_up (ly_ B p f a m).1 (ly_ B p f a m).2).1 62 = hp_ln S.1 62 ∧ hp_vr (ws_up (ly_ B p f a m).1 (ly_ B p f a m).2).1 62 = hp_vr S.1 62 := by
    rw [E62.1, E62.2.1, E62.2.2.2.1, (sx_al B f a m).1, (sx_al B f a m).2.1, (sx_al B f a m).2.2]
    exact ⟨(te 62 (by omega)).1, (te 62 (by omega)).2.1, (te 62 (by omega)).2.2.2.1⟩
  have V62 : ∀ g l, hp_vi (ws_up (ly_ B p f a m).1 (ly_ B p f a m).2).1 62 g l = if g = f ∧ a ≤ l ∧ l < a + m then 1 else hp_vi S.1 62 g l := fun g l => by
    rw [E62.2.2.1, su_v, (te 62 (by omega)).2.2.1]
  refine ⟨?_, fun k hk => by rw [O2, E45.2.1]; exact g4 k hk⟩
  generalize hS : ws_up (ly_ B p f a m).1 (ly_ B p f a m).2 = S' at *
  have C4 : nn_ S' 4 = nn_ (ly_ B p f a m).1 4 := by rw [← hS]; rfl
  have C5 : nn_ S' 5 = nn_ (ly_ B p f a m).1 5 := by rw [← hS]; rfl
  have R43 : ∀ i k, hp_vr S'.1 43 i k = if i = p ∧ k = sl then (u, p) else hp_vr S.1 43 i k := fun i k => by rw [T43.2.2.2.1]; exact r43 i k
  have VV43 : ∀ i k, ¬ k = 5 → hp_vi S'.1 43 i k = hp_vi S.1 43 i k := fun i k hk => by rw [T43.2.2.1]; exact v43 i k hk
  have XU : ∀ i, ¬ i = p → hp_tx S.1 S'.1 u i := fun i hi => (xu i hi).tr (TU.x i)
  have XT : ∀ t i, (t = 46 ∨ t = 47) → ¬ (t = u ∧ i = p) → hp_tx S.1 S'.1 t i := fun t i ht q => by
    by_cases e : t = u
    · subst e; exact XU i (fun z => q ⟨rfl, z⟩)
    · exact (W t (by omega)).x i
  have LN : ∀ g, g < nn_ S 1 → hp_ln S'.1 62 g = hp_ln S.1 62 g := fun g _ => by rw [E62'.2.1]
  refine I.lay (f := f) (a := a) (m := m) (fun t ht => W t (by omega)) CC E62'.1 E62'.2.2 E62'.2.1 V62 hf ham h62 ?_ (by rw [C4, C5]; exact g3) (fun p' hp' => ?_) (fun p' hp' => ?_) (fun i hi => ?_) (fun i hi => ?_) (fun i hi => ?_) (fun k hk => ?_) ?_ (fun g l => ?_)
  · rw [s_la_up hu R43 h0, if_pos hp, C4]; omega
  · by_cases e : p' = p
    · subst e
      obtain ⟨b1, b2, b3, b4, b5, b6, b7, t6, t8, t9, t10, ⟨w, t12, hw⟩, t0⟩ := pn p' hp
      have t7 : hp_vi S.1 43 p' 8 = 0 := t6.elim (fun q => q.2) (fun q => absurd (q.1.symm.trans t60) (by decide))
      have NP : i_pk S' u p' 1 := ⟨by rw [TU.1]; exact alu, by rw [TU.2.2.2.1, ru], by rw [TU.2.2.2.1, ru, CC 1 (by decide) (by decide)]; exact hf, a, m, by rw [TU.2.2.1]; exact iu1, by rw [TU.2.2.1]; exact iu2, m1, m8, by rw [TU.2.2.2.1, ru]; show a + m ≤ hp_ln S'.1 62 f; rw [E62'.2.1]; exact ham⟩
      unfold i_pn s_fa s_ba at *
      rw [T43.1, a43, VV43 _ 0 (by decide), VV43 _ 1 (by decide), VV43 _ 2 (by decide), VV43 _ 6 (by decide), VV43 _ 8 (by decide), VV43 _ 9 (by decide), VV43 _ 10 (by decide), VV43 _ 12 (by decide), CC _ (by omega) (by omega), R43, R43]
      rcases hu with ⟨rfl, rfl⟩ | ⟨rfl, rfl⟩
      · rw [if_pos ⟨rfl, rfl⟩, if_neg (by omega : ¬ (p' = p' ∧ 4 = 3)), (W 47 (by decide)).1]
        exact ⟨b1, Or.inr ⟨rfl, NP⟩, b3.imp id (fun q => ⟨q.1, q.2.gr ((W 47 (by decide)).x _) LN (by rw [CC 1 (by decide) (by decide)]; exact Nat.le_refl _)⟩), b4, b5, b6, b7, Or.inl ⟨t60, t7⟩, t8, t9, t10, ⟨w, t12, by omega⟩, fun q => absurd q (by decide : ¬ (46 : Nat) = 0)⟩
      · rw [if_neg (by omega : ¬ (p' = p' ∧ 3 = 4)), if_pos ⟨rfl, rfl⟩, (W 46 (by decide)).1]
        exact ⟨b1, b2.imp id (fun q => ⟨q.1, q.2.gr ((W 46 (by decide)).x _) LN (by rw [CC 1 (by decide) (by decide)]; exact Nat.le_refl _)⟩), Or.inr ⟨rfl, NP⟩, b4, b5, b6, b7, Or.inl ⟨t60, t7⟩, t8, t9, t10, ⟨w, t12, by omega⟩, t0⟩
    · obtain ⟨b1, b2, b3, b4, b5, b6, b7, t6, t8, t9, t10, ⟨w, t12, hw⟩, t0⟩ := pn p' hp'
      have x46 := XT 46 p' (Or.inl rfl) (fun z => e z.2)
      have x47 := XT 47 p' (Or.inr rfl) (fun z => e z.2)
      unfold i_pn s_fa s_ba at *
      rw [T43.1, a43, VV43 _ 0 (by decide), VV43 _ 1 (by decide), VV43 _ 2 (by decide), VV43 _ 6 (by decide), VV43 _ 8 (by decide), VV43 _ 9 (by decide), VV43 _ 10 (by decide), VV43 _ 12 (by decide), CC _ (by omega) (by omega), R43, R43, if_neg (fun z => e z.1), if_neg (fun z => e z.1), x46.1, x47.1]
      exact ⟨b1, b2.imp id (fun q => ⟨q.1, q.2.gr x46 LN (by rw [CC 1 (by decide) (by decide)]; exact Nat.le_refl _)⟩), b3.imp id (fun q => ⟨q.1, q.2.gr x47 LN (by rw [CC 1 (by decide) (by decide)]; exact Nat.le_refl _)⟩), b4, b5, b6, b7, t6, t8, t9, t10, ⟨w, t12, by omega⟩, t0⟩
  · exact (pi p' hp').gr ((W 44 (by omega)).x p') ((W 48 (by omega)).x p') ((W 63 (by omega)).x p') ((W 64 (by omega)).x p') LN (by rw [CC 1 (by decide) (by decide)]; exact Nat.le_refl _) (CC _ (by omega) (by omega)) (CC _ (by omega) (by omega))
  · have h3 := f3 i hi
    have x46 := XT 46 i (Or.inl rfl) (by omega)
    have x47 := XT 47 i (Or.inr rfl) (by omega)
    rw [T43.1, a43, x46.1, x47.1]
    exact h3
  · rw [(W 44 (by omega)).1, (W 48 (by omega)).1, (W 63 (by omega)).1, (W 64 (by omega)).1]; exact f4 i hi
  · rw [C4] at hi; rw [E45.1]; exact g1 i hi
  · rw [C5] at hk; rw [C4, E45.1, O2]; exact g2 k hk
  · rw [C5, VK 7 (by decide), VK 8 (by decide), VK 9 (by decide), VK 6 (by decide), V10, sum, s40 6 (by omega), s40 9 (by omega), s40 10 (by omega)]
    exact i3_sm _ _ _ _ _ _ _ _ _ _ g7
  · rw [s_u1_up hu R43 h0 XT (by rw [TU.2.2.2.1]; exact ru) (by rw [TU.2.2.1]; exact iu1) (by rw [TU.2.2.1]; exact iu2) (by omega) (by omega), if_pos hp, s_u2_te (S := S) (S' := S') _ (fun p _ => ⟨by rw [(W 44 (by omega)).2.2.2.1], (W 48 (by omega)).x p⟩)]
    omega
end VVJ6
