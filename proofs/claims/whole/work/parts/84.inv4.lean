section VVJ4
variable {S S' : SP} {N N' : Nat}
/-- one piece -/
theorem cn_0 {F : Nat → Int32} (hF : ∀ z, z < 64 → F z = F 0) : ∀ n z, z < n → z < 64 → cn_ F 0 z
  | 0, _, h, _ => absurd h (Nat.not_lt_zero _)
  | n + 1, z, h, hz => by
    rcases Nat.eq_zero_or_pos z with e | e
    · subst e; exact cn_rf
    · by_cases q : z % 8 = 0
      · exact cn_st (cn_0 hF n (z - 8) (by omega) (by omega)) ⟨by omega, hz, by omega⟩ (hF z hz)
      · exact cn_st (cn_0 hF n (z - 1) (by omega) (by omega)) ⟨by omega, hz, by omega⟩ (hF z hz)
theorem ct_one {P : Nat → Prop} (h0 : P 0) : ∀ n, (∀ k, 0 < k → k < n + 1 → ¬ P k) → ct_ P (n + 1) 1
  | 0, _ => ⟨0, rfl, Or.inl ⟨h0, rfl⟩⟩
  | n + 1, h => ⟨1, ct_one h0 n (fun k k0 k1 => h k k0 (by omega)), Or.inr ⟨h (n + 1) (by omega) (by omega), rfl⟩⟩
theorem pc_0 {F : Nat → Int32} (hF : ∀ z, z < 64 → F z = F 0) : pc_ F 1 0 :=
  ⟨ct_one (fun j hj => absurd hj (Nat.not_lt_zero j)) 63 (fun k k0 k1 q => q 0 k0 (cn_0 hF (k + 1) k (by omega) k1)), ct_no 64 (fun k hk q => by
    have h0 : k = 0 := Nat.eq_zero_of_not_pos (fun k0 => q.1 0 k0 (cn_0 hF (k + 1) k (by omega) hk))
    subst h0
    have := (q.2.1 0 cn_rf).1
    omega)⟩
theorem iv_picture (I : Iv S N) : Iv (op_picture S).2.2 (N + 1) := by
  unfold op_picture
  split
  · exact I.m (by omega)
  · rename_i h4
    show Iv (nw_pic S) (N + 1)
    obtain ⟨⟨c0, c1, c2, c3, c4, c5⟩, lg, fl, pn, pi, ⟨f1, f2, f3, f4, f5, f6⟩, s, u⟩ := id I
    have T := fun t (q : ¬ t = 44 ∧ ¬ t = 63 ∧ ¬ t = 64) => nw_pic_te S q.1 q.2.1 q.2.2
    have X := fun i (hi : ¬ i = nn_ S 3) => nw_pic_tx S hi
    have C : ∀ j, ¬ j = 3 → ¬ j = 20 + nn_ S 3 → ¬ j = 30 + nn_ S 3 → nn_ (nw_pic S) j = nn_ S j := fun j h1 h2 h3 => (c_ne h3).trans ((c_ne h2).trans (c_ne h1))
    have C3 : nn_ (nw_pic S) 3 = nn_ S 3 + 1 := (c_ne (by omega)).trans ((c_ne (by omega)).trans c_at)
    have C20 : nn_ (nw_pic S) (20 + nn_ S 3) = 1 := (c_ne (by omega)).trans c_at
    have C30 : nn_ (nw_pic S) (30 + nn_ S 3) = 0 := c_at
    have VR : ∀ k, hp_vr (nw_pic S).1 44 (nn_ S 3) k = if k = 2 then (64, nn_ S 3) else if k = 0 then (63, nn_ S 3) else (0, 0) := fun k => by
      unfold nw_pic; simp [vr_r, vr_n]
    have hs : ∀ f, f < nn_ S 1 → ∀ l, s_a (nw_pic S) f (nI l) = s_a S f (nI l) := fun f hf l => s_a_tx ((T 42 (by decide)).x f) (fun k _ => by rw [(T 41 (by decide)).2.2.1])
    generalize hS : nw_pic S = S2 at *
    refine ⟨⟨?_, ?_, ?_, ?_, ?_, ?_⟩, fun i hi => ?_, fun f hf9 => ?_, fun p hp => ?_, fun p hp => ?_, ⟨?_, ?_, ?_, fun i hi => ?_, ?_, ?_⟩, ?_, fun f l hf9 hl9 => ?_⟩
    · rw [C 0 (by decide) (by omega) (by omega)]; exact c0
    · rw [C 0 (by decide) (by omega) (by omega), C 1 (by decide) (by omega) (by omega), s_sl_te (S := S) (S' := S2) _ (fun i _ => by rw [(T 41 (by decide)).2.2.1])]; exact c1
    · rw [C 2 (by decide) (by omega) (by omega)]; exact c2
    · rw [C3]; omega
    · rw [C 4 (by decide) (by omega) (by omega), C 2 (by decide) (by omega) (by omega), s_la_te (S := S) (S' := S2) _ (fun i _ => by rw [(T 43 (by decide)).2.2.2.1])]; exact c4
    · rw [C 4 (by decide) (by omega) (by omega), C 5 (by decide) (by omega) (by omega)]; exact c5
    · rw [C 0 (by decide) (by omega) (by omega)] at hi; exact (lg i hi).te ((T 41 (by decide)).x i)
    · rw [C 1 (by decide) (by omega) (by omega)] at hf9; exact (fl f hf9).te ((T 42 (by decide)).x f) ((T 62 (by decide)).x f) (C 0 (by decide) (by omega) (by omega))
    · rw [C 2 (by decide) (by omega) (by omega)] at hp; exact (pn p hp).te ((T 43 (by decide)).x p) ((T 46 (by decide)).x p) ((T 47 (by decide)).x p) (T 62 (by decide)).2.1 (C 1 (by decide) (by omega) (by omega)) (C _ (by omega) (by omega) (by omega)) (by omega)
    · rw [C3] at hp
      by_cases e : p = nn_ S 3
      · subst e
        have e4 := f4 _ (Nat.le_refl _)
        have v63 : ∀ k, hp_vi S2.1 63 (nn_ S 3) k = 0 := fun k => by rw [← hS]; unfold nw_pic; simp [vi_i, vi_n, vi_r]
        have v64 : ∀ k, hp_vi S2.1 64 (nn_ S 3) k = 0 := fun k => by rw [← hS]; unfold nw_pic; simp [vi_i, vi_n, vi_r]
        unfold i_pi s_pa
        rw [VR, VR, VR, C20, C30, (T 48 (by decide)).1]
        refine ⟨⟨?_, ?_, ?_, rfl, rfl, ?_, ?_⟩, Or.inl ⟨rfl, e4.2.1⟩, fun k _ => ⟨0, v63 k, by omega⟩, fun k _ => ⟨0, v64 k, by omega⟩, pc_0 (fun z _ => (v63 z).trans (v63 0).symm)⟩
        · rw [← hS]; unfold nw_pic; simp [al_n, al_i, al_r]
        · rw [← hS]; unfold nw_pic; simp [al_n, al_i, al_r]
        · rw [← hS]; unfold nw_pic; simp [al_n, al_i, al_r]
        · rw [← hS]; unfold nw_pic; simp [ln_n, ln_i, ln_r]
        · rw [← hS]; unfold nw_pic; simp [ln_n, ln_i, ln_r]
      · exact (pi p (by omega)).te (X p e).1 ((T 48 (by decide)).x p) (X p e).2.1 (X p e).2.2 (T 62 (by decide)).2.1 (C 1 (by decide) (by omega) (by omega)) (C _ (by omega) (by omega) (by omega)) (C _ (by omega) (by omega) (by omega))
    · rw [C 0 (by decide) (by omega) (by omega), (T 41 (by decide)).1]; exact f1
    · rw [C 1 (by decide) (by omega) (by omega), (T 42 (by decide)).1, (T 62 (by decide)).1]; exact f2
    · rw [C 2 (by decide) (by omega) (by omega), (T 43 (by decide)).1, (T 46 (by decide)).1, (T 47 (by decide)).1]; exact f3
    · rw [C3] at hi; rw [(X i (by omega)).1.1, (X i (by omega)).2.1.1, (X i (by omega)).2.2.1, (T 48 (by decide)).1]; exact f4 i (by omega)
    · rw [C 4 (by decide) (by omega) (by omega), (T 45 (by decide)).1]; exact f5
    · rw [C 5 (by decide) (by omega) (by omega), C 4 (by decide) (by omega) (by omega), (T 45 (by decide)).1, ← hS]; exact f6
    · unfold i_sm at *
      rw [C 1 (by decide) (by omega) (by omega), C 5 (by decide) (by omega) (by omega), (T 40 (by decide)).2.2.1, s_ut_te (S := S) (S' := S2) _ (fun f hf9 => ⟨by unfold s_n; rw [(T 62 (by decide)).2.1], fun l => ⟨hs f hf9 l, by rw [(T 62 (by decide)).2.2.1]⟩⟩), s_oa_te (S := S) (S' := S2) _ (fun k _ => ⟨by rw [← hS]; rfl, by rw [(T 45 (by decide)).2.2.1]⟩)]
      exact s
    · rw [C 1 (by decide) (by omega) (by omega)] at hf9
      have hl2 : l < s_n S f := by unfold s_n at *; rw [(T 62 (by decide)).2.1] at hl9; exact hl9
      rw [C3, C 2 (by decide) (by omega) (by omega)]
      show _ + (s_u2 S2 f l (nn_ S 3) + s_hd S2 (hp_vr S2.1 44 (nn_ S 3) 1) 48 (nn_ S 3) f l) = _
      have z0 : ∀ u p, s_hd S2 (0, 0) u p f l = 0 := fun u p => if_neg (fun q => q.1 rfl)
      rw [VR]
      show _ + (_ + s_hd S2 (0, 0) 48 (nn_ S 3) f l) = _
      rw [z0, s_u1_te (S := S) (S' := S2) _ (fun p _ => ⟨by rw [(T 43 (by decide)).2.2.2.1], (T 46 (by decide)).x p, (T 47 (by decide)).x p⟩), s_u2_te (S := S) (S' := S2) _ (fun p hp => ⟨by rw [(X p (by omega)).1.2.2.2], (T 48 (by decide)).x p⟩), (T 62 (by decide)).2.2.1]
      exact u f l hf9 hl2
theorem i3_lc (a b c : Int32) : a + (b + c) = b + (a + c) := by rw [← Int32.add_assoc, Int32.add_comm a b, Int32.add_assoc]
/-- the offcuts without one -/
theorem s_oa_tk {b : Nat} (e : ∀ k, k < b → S'.2.2 k = S.2.2 k) (e2 : ∀ k, b ≤ k → S'.2.2 k = S.2.2 (k + 1)) (e45 : hp_vi S'.1 45 = hp_vi S.1 45) : ∀ d, s_oa S' (b + d) + hp_vi S.1 45 (S.2.2 b) 0 * hp_vi S.1 45 (S.2.2 b) 1 = s_oa S (b + d + 1)
  | 0 => by
    show s_oa S' b + _ = s_oa S b + _
    rw [s_oa_te (S := S) (S' := S') b (fun k hk => ⟨e k hk, by rw [e45]⟩)]
  | d + 1 => by
    have ih := s_oa_tk e e2 e45 d
    show s_oa S' (b + d) + hp_vi S'.1 45 (S'.2.2 (b + d)) 0 * hp_vi S'.1 45 (S'.2.2 (b + d)) 1 + _ = s_oa S (b + d + 1) + hp_vi S.1 45 (S.2.2 (b + d + 1)) 0 * hp_vi S.1 45 (S.2.2 (b + d + 1)) 1
    rw [← ih, e45, e2 (b + d) (by omega), Int32.add_assoc, Int32.add_assoc]
    congr 1
    exact Int32.add_comm _ _
theorem iv_tk (I : Iv S N) {b : Nat} (hb : b < nn_ S 5) : Iv (tk_ S b) (N + 1) := by
  obtain ⟨⟨c0, c1, c2, c3, c4, c5⟩, lg, fl, pn, pi, ⟨f1, f2, f3, f4, f5, f6⟩, s, u⟩ := id I
  have T : ∀ t, ¬ t = 40 → hp_te S.1 (tk_ S b).1 t := fun t ht => hp_te.i ht
  have C : ∀ j, ¬ j = 5 → nn_ (tk_ S b) j = nn_ S j := fun j hj => c_ne hj
  have C5 : nn_ (tk_ S b) 5 = nn_ S 5 - 1 := c_at (c := S.2.1) (k := 5) (v := nn_ S 5 - 1)
  have O1 : ∀ k, k < b → (tk_ S b).2.2 k = S.2.2 k := fun k hk => if_pos hk
  have O2 : ∀ k, b ≤ k → (tk_ S b).2.2 k = S.2.2 (k + 1) := fun k hk => if_neg (by omega)
  have V6 : hp_vi (tk_ S b).1 40 0 6 = hp_vi S.1 40 0 6 + hp_vi S.1 45 (S.2.2 b) 0 * hp_vi S.1 45 (S.2.2 b) 1 := hp_seti_at
  have V : ∀ k, ¬ k = 6 → hp_vi (tk_ S b).1 40 0 k = hp_vi S.1 40 0 k := fun k hk => hp_seti_ne (fun z => hk z.2.2)
  have hs : ∀ f, f < nn_ S 1 → ∀ l, s_a (tk_ S b) f (nI l) = s_a S f (nI l) := fun f hf l => s_a_tx ((T 42 (by decide)).x f) (fun k _ => by rw [(T 41 (by decide)).2.2.1])
  generalize hS : tk_ S b = S2 at *
  refine ⟨⟨?_, ?_, ?_, ?_, ?_, ?_⟩, fun i hi => ?_, fun f hf9 => ?_, fun p hp => ?_, fun p hp => ?_, ⟨?_, ?_, ?_, ?_, ?_, fun k hk => ?_⟩, ?_, fun f l hf9 hl9 => ?_⟩
  · rw [C 0 (by decide)]; exact c0
  · rw [C 0 (by decide), C 1 (by decide), s_sl_te (S := S) (S' := S2) _ (fun i _ => by rw [(T 41 (by decide)).2.2.1])]; exact c1
  · rw [C 2 (by decide)]; exact c2
  · rw [C 3 (by decide)]; exact c3
  · rw [C 4 (by decide), C 2 (by decide), s_la_te (S := S) (S' := S2) _ (fun i _ => by rw [(T 43 (by decide)).2.2.2.1])]; exact c4
  · rw [C 4 (by decide), C5]; omega
  · rw [C 0 (by decide)] at hi; exact (lg i hi).te ((T 41 (by decide)).x i)
  · rw [C 1 (by decide)] at hf9; exact (fl f hf9).te ((T 42 (by decide)).x f) ((T 62 (by decide)).x f) (C 0 (by decide))
  · rw [C 2 (by decide)] at hp; exact (pn p hp).te ((T 43 (by decide)).x p) ((T 46 (by decide)).x p) ((T 47 (by decide)).x p) (T 62 (by decide)).2.1 (C 1 (by decide)) (C _ (by omega)) (by omega)
  · rw [C 3 (by decide)] at hp; exact (pi p hp).te ((T 44 (by decide)).x p) ((T 48 (by decide)).x p) ((T 63 (by decide)).x p) ((T 64 (by decide)).x p) (T 62 (by decide)).2.1 (C 1 (by decide)) (C _ (by omega)) (C _ (by omega))
  · rw [C 0 (by decide), (T 41 (by decide)).1]; exact f1
  · rw [C 1 (by decide), (T 42 (by decide)).1, (T 62 (by decide)).1]; exact f2
  · rw [C 2 (by decide), (T 43 (by decide)).1, (T 46 (by decide)).1, (T 47 (by decide)).1]; exact f3
  · rw [C 3 (by decide), (T 44 (by decide)).1, (T 48 (by decide)).1, (T 63 (by decide)).1, (T 64 (by decide)).1]; exact f4
  · rw [C 4 (by decide), (T 45 (by decide)).1]; exact f5
  · rw [C5] at hk
    rw [C 4 (by decide), (T 45 (by decide)).1]
    rcases Nat.lt_or_ge k b with w | w
    · rw [O1 k w]; exact f6 k (by omega)
    · rw [O2 k w]; exact f6 (k + 1) (by omega)
  · unfold i_sm at *
    have e := s_oa_tk (S := S) (S' := S2) O1 O2 (T 45 (by decide)).2.2.1 (nn_ S 5 - 1 - b)
    rw [show b + (nn_ S 5 - 1 - b) = nn_ S 5 - 1 by omega, show nn_ S 5 - 1 + 1 = nn_ S 5 by omega] at e
    rw [C 1 (by decide), C5, V 7 (by decide), V 8 (by decide), V 9 (by decide), V 10 (by decide), V6, s_ut_te (S := S) (S' := S2) _ (fun f hf9 => ⟨by unfold s_n; rw [(T 62 (by decide)).2.1], fun l => ⟨hs f hf9 l, by rw [(T 62 (by decide)).2.2.1]⟩⟩), s, ← e]
    simp only [Int32.add_assoc]
    congr 4
    exact i3_lc _ _ _
  · rw [C 1 (by decide)] at hf9
    have hl2 : l < s_n S f := by unfold s_n at *; rw [(T 62 (by decide)).2.1] at hl9; exact hl9
    rw [C 2 (by decide), C 3 (by decide), s_u1_te (S := S) (S' := S2) _ (fun p _ => ⟨by rw [(T 43 (by decide)).2.2.2.1], (T 46 (by decide)).x p, (T 47 (by decide)).x p⟩), s_u2_te (S := S) (S' := S2) _ (fun p _ => ⟨by rw [(T 44 (by decide)).2.2.2.1], (T 48 (by decide)).x p⟩), (T 62 (by decide)).2.2.1]
    exact u f l hf9 hl2
theorem iv_take {w d : Int32} (I : Iv S N) : Iv (op_takeOffcut S w d).2.2 (N + 1) := by
  unfold op_takeOffcut
  split
  · cases e : bo_ S w d (nn_ S 5) with
    | none => exact I.m (by omega)
    | some b => exact iv_tk I (bo_lt S w d _ _ e)
  · exact I.m (by omega)
theorem j2_take {w d : Int32} (J : J2 S) : J2 (op_takeOffcut S w d).2.2 := by
  unfold op_takeOffcut
  split
  · cases e : bo_ S w d (nn_ S 5) with
    | none => exact J
    | some b =>
      have hb := bo_lt S w d _ _ e
      intro k hk
      have hk9 : k < nn_ S 5 - 1 := hk
      show hp_ln S.1 45 (if k < b then S.2.2 k else S.2.2 (k + 1)) = 2
      split
      · exact J k (by omega)
      · exact J (k + 1) (by omega)
  · exact J
theorem s_sl_up {lg : Nat} (h0 : hp_vi S.1 41 lg 4 = 0) (h1 : ∀ i, hp_vi S'.1 41 i 4 = if i = lg then 1 else hp_vi S.1 41 i 4) : ∀ n, s_sl S' n = s_sl S n + (if lg < n then 1 else 0)
  | 0 => rfl
  | n + 1 => by
    show s_sl S' n + (if hp_vi S'.1 41 n 4 = 0 then 0 else 1) = s_sl S n + (if hp_vi S.1 41 n 4 = 0 then 0 else 1) + _
    rw [s_sl_up h0 h1 n, h1 n]
    by_cases e : n = lg
    · subst e
      rw [if_pos rfl, h0, if_neg (Nat.lt_irrefl n), if_pos (Nat.lt_succ_self n), if_neg (show ¬ (1 : Int32) = 0 by decide), if_pos (rfl : (0 : Int32) = 0)]
    · rw [if_neg e]
      by_cases q : lg < n
      · rw [if_pos q, if_pos (by omega : lg < n + 1)]; omega
      · rw [if_neg q, if_neg (by omega : ¬ lg < n + 1)]; omega
theorem s_ua_0 {f : Nat} (h : ∀ l, hp_vi S.1 62 f l = 0) : ∀ n, s_ua S f n = 0
  | 0 => rfl
  | n + 1 => by
    show s_ua S f n + (if hp_vi S.1 62 f n = 0 then 0 else s_a S f (nI n)) = 0
    rw [s_ua_0 h n, if_pos (h n)]
    rfl
theorem s_u1_0 {f l : Nat} : ∀ n, (∀ p, p < n → s_hd S (s_fa S p) 46 p f l = 0 ∧ s_hd S (s_ba S p) 47 p f l = 0) → s_u1 S f l n = 0
  | 0, _ => rfl
  | n + 1, h => by
    show s_u1 S f l n + _ + _ = 0
    rw [s_u1_0 n (fun p hp => h p (by omega)), (h n (by omega)).1, (h n (by omega)).2]
theorem s_u2_0 {f l : Nat} : ∀ n, (∀ p, p < n → s_hd S (s_pa S p) 48 p f l = 0) → s_u2 S f l n = 0
  | 0, _ => rfl
  | n + 1, h => by
    show s_u2 S f l n + _ = 0
    rw [s_u2_0 n (fun p hp => h p (by omega)), h n (by omega)]
theorem iv_slice {x way t : Int32} (I : Iv S N) : Iv (op_slice S x way t).2.2 (N + 1) := by
  unfold op_slice
  split
  · rename_i hx
    split
    · rename_i hh
      split
      · rename_i h4
        obtain ⟨⟨c0, c1, c2, c3, c4, c5⟩, lg, fl, pn, pi, ⟨f1, f2, f3, f4, f5, f6⟩, s, u⟩ := id I
        have hc := hx.cl (by omega)
        obtain ⟨tt, t1, t2, rfl⟩ := a_nat (lo := 5) (hi := 30) hh.2 (by decide) (by decide)
        obtain ⟨dd, ed, d1, d2⟩ := (lg _ hc.1).2.2.1
        obtain ⟨nn, n1, n2, en⟩ := pw_n_ok way d1 d2 t1 t2
        have efn : nw_fn S (cl_ x) way (nI tt) = nn := by unfold nw_fn; rw [ed, en]; exact nI_clamp (by omega)
        have hn1 := I.cs.2.1
        show Iv (nw_fl S (cl_ x) way (nI tt)) (N + 1)
        have T := fun u (q : ¬ u = 41 ∧ ¬ u = 42 ∧ ¬ u = 62) => nw_fl_te S (cl_ x) way (nI tt) q.1 q.2.1 q.2.2
        have X := fun g (hg : ¬ g = nn_ S 1) => nw_fl_tx S (cl_ x) way (nI tt) hg
        have L := nw_fl_lg S (cl_ x) way (nI tt)
        have C : ∀ j, ¬ j = 1 → nn_ (nw_fl S (cl_ x) way (nI tt)) j = nn_ S j := fun j hj => c_ne hj
        have C1 : nn_ (nw_fl S (cl_ x) way (nI tt)) 1 = nn_ S 1 + 1 := c_at (c := S.2.1) (k := 1) (v := nn_ S 1 + 1)
        have al41 : hp_al (nw_fl S (cl_ x) way (nI tt)).1 41 = hp_al S.1 41 := by
          funext i; unfold nw_fl; simp [al_n, al_i, al_r]
        have LN : hp_ln (nw_fl S (cl_ x) way (nI tt)).1 62 (nn_ S 1) = nn := by unfold nw_fl; simp [ln_n, ln_i, ln_r, efn]
        have U0 : ∀ l, hp_vi (nw_fl S (cl_ x) way (nI tt)).1 62 (nn_ S 1) l = 0 := fun l => by unfold nw_fl; simp [vi_i, vi_n, vi_r]
        have VR : hp_vr (nw_fl S (cl_ x) way (nI tt)).1 42 (nn_ S 1) 0 = (41, cl_ x) ∧ hp_vr (nw_fl S (cl_ x) way (nI tt)).1 42 (nn_ S 1) 3 = (62, nn_ S 1) := by unfold nw_fl; simp [vr_r, vr_n, vr_i]
        have VI : hp_vi (nw_fl S (cl_ x) way (nI tt)).1 42 (nn_ S 1) 1 = way ∧ hp_vi (nw_fl S (cl_ x) way (nI tt)).1 42 (nn_ S 1) 2 = nI tt := by unfold nw_fl; simp [vi_r, vi_n, vi_i]
        have AL : hp_al (nw_fl S (cl_ x) way (nI tt)).1 42 (nn_ S 1) = true ∧ hp_al (nw_fl S (cl_ x) way (nI tt)).1 62 (nn_ S 1) = true := by unfold nw_fl; simp [al_n, al_i, al_r]
        have hs : ∀ f, f < nn_ S 1 → ∀ l, s_a (nw_fl S (cl_ x) way (nI tt)) f (nI l) = s_a S f (nI l) := fun f hf l => s_a_tx (X f (by omega)).1 (fun k hk => by rw [L, if_neg (by omega)])
        generalize hS : nw_fl S (cl_ x) way (nI tt) = S2 at *
        have e62 : ∀ f, f < nn_ S 1 → hp_ln S2.1 62 f = hp_ln S.1 62 f := fun f hf => (X f (by omega)).2.2.1
        refine ⟨⟨?_, ?_, ?_, ?_, ?_, ?_⟩, fun i hi => ?_, fun f hf9 => ?_, fun p hp => ?_, fun p hp => ?_, ⟨?_, fun i hi => ?_, ?_, ?_, ?_, ?_⟩, ?_, fun f l hf9 hl9 => ?_⟩
        · rw [C 0 (by decide)]; exact c0
        · rw [C 0 (by decide), C1, s_sl_up (S := S) (S' := S2) h4 (fun i => by rw [L]; by_cases e : i = cl_ x <;> simp [e]), if_pos hc.1, c1]
        · rw [C 2 (by decide)]; exact c2
        · rw [C 3 (by decide)]; exact c3
        · rw [C 4 (by decide), C 2 (by decide), s_la_te (S := S) (S' := S2) _ (fun i _ => by rw [(T 43 (by decide)).2.2.2.1])]; exact c4
        · rw [C 4 (by decide), C 5 (by decide)]; exact c5
        · rw [C 0 (by decide)] at hi
          have h := lg i hi
          unfold i_lg at *
          rw [al41, L, L, L, L, L, if_neg (by omega), if_neg (by omega), if_neg (by omega), if_neg (by omega)]
          refine ⟨h.1, h.2.1, h.2.2.1, h.2.2.2.1, h.2.2.2.2.1, ?_⟩
          by_cases e : i = cl_ x ∧ 4 = 4
          · rw [if_pos e]; exact Or.inr rfl
          · rw [if_neg e]; exact h.2.2.2.2.2
        · rw [C1] at hf9
          by_cases e : f = nn_ S 1
          · subst e
            unfold i_fl s_lg s_n
            rw [VR.1, VR.2, VI.1, VI.2, LN, C 0 (by decide)]
            exact ⟨⟨AL.1, AL.2, rfl, hc.1, rfl⟩, ixf_y hh.1, ⟨tt, rfl, t1, t2⟩, ⟨n1, n2⟩, fun l => Or.inl (U0 l)⟩
          · exact (fl f (by omega)).gr (X f e).1 (X f e).2 (by rw [C 0 (by decide)]; exact Nat.le_refl _)
        · rw [C 2 (by decide)] at hp; exact (pn p hp).gr ((T 43 (by decide)).x p) ((T 46 (by decide)).x p) ((T 47 (by decide)).x p) e62 (by rw [C1]; omega) (C _ (by omega)) (by omega)
        · rw [C 3 (by decide)] at hp; exact (pi p hp).gr ((T 44 (by decide)).x p) ((T 48 (by decide)).x p) ((T 63 (by decide)).x p) ((T 64 (by decide)).x p) e62 (by rw [C1]; omega) (C _ (by omega)) (C _ (by omega))
        · rw [C 0 (by decide), al41]; exact f1
        · rw [C1] at hi; rw [(X i (by omega)).1.1, (X i (by omega)).2.1]; exact f2 i (by omega)
        · rw [C 2 (by decide), (T 43 (by decide)).1, (T 46 (by decide)).1, (T 47 (by decide)).1]; exact f3
        · rw [C 3 (by decide), (T 44 (by decide)).1, (T 48 (by decide)).1, (T 63 (by decide)).1, (T 64 (by decide)).1]; exact f4
        · rw [C 4 (by decide), (T 45 (by decide)).1]; exact f5
        · rw [C 5 (by decide), C 4 (by decide), (T 45 (by decide)).1, ← hS]; exact f6
        · unfold i_sm at *
          rw [C1, C 5 (by decide), (T 40 (by decide)).2.2.1]
          show s_ut S2 (nn_ S 1) + s_ua S2 (nn_ S 1) _ = _
          rw [s_ua_0 U0, Int32.add_zero, s_ut_te (S := S) (S' := S2) _ (fun f hf9 => ⟨e62 f hf9, fun l => ⟨hs f hf9 l, by rw [(X f (by omega)).2.2.2.1]⟩⟩), s_oa_te (S := S) (S' := S2) _ (fun k _ => ⟨by rw [← hS]; rfl, by rw [(T 45 (by decide)).2.2.1]⟩)]
          exact s
        · rw [C1] at hf9
          rw [C 2 (by decide), C 3 (by decide), s_u1_te (S := S) (S' := S2) _ (fun p _ => ⟨by rw [(T 43 (by decide)).2.2.2.1], (T 46 (by decide)).x p, (T 47 (by decide)).x p⟩), s_u2_te (S := S) (S' := S2) _ (fun p _ => ⟨by rw [(T 44 (by decide)).2.2.2.1], (T 48 (by decide)).x p⟩)]
          by_cases e : f = nn_ S 1
          · subst e
            rw [U0, if_pos rfl, s_u1_0 _ (fun p hp => ⟨if_neg (fun q => ?_), if_neg (fun q => ?_)⟩), s_u2_0 _ (fun p hp => if_neg (fun q => ?_))]
            · have := (I.pa hp q.1).2.2.2.1; omega
            · have := (I.fa hp q.1).2.2.2.1; omega
            · have := (I.ba hp q.1).2.2.2.1; omega
          · have hl2 : l < s_n S f := by have h9 := e62 f (by omega); unfold s_n at *; omega
            rw [(X f e).2.2.2.1]
            exact u f l (by omega) hl2
      · exact I.m (by omega)
    · exact I.m (by omega)
  · exact I.m (by omega)
end VVJ4
