section VVJ5
variable {S S' : SP} {N N' : Nat}
/-- a leaf's mark after some of a flitch were used -/
theorem su_vi (S : SP) (f a : Nat) : ∀ m g l, hp_vi (su_ S f a m).1 62 g l = if g = f ∧ a ≤ l ∧ l < a + m then 1 else hp_vi S.1 62 g l
  | 0, g, l => by rw [if_neg (by omega)]; rfl
  | m + 1, g, l => by
    show (if 62 = 62 ∧ g = f ∧ l = a + m then 1 else hp_vi (su_ S f a m).1 62 g l) = _
    rw [su_vi S f a m g l]
    by_cases q : g = f ∧ l = a + m
    · rw [if_pos ⟨rfl, q⟩, if_pos (by omega)]
    · rw [if_neg (fun z => q z.2)]
      by_cases w : g = f ∧ a ≤ l ∧ l < a + m
      · rw [if_pos w, if_pos (by omega)]
      · rw [if_neg w, if_neg (by omega)]
theorem sx_al (S : SP) (f a : Nat) : ∀ m, hp_al (su_ S f a m).1 = hp_al S.1 ∧ hp_ln (su_ S f a m).1 = hp_ln S.1 ∧ hp_vr (su_ S f a m).1 = hp_vr S.1
  | 0 => ⟨rfl, rfl, rfl⟩
  | m + 1 => sx_al S f a m
theorem s_ua_up {f a m : Nat} (ha : ∀ l, s_a S' f (nI l) = s_a S f (nI l)) (v : ∀ l, hp_vi S'.1 62 f l = if a ≤ l ∧ l < a + m then 1 else hp_vi S.1 62 f l) (hu : ∀ k, k < m → hp_vi S.1 62 f (a + k) = 0) : ∀ n, s_ua S' f n = s_ua S f n + sm_a S f a (min (n - a) m)
  | 0 => by rw [show min (0 - a) m = 0 by omega]; exact (Int32.add_zero _).symm
  | n + 1 => by
    show s_ua S' f n + (if hp_vi S'.1 62 f n = 0 then 0 else s_a S' f (nI n)) = s_ua S f n + (if hp_vi S.1 62 f n = 0 then 0 else s_a S f (nI n)) + _
    rw [s_ua_up ha v hu n, v n, ha n]
    by_cases q : a ≤ n ∧ n < a + m
    · obtain ⟨k, rfl⟩ : ∃ k, n = a + k := ⟨n - a, by omega⟩
      rw [if_pos q, hu k (by omega), if_neg (show ¬ (1 : Int32) = 0 by decide), if_pos rfl, Int32.add_zero, show min (a + k - a) m = k by omega, show min (a + k + 1 - a) m = k + 1 by omega]
      exact Int32.add_assoc _ _ _
    · rw [if_neg q, show min (n + 1 - a) m = min (n - a) m by omega]
      exact arc_ _ _ _
theorem s_ut_up {f a m : Nat} (hs : ∀ g l, s_a S' g (nI l) = s_a S g (nI l)) (ln : ∀ g, s_n S' g = s_n S g) (v : ∀ g l, hp_vi S'.1 62 g l = if g = f ∧ a ≤ l ∧ l < a + m then 1 else hp_vi S.1 62 g l) (ham : a + m ≤ s_n S f) (hu : ∀ k, k < m → hp_vi S.1 62 f (a + k) = 0) : ∀ n, s_ut S' n = s_ut S n + (if f < n then sm_a S f a m else 0)
  | 0 => by rw [if_neg (Nat.not_lt_zero f)]; exact (Int32.add_zero _).symm
  | n + 1 => by
    show s_ut S' n + s_ua S' n (s_n S' n) = s_ut S n + s_ua S n (s_n S n) + _
    rw [s_ut_up hs ln v ham hu n, ln n]
    by_cases e : f = n
    · subst e
      rw [s_ua_up (hs f) (fun l => by rw [v]; simp) hu, if_neg (Nat.lt_irrefl f), if_pos (Nat.lt_succ_self f), Int32.add_zero, show min (s_n S f - a) m = m by omega]
      exact (Int32.add_assoc _ _ _).symm
    · rw [s_ua_te (S := S) (S' := S') _ (fun l _ => ⟨hs n l, by rw [v, if_neg (fun z => e z.1.symm)]⟩)]
      by_cases q : f < n
      · rw [if_pos q, if_pos (by omega)]; exact arc_ _ _ _
      · rw [if_neg q, if_neg (by omega)]; exact arc_ _ _ _
/-- leaves laid -/
theorem Iv.lay {f a m : Nat} (I : Iv S N) (te : ∀ t, t = 41 ∨ t = 42 → hp_te S.1 S'.1 t) (c : ∀ j, ¬ j = 4 → ¬ j = 5 → nn_ S' j = nn_ S j) (al : hp_al S'.1 62 = hp_al S.1 62) (vr : hp_vr S'.1 62 = hp_vr S.1 62) (ln : hp_ln S'.1 62 = hp_ln S.1 62)
    (v : ∀ g l, hp_vi S'.1 62 g l = if g = f ∧ a ≤ l ∧ l < a + m then 1 else hp_vi S.1 62 g l) (hf : f < nn_ S 1) (ham : a + m ≤ s_n S f) (hu : ∀ k, k < m → hp_vi S.1 62 f (a + k) = 0) (ct4 : nn_ S' 4 ≤ 8 * s_la S' (nn_ S 2)) (ct5 : nn_ S' 5 ≤ nn_ S' 4)
    (pn : ∀ p, p < nn_ S 2 → i_pn S' N' p) (pi : ∀ p, p < nn_ S 3 → i_pi S' p) (fr3 : ∀ i, nn_ S 2 ≤ i → hp_al S'.1 43 i = false ∧ hp_al S'.1 46 i = false ∧ hp_al S'.1 47 i = false) (fr4 : ∀ i, nn_ S 3 ≤ i → hp_al S'.1 44 i = false ∧ hp_al S'.1 48 i = false ∧ hp_al S'.1 63 i = false ∧ hp_al S'.1 64 i = false)
    (fr5 : ∀ i, nn_ S' 4 ≤ i → hp_al S'.1 45 i = false) (fr6 : ∀ k, k < nn_ S' 5 → S'.2.2 k < nn_ S' 4 ∧ hp_al S'.1 45 (S'.2.2 k) = true)
    (sm : hp_vi S'.1 40 0 7 + hp_vi S'.1 40 0 8 + hp_vi S'.1 40 0 9 + s_oa S' (nn_ S' 5) + hp_vi S'.1 40 0 6 + hp_vi S'.1 40 0 10 = hp_vi S.1 40 0 7 + hp_vi S.1 40 0 8 + hp_vi S.1 40 0 9 + s_oa S (nn_ S 5) + hp_vi S.1 40 0 6 + hp_vi S.1 40 0 10 + sm_a S f a m)
    (us : ∀ g l, s_u1 S' g l (nn_ S 2) + s_u2 S' g l (nn_ S 3) = s_u1 S g l (nn_ S 2) + s_u2 S g l (nn_ S 3) + (if g = f ∧ a ≤ l ∧ l < a + m then 1 else 0)) : Iv S' N' := by
  obtain ⟨⟨c0, c1, c2, c3, c4, c5⟩, lg, fl, -, -, ⟨f1, f2, f3, f4, f5, f6⟩, s, u⟩ := id I
  have hs : ∀ g l, s_a S' g (nI l) = s_a S g (nI l) := fun g l => s_a_tx ((te 42 (Or.inr rfl)).x g) (fun k _ => by rw [(te 41 (Or.inl rfl)).2.2.1])
  refine ⟨⟨?_, ?_, ?_, ?_, ?_, ct5⟩, fun i hi => ?_, fun g hg => ?_, fun p hp => ?_, fun p hp => ?_, ⟨?_, ?_, ?_, ?_, fr5, fr6⟩, ?_, fun g l hg hl => ?_⟩
  · rw [c 0 (by decide) (by decide)]; exact c0
  · rw [c 0 (by decide) (by decide), c 1 (by decide) (by decide), s_sl_te (S := S) (S' := S') _ (fun i _ => by rw [(te 41 (Or.inl rfl)).2.2.1])]; exact c1
  · rw [c 2 (by decide) (by decide)]; exact c2
  · rw [c 3 (by decide) (by decide)]; exact c3
  · rw [c 2 (by decide) (by decide)]; exact ct4
  · rw [c 0 (by decide) (by decide)] at hi; exact (lg i hi).te ((te 41 (Or.inl rfl)).x i)
  · rw [c 1 (by decide) (by decide)] at hg
    obtain ⟨b1, b2, b3, b4, b5⟩ := fl g hg
    unfold i_fl s_lg s_n at *
    rw [(te 42 (Or.inr rfl)).1, (te 42 (Or.inr rfl)).2.2.1, (te 42 (Or.inr rfl)).2.2.2.1, al, ln, c 0 (by decide) (by decide)]
    refine ⟨b1, b2, b3, b4, fun l => ?_⟩
    rw [v]
    split
    · exact Or.inr rfl
    · exact b5 l
  · rw [c 2 (by decide) (by decide)] at hp; exact pn p hp
  · rw [c 3 (by decide) (by decide)] at hp; exact pi p hp
  · rw [c 0 (by decide) (by decide), (te 41 (Or.inl rfl)).1]; exact f1
  · rw [c 1 (by decide) (by decide), (te 42 (Or.inr rfl)).1, al]; exact f2
  · rw [c 2 (by decide) (by decide)]; exact fr3
  · rw [c 3 (by decide) (by decide)]; exact fr4
  · unfold i_sm at *
    rw [c 1 (by decide) (by decide), sm, s_ut_up hs (fun g => by unfold s_n; rw [ln]) v ham hu, if_pos hf, s]
  · rw [c 1 (by decide) (by decide)] at hg
    have hl2 : l < s_n S g := by unfold s_n at *; rw [ln] at hl; exact hl
    rw [c 2 (by decide) (by decide), c 3 (by decide) (by decide), us, u g l hg hl2, v]
    by_cases q : g = f ∧ a ≤ l ∧ l < a + m
    · obtain ⟨rfl, q1, q2⟩ := id q
      obtain ⟨k, rfl⟩ : ∃ k, l = a + k := ⟨l - a, by omega⟩
      rw [if_pos q, if_pos q, hu k (by omega), if_pos rfl, if_neg (show ¬ (1 : Int32) = 0 by decide)]
    · rw [if_neg q, if_neg q]; rfl
theorem i3_ba (a b c : Int32) : a + b + (c - b) = a + c := by
  rw [Int32.sub_eq_add_neg, Int32.add_assoc, i3_lc b c (-b), ← Int32.sub_eq_add_neg b b, Int32.sub_self, Int32.add_zero]
/-- the offcuts of a laying -/
def of_ok (S : SP) : Prop := (∀ i, nn_ S 4 ≤ i → hp_al S.1 45 i = false) ∧ (∀ k, k < nn_ S 5 → S.2.2 k < nn_ S 4 ∧ hp_al S.1 45 (S.2.2 k) = true) ∧ nn_ S 5 ≤ nn_ S 4 ∧ J2 S
theorem of_up {w d : Int32} (F : of_ok S) : of_ok (oc_up S w d) ∧ s_oa (oc_up S w d) (nn_ S 5 + 1) = s_oa S (nn_ S 5) + w * d := by
  obtain ⟨f1, f2, f3, f4⟩ := F
  have C4 : nn_ (oc_up S w d) 4 = nn_ S 4 + 1 := (c_ne (c := c_up S.2.1 4 (nn_ S 4 + 1)) (k := 5) (v := nn_ S 5 + 1) (j := 4) (by decide)).trans (c_at (c := S.2.1) (k := 4) (v := nn_ S 4 + 1))
  have C5 : nn_ (oc_up S w d) 5 = nn_ S 5 + 1 := c_at (c := c_up S.2.1 4 (nn_ S 4 + 1)) (k := 5) (v := nn_ S 5 + 1)
  have AL : ∀ i, hp_al (oc_up S w d).1 45 i = if i = nn_ S 4 then true else hp_al S.1 45 i := fun i => by unfold oc_up; simp [al_n, al_i]
  have LN : ∀ i, hp_ln (oc_up S w d).1 45 i = if i = nn_ S 4 then 2 else hp_ln S.1 45 i := fun i => by unfold oc_up; simp [ln_n, ln_i]
  have M : ∀ k, (oc_up S w d).2.2 k = if k = nn_ S 5 then nn_ S 4 else S.2.2 k := fun _ => rfl
  refine ⟨⟨fun i hi => ?_, fun k hk => ?_, by omega, fun k hk => ?_⟩, ?_⟩
  · rw [AL, if_neg (by omega)]; exact f1 i (by omega)
  · rw [C5] at hk
    rw [M, AL, C4]
    by_cases e : k = nn_ S 5
    · rw [if_pos e, if_pos rfl]; exact ⟨by omega, rfl⟩
    · have h := f2 k (by omega)
      rw [if_neg e, if_neg (by omega)]; exact ⟨by omega, h.2⟩
  · rw [C5] at hk
    rw [M, LN]
    by_cases e : k = nn_ S 5
    · rw [if_pos e, if_pos rfl]
    · have h := f2 k (by omega)
      rw [if_neg e, if_neg (by omega)]; exact f4 k (by omega)
  · show s_oa (oc_up S w d) (nn_ S 5) + hp_vi (oc_up S w d).1 45 ((oc_up S w d).2.2 (nn_ S 5)) 0 * hp_vi (oc_up S w d).1 45 ((oc_up S w d).2.2 (nn_ S 5)) 1 = _
    rw [M, if_pos rfl, s_oa_te (S := S) (S' := oc_up S w d) _ (fun k hk => ⟨by rw [M, if_neg (by omega)], (oc_up_tx S w d (by have := (f2 k hk).1; omega)).2.2.1⟩)]
    congr 1
    unfold oc_up
    simp [vi_i, vi_n]
theorem of_ls (f a : Nat) (st ht r0 : Int32) (F : of_ok S) : ∀ k, of_ok (ls_ S f a st ht r0 k).1 ∧ nn_ (ls_ S f a st ht r0 k).1 4 ≤ nn_ S 4 + k ∧ s_oa (ls_ S f a st ht r0 k).1 (nn_ (ls_ S f a st ht r0 k).1 5) + (ls_ S f a st ht r0 k).2 = s_oa S (nn_ S 5) + r0
  | 0 => ⟨F, Nat.le_refl _, rfl⟩
  | k + 1 => by
    obtain ⟨h1, h2, h3⟩ := of_ls f a st ht r0 F k
    unfold ls_
    split
    · obtain ⟨g1, g2⟩ := of_up (w := s_w S f (nI (a + k)) - st) (d := ht) h1
      refine ⟨g1, ?_, ?_⟩
      · show nn_ (ls_ S f a st ht r0 k).1 4 + 1 ≤ _
        omega
      · show s_oa (oc_up (ls_ S f a st ht r0 k).1 _ _) (nn_ (ls_ S f a st ht r0 k).1 5 + 1) + ((ls_ S f a st ht r0 k).2 - _) = _
        rw [g2, ← h3]
        exact i3_ba _ _ _
    · exact ⟨h1, by omega, h3⟩
end VVJ5
