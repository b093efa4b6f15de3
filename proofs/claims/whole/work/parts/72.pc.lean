section VVPC
variable {F : Nat → Int32}
theorem ad_sym {k j : Nat} (h : ad_ k j) : ad_ j k := by
  obtain ⟨h1, h2, q | q | q | q⟩ := h
  · exact ⟨h2, h1, Or.inr (Or.inl q)⟩
  · exact ⟨h2, h1, Or.inl q⟩
  · exact ⟨h2, h1, Or.inr (Or.inr (Or.inr q))⟩
  · exact ⟨h2, h1, Or.inr (Or.inr (Or.inl q))⟩
theorem cn_rf {a : Nat} : cn_ F a a := fun _ h _ => h
theorem cn_f {a b : Nat} (h : cn_ F a b) : F b = F a := h (fun z => F z = F a) rfl (fun _ _ _ _ e => e)
theorem cn_st {a k j : Nat} (h : cn_ F a k) (ha : ad_ k j) (e : F j = F a) : cn_ F a j := fun X x0 xc => xc k j (h X x0 xc) ha e
theorem cn_tr {a b c : Nat} (h : cn_ F a b) (h2 : cn_ F b c) : cn_ F a c := fun X x0 xc => h2 X (h X x0 xc) (fun k j xk ad e => xc k j xk ad (e.trans (cn_f h)))
theorem cn_sy {a b : Nat} (h : cn_ F a b) : cn_ F b a :=
  (h (fun z => cn_ F z a ∧ F z = F a) ⟨cn_rf, rfl⟩ (fun _ _ xk ad e => ⟨cn_tr (cn_st cn_rf (ad_sym ad) (xk.2.trans e.symm)) xk.1, e⟩)).1
theorem cn_64 {a b : Nat} (h : cn_ F a b) (ha : a < 64) : b < 64 := h (fun z => z < 64) ha (fun _ _ _ ad _ => ad.2.1)
theorem ct_fn {P : Nat → Prop} : ∀ n {r r' : Nat}, ct_ P n r → ct_ P n r' → r = r'
  | 0, _, _, h, h' => Eq.trans h (Eq.symm h')
  | n + 1, r, r', ⟨a, ha, h⟩, ⟨b, hb, h'⟩ => by
    have e := ct_fn n ha hb
    subst e
    rcases h with ⟨p, q⟩ | ⟨p, q⟩ <;> rcases h' with ⟨p', q'⟩ | ⟨p', q'⟩
    · exact q.trans q'.symm
    · exact absurd p p'
    · exact absurd p' p
    · exact q.trans q'.symm
theorem ct_ex (P : Nat → Prop) : ∀ n, ∃ r, ct_ P n r
  | 0 => ⟨0, rfl⟩
  | n + 1 => by
    obtain ⟨r, hr⟩ := ct_ex P n
    rcases Classical.em (P n) with h | h
    · exact ⟨r + 1, r, hr, Or.inl ⟨h, rfl⟩⟩
    · exact ⟨r, r, hr, Or.inr ⟨h, rfl⟩⟩
theorem ct_le {P : Nat → Prop} : ∀ n {r : Nat}, ct_ P n r → r ≤ n
  | 0, _, h => by have h' : _ = 0 := h; omega
  | n + 1, r, ⟨a, ha, h⟩ => by
    have := ct_le n ha
    rcases h with ⟨-, q⟩ | ⟨-, q⟩ <;> omega
theorem ct_all {P : Nat → Prop} : ∀ n, (∀ k, k < n → P k) → ct_ P n n
  | 0, _ => rfl
  | n + 1, h => ⟨n, ct_all n (fun k hk => h k (by omega)), Or.inl ⟨h n (by omega), rfl⟩⟩
theorem ct_no {P : Nat → Prop} : ∀ n, (∀ k, k < n → ¬ P k) → ct_ P n 0
  | 0, _ => rfl
  | n + 1, h => ⟨0, ct_no n (fun k hk => h k (by omega)), Or.inr ⟨h n (by omega), rfl⟩⟩
theorem ct_cg {P P' : Nat → Prop} : ∀ n {r : Nat}, (∀ k, k < n → (P k ↔ P' k)) → ct_ P n r → ct_ P' n r
  | 0, _, _, h => h
  | n + 1, r, e, ⟨a, ha, h⟩ => ⟨a, ct_cg n (fun k hk => e k (by omega)) ha, h.imp (fun q => ⟨(e n (by omega)).mp q.1, q.2⟩) (fun q => ⟨fun w => q.1 ((e n (by omega)).mpr w), q.2⟩)⟩
theorem ct_ad {P : Nat → Prop} {z : Nat} : ∀ n {r : Nat}, z < n → ¬ P z → ct_ P n r → ct_ (fun k => P k ∨ k = z) n (r + 1)
  | 0, _, h, _, _ => absurd h (Nat.not_lt_zero z)
  | n + 1, r, hz, hp, ⟨a, ha, h⟩ => by
    by_cases e : z = n
    · subst e
      have h1 : r = a := (h.resolve_left (fun q => hp q.1)).2
      subst h1
      exact ⟨r, ct_cg z (fun k hk => ⟨Or.inl, fun q => q.resolve_right (by omega)⟩) ha, Or.inl ⟨Or.inr rfl, rfl⟩⟩
    · refine ⟨a + 1, ct_ad n (by omega) hp ha, ?_⟩
      rcases h with ⟨p, q⟩ | ⟨p, q⟩
      · exact Or.inl ⟨Or.inl p, by omega⟩
      · exact Or.inr ⟨fun w => w.elim p (fun w => e w.symm), by omega⟩
theorem ct_lt {P : Nat → Prop} {z n r : Nat} (hz : z < n) (hp : ¬ P z) (h : ct_ P n r) : r < n := ct_le n (ct_ad n hz hp h)
/-- places seen when those before k are done -/
def vk_ (F : Nat → Int32) (k z : Nat) : Prop := ∃ j, j < k ∧ cn_ F j z
theorem vk_0 {z : Nat} : ¬ vk_ F 0 z := fun ⟨_, h, _⟩ => Nat.not_lt_zero _ h
theorem vk_c {k z j : Nat} (h : vk_ F k z) (ad : ad_ z j) (e : F j = F z) : vk_ F k j := by
  obtain ⟨a, ha, hc⟩ := h
  exact ⟨a, ha, cn_st hc ad (e.trans (cn_f hc))⟩
theorem vk_s {k z : Nat} : vk_ F (k + 1) z ↔ vk_ F k z ∨ cn_ F k z := by
  constructor
  · rintro ⟨j, hj, hc⟩
    by_cases e : j = k
    · subst e; exact Or.inr hc
    · exact Or.inl ⟨j, by omega, hc⟩
  · rintro (⟨j, hj, hc⟩ | hc)
    · exact ⟨j, by omega, hc⟩
    · exact ⟨k, by omega, hc⟩
theorem vk_y {k z : Nat} (h : vk_ F k k) : vk_ F (k + 1) z ↔ vk_ F k z := by
  rw [vk_s]
  refine ⟨fun q => q.elim id (fun hc => ?_), Or.inl⟩
  obtain ⟨j, hj, hc'⟩ := h
  exact ⟨j, hj, cn_tr hc' hc⟩
theorem vk_st {k : Nat} : ¬ vk_ F k k ↔ st_ F k := ⟨fun h j hj hc => h ⟨j, hj, hc⟩, fun h ⟨j, hj, hc⟩ => h j hj hc⟩
theorem vk_64 {z : Nat} (hz : z < 64) : vk_ F 64 z := ⟨z, hz, cn_rf⟩
/-- the search from s: the queue q of n places, looking at the d-th side of its i-th -/
def bf_ (F : Nat → Int32) (nd : Nat → Nat → Int32) (V : Nat → Prop) (s c0 : Nat) (q : Nat → Nat) (n i d : Nat) : Prop :=
  (1 ≤ n ∧ q 0 = s ∧ i ≤ n) ∧ (∀ a, a < n → q a < 64 ∧ cn_ F s (q a) ∧ ¬ V (q a)) ∧ (∀ a b, a < n → b < n → q a = q b → a = b) ∧
  ct_ (fun z => V z ∨ ∃ a, a < n ∧ q a = z) 64 (c0 + n) ∧ ∀ a d', a < n → (a < i ∨ (a = i ∧ d' < d)) → d' < 4 → ∀ j, nd (q a) d' = nI j → j < 64 → F j = F s → V j ∨ ∃ b, b < n ∧ q b = j
variable {nd : Nat → Nat → Int32} {V : Nat → Prop} {s c0 n i d : Nat} {q : Nat → Nat}
theorem bf_00 (hs : s < 64) (hv : ¬ V s) (hc : ct_ V 64 c0) : bf_ F nd V s c0 (fun _ => s) 1 0 0 := by
  refine ⟨⟨by omega, rfl, by omega⟩, fun a _ => ⟨hs, cn_rf, hv⟩, fun a b ha hb _ => by omega, ?_, fun a d' ha h => by omega⟩
  exact ct_cg 64 (fun k _ => ⟨fun w => w.imp id (fun w => ⟨0, by omega, w.symm⟩), fun w => w.imp id (fun ⟨_, _, e⟩ => e.symm)⟩) (ct_ad 64 hs hv hc)
/-- nothing new at this side -/
theorem bf_k (B : bf_ F nd V s c0 q n i d) (h : ∀ j, nd (q i) d = nI j → j < 64 → F j = F s → V j ∨ ∃ b, b < n ∧ q b = j) : bf_ F nd V s c0 q n i (d + 1) := by
  obtain ⟨b1, b2, b3, b4, b5⟩ := B
  refine ⟨b1, b2, b3, b4, fun a d' ha h1 hd j e hj ef => ?_⟩
  by_cases w : a = i ∧ d' = d
  · rw [w.1, w.2] at e
    exact h j e hj ef
  · exact b5 a d' ha (by omega) hd j e hj ef
/-- a new place -/
theorem bf_p (B : bf_ F nd V s c0 q n i d) (hi : i < n) {j : Nat} (hj : j < 64) (had : ad_ (q i) j) (e : nd (q i) d = nI j) (ef : F j = F s) (hv : ¬ V j) (hn : ¬ ∃ b, b < n ∧ q b = j) : bf_ F nd V s c0 (fun a => if a = n then j else q a) (n + 1) i (d + 1) := by
  obtain ⟨⟨b0, b1, b1'⟩, b2, b3, b4, b5⟩ := B
  unfold bf_
  dsimp only
  have qn : ∀ a, a < n → (if a = n then j else q a) = q a := fun a ha => if_neg (by omega)
  refine ⟨⟨by omega, by rw [if_neg (by omega)]; exact b1, by omega⟩, fun a ha => ?_, fun a b ha hb => ?_, ?_, fun a d' ha h1 hd j' e' hj' ef' => ?_⟩
  · by_cases w : a = n
    · rw [if_pos w]; exact ⟨hj, cn_st (b2 i hi).2.1 had ef, hv⟩
    · rw [if_neg w]; exact b2 a (by omega)
  · by_cases w : a = n <;> by_cases w' : b = n
    · exact fun _ => w.trans w'.symm
    · rw [if_pos w, if_neg w']; exact fun z => absurd ⟨b, by omega, z.symm⟩ hn
    · rw [if_neg w, if_pos w']; exact fun z => absurd ⟨a, by omega, z⟩ hn
    · rw [if_neg w, if_neg w']; exact b3 a b (by omega) (by omega)
  · refine ct_cg 64 (fun k _ => ?_) (ct_ad 64 hj (fun w => w.elim hv hn) b4)
    constructor
    · rintro ((w | ⟨a, ha, w⟩) | w)
      · exact Or.inl w
      · exact Or.inr ⟨a, by omega, by rw [if_neg (by omega)]; exact w⟩
      · exact Or.inr ⟨n, by omega, by rw [if_pos rfl]; exact w.symm⟩
    · rintro (w | ⟨a, ha, w⟩)
      · exact Or.inl (Or.inl w)
      · by_cases y : a = n
        · rw [if_pos y] at w; exact Or.inr w.symm
        · rw [if_neg y] at w; exact Or.inl (Or.inr ⟨a, by omega, w⟩)
  · have key : V j' ∨ ∃ b, b < n + 1 ∧ (if b = n then j else q b) = j' := by
      by_cases y : a = n
      · omega
      · rw [if_neg y] at e'
        by_cases w : a = i ∧ d' = d
        · rw [w.1, w.2, e] at e'
          have e9 : j = j' := (nI_eq (by omega) (by omega)).mp e'
          exact Or.inr ⟨n, by omega, by rw [if_pos rfl]; exact e9⟩
        · rcases b5 a d' (by omega) (by omega) hd j' e' hj' ef' with w | ⟨b, hb, w⟩
          · exact Or.inl w
          · exact Or.inr ⟨b, by omega, by rw [if_neg (by omega)]; exact w⟩
    exact key
/-- the next place -/
theorem bf_n (B : bf_ F nd V s c0 q n i 4) (hi : i < n) : bf_ F nd V s c0 q n (i + 1) 0 := by
  obtain ⟨⟨b0, b1, b1'⟩, b2, b3, b4, b5⟩ := B
  exact ⟨⟨b0, b1, by omega⟩, b2, b3, b4, fun a d' ha h1 hd => b5 a d' ha (by omega) hd⟩
/-- the end: just the places joined with s -/
theorem bf_e (B : bf_ F nd V s c0 q n n 0) (hnd : ∀ k j, k < 64 → ad_ k j → ∃ d, d < 4 ∧ nd k d = nI j) (hV : ∀ z j, V z → ad_ z j → F j = F z → V j) (b : Nat) : cn_ F s b ↔ ∃ a, a < n ∧ q a = b := by
  obtain ⟨⟨b0, b1, b1'⟩, b2, b3, b4, b5⟩ := B
  refine ⟨fun h => ?_, fun ⟨a, ha, e⟩ => e ▸ (b2 a ha).2.1⟩
  refine h (fun z => ∃ a, a < n ∧ q a = z) ⟨0, b0, b1⟩ (fun k j xk ad e => ?_)
  obtain ⟨a, ha, rfl⟩ := xk
  obtain ⟨d, hd, ed⟩ := hnd (q a) j (b2 a ha).1 ad
  rcases b5 a d ha (Or.inl ha) hd j ed ad.2.1 e with w | w
  · exact absurd (hV j (q a) w (ad_sym ad) ((cn_f (b2 a ha).2.1).trans e.symm)) (b2 a ha).2.2
  · exact w
theorem bf_64 (B : bf_ F nd V s c0 q n i d) : c0 + n ≤ 64 := ct_le 64 B.2.2.2.1
theorem ad_nb {k j : Nat} (ad : ad_ k j) : ∃ d, d < 4 ∧ nb_ k d = nI j := by
  obtain ⟨h1, h2, q | q | q | q⟩ := ad
  · exact ⟨0, by decide, by show (if k % 8 < 7 then nI (k + 1) else -1) = _; rw [if_pos q.2, q.1]⟩
  · exact ⟨2, by decide, by show (if 0 < k % 8 then nI (k - 1) else -1) = _; rw [if_pos (by omega), show k - 1 = j by omega]⟩
  · exact ⟨1, by decide, by show (if k / 8 < 7 then nI (k + 8) else -1) = _; rw [if_pos (by omega), q]⟩
  · exact ⟨3, by decide, by show (if 0 < k / 8 then nI (k - 8) else -1) = _; rw [if_pos (by omega), show k - 8 = j by omega]⟩
theorem ad_nr {k j : Nat} (ad : ad_ k j) : ∃ d, d < 4 ∧ nr_ k d = nI j := by
  obtain ⟨d, hd, e⟩ := ad_nb ad
  have h : d = 0 ∨ d = 1 ∨ d = 2 ∨ d = 3 := by omega
  rcases h with rfl | rfl | rfl | rfl
  · exact ⟨3, by decide, e⟩
  · exact ⟨1, by decide, e⟩
  · exact ⟨2, by decide, e⟩
  · exact ⟨0, by decide, e⟩
/-- at the edge -/
theorem nb_ed {k : Nat} (hk : k < 64) : (∀ d, d < 4 → ¬ nb_ k d = -1) ↔ 8 ≤ k ∧ k < 56 ∧ 0 < k % 8 ∧ k % 8 < 7 := by
  constructor
  · intro h
    have h0 : k % 8 < 7 := Nat.lt_of_not_le (fun q => h 0 (by decide) (if_neg (by omega)))
    have h1 : k / 8 < 7 := Nat.lt_of_not_le (fun q => h 1 (by decide) (if_neg (by omega)))
    have h2 : 0 < k % 8 := Nat.pos_of_ne_zero (fun q => h 2 (by decide) (if_neg (by omega)))
    have h3 : 0 < k / 8 := Nat.pos_of_ne_zero (fun q => h 3 (by decide) (if_neg (by omega)))
    omega
  · rintro ⟨h1, h2, h3, h4⟩ d hd
    have h : d = 0 ∨ d = 1 ∨ d = 2 ∨ d = 3 := by omega
    rcases h with rfl | rfl | rfl | rfl
    · rw [show nb_ k 0 = nI (k + 1) from if_pos h4]; exact ni_m1 (by omega)
    · rw [show nb_ k 1 = nI (k + 8) from if_pos (by omega)]; exact ni_m1 (by omega)
    · rw [show nb_ k 2 = nI (k - 1) from if_pos h3]; exact ni_m1 (by omega)
    · rw [show nb_ k 3 = nI (k - 8) from if_pos (by omega)]; exact ni_m1 (by omega)
theorem nr_ed {k : Nat} (hk : k < 64) : (∀ d, d < 4 → ¬ nr_ k d = -1) ↔ 8 ≤ k ∧ k < 56 ∧ 0 < k % 8 ∧ k % 8 < 7 := by
  rw [← nb_ed hk]
  constructor
  · intro h d hd
    have w : d = 0 ∨ d = 1 ∨ d = 2 ∨ d = 3 := by omega
    rcases w with rfl | rfl | rfl | rfl
    · exact h 3 (by decide)
    · exact h 1 (by decide)
    · exact h 2 (by decide)
    · exact h 0 (by decide)
  · intro h d hd
    have w : d = 0 ∨ d = 1 ∨ d = 2 ∨ d = 3 := by omega
    rcases w with rfl | rfl | rfl | rfl
    · exact h 3 (by decide)
    · exact h 1 (by decide)
    · exact h 2 (by decide)
    · exact h 0 (by decide)
/-- an island so far: the pairs of a piece's places and their sides that were looked at -/
def ip_ (F : Nat → Int32) (nd : Nat → Nat → Int32) (s : Nat) (D : Nat → Nat → Prop) (ar : Int32) : Prop :=
  (∀ k d, D k d → ∃ j, j < 64 ∧ nd k d = nI j ∧ ad_ k j ∧ (¬ F j = F s → F j = ar)) ∧ (ar = -1 ∨ ∃ k d j, D k d ∧ nd k d = nI j ∧ j < 64 ∧ ad_ k j ∧ ¬ F j = F s ∧ F j = ar)
theorem ip_0 {D : Nat → Nat → Prop} (h : ∀ k d, ¬ D k d) : ip_ F nd s D (-1) := ⟨fun k d w => absurd w (h k d), Or.inl rfl⟩
theorem ip_cg {D D' : Nat → Nat → Prop} {ar : Int32} (e : ∀ k d, D k d ↔ D' k d) (h : ip_ F nd s D ar) : ip_ F nd s D' ar :=
  ⟨fun k d w => h.1 k d ((e k d).mpr w), h.2.imp id (fun ⟨k, d, j, w, r⟩ => ⟨k, d, j, (e k d).mp w, r⟩)⟩
/-- one more pair, of the same field -/
theorem ip_s {D : Nat → Nat → Prop} {ar : Int32} {k0 d0 j : Nat} (h : ip_ F nd s D ar) (hj : j < 64) (e : nd k0 d0 = nI j) (ad : ad_ k0 j) (ef : F j = F s) : ip_ F nd s (fun k d => D k d ∨ (k = k0 ∧ d = d0)) ar := by
  refine ⟨fun k d w => ?_, h.2.imp id (fun ⟨k, d, j, w, r⟩ => ⟨k, d, j, Or.inl w, r⟩)⟩
  rcases w with w | ⟨rfl, rfl⟩
  · exact h.1 k d w
  · exact ⟨j, hj, e, ad, fun q => absurd ef q⟩
/-- one more pair, of another field -/
theorem ip_d {D : Nat → Nat → Prop} {ar : Int32} {k0 d0 j : Nat} (h : ip_ F nd s D ar) (hj : j < 64) (e : nd k0 d0 = nI j) (ad : ad_ k0 j) (ef : ¬ F j = F s) (hF : ∀ z, z < 64 → ¬ F z = -1) (ha : ar = -1 ∨ ar = F j) : ip_ F nd s (fun k d => D k d ∨ (k = k0 ∧ d = d0)) (F j) := by
  refine ⟨fun k d w => ?_, Or.inr ⟨k0, d0, j, Or.inr ⟨rfl, rfl⟩, e, hj, ad, ef, rfl⟩⟩
  rcases w with w | ⟨rfl, rfl⟩
  · obtain ⟨j', h1, h2, h3, h4⟩ := h.1 k d w
    refine ⟨j', h1, h2, h3, fun q => ?_⟩
    rcases ha with rfl | ha
    · exact absurd (h4 q) (hF j' h1)
    · rw [← ha]; exact h4 q
  · exact ⟨j, hj, e, ad, fun _ => rfl⟩
/-- all pairs: an island -/
theorem ip_e {ar : Int32} (hs : s < 64) (he : ∀ k, k < 64 → ((∀ d, d < 4 → ¬ nd k d = -1) ↔ 8 ≤ k ∧ k < 56 ∧ 0 < k % 8 ∧ k % 8 < 7)) (hnd : ∀ k j, k < 64 → ad_ k j → ∃ d, d < 4 ∧ nd k d = nI j) (h : ip_ F nd s (fun k d => cn_ F s k ∧ d < 4) ar) : is_l F s := by
  refine ⟨fun k hk => ?_, fun k j k' j' h1 h2 h3 h4 h5 h6 => ?_⟩
  · refine (he k (cn_64 hk hs)).mp (fun d hd e => ?_)
    obtain ⟨j, hj, e2, -⟩ := h.1 k d ⟨hk, hd⟩
    rw [e2] at e
    exact ni_m1 (by omega) e
  · have key : ∀ k j, cn_ F s k → ad_ k j → ¬ F j = F s → F j = ar := fun k j h1 h2 h3 => by
      obtain ⟨d, hd, e⟩ := hnd k j h2.1 h2
      obtain ⟨j', hj', e', -, w⟩ := h.1 k d ⟨h1, hd⟩
      have e9 : j' = j := (nI_eq (by omega) (by have := h2.2.1; omega)).mp (e'.symm.trans e)
      subst e9
      exact w h3
    rw [key k j h1 h2 h3, key k' j' h4 h5 h6]
/-- no island: at the edge -/
theorem ip_x {k d : Nat} (he : ∀ k, k < 64 → ((∀ d, d < 4 → ¬ nd k d = -1) ↔ 8 ≤ k ∧ k < 56 ∧ 0 < k % 8 ∧ k % 8 < 7)) (hk : k < 64) (hc : cn_ F s k) (hd : d < 4) (e : nd k d = -1) : ¬ is_l F s := fun w => (he k hk).mpr (w.1 k hc) d hd e
/-- no island: two other fields -/
theorem ip_y {D : Nat → Nat → Prop} {ar : Int32} {k0 j : Nat} (h : ip_ F nd s D ar) (hD : ∀ k d, D k d → cn_ F s k) (hc : cn_ F s k0) (ad : ad_ k0 j) (ef : ¬ F j = F s) (h1 : ¬ ar = -1) (h2 : ¬ F j = ar) : ¬ is_l F s := fun w => by
  obtain ⟨k, d, j', q1, q2, q3, q4, q5, q6⟩ := h.2.resolve_left h1
  exact h2 ((w.2 k0 j k j' hc ad ef (hD k d q1) q4 q5).trans q6)
end VVPC
