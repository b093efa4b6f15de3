section VVD
/-- the class's picture with its arrays -/
def pf_ (h : PH) (p : Nat) : Prop := hp_vr h 14 p 0 = (33, p) ∧ hp_vr h 14 p 2 = (35, p) ∧ hp_vr h 14 p 3 = (36, p) ∧ hp_ln h 33 p = 64 ∧ hp_ln h 35 p = 64 ∧ hp_ln h 36 p = 64
/-- nothing but these numbers of one thing changed -/
def gr_ (T : Nat → Nat → Prop) (p : Nat) (h h' : PH) : Prop := hp_al h' = hp_al h ∧ hp_ln h' = hp_ln h ∧ hp_vr h' = hp_vr h ∧ hp_vl h' = hp_vl h ∧ hp_vd h' = hp_vd h ∧ ∀ t i k, ¬ (i = p ∧ T t k) → hp_vi h' t i k = hp_vi h t i k
variable {T T' : Nat → Nat → Prop} {p : Nat} {h h1 h2 h' : PH}
theorem gr_.rf : gr_ T p h h := ⟨rfl, rfl, rfl, rfl, rfl, fun _ _ _ _ => rfl⟩
theorem gr_.tr (a : gr_ T p h h1) (b : gr_ T p h1 h2) : gr_ T p h h2 := ⟨b.1.trans a.1, b.2.1.trans a.2.1, b.2.2.1.trans a.2.2.1, b.2.2.2.1.trans a.2.2.2.1, b.2.2.2.2.1.trans a.2.2.2.2.1, fun t i k q => (b.2.2.2.2.2 t i k q).trans (a.2.2.2.2.2 t i k q)⟩
theorem gr_.i {t k : Nat} {x : Int32} (hT : T t k) : gr_ T p h (hp_seti h t p k x) := ⟨rfl, rfl, rfl, rfl, rfl, fun t' i k' q => hp_seti_ne (fun z => q ⟨z.2.1, z.1.symm ▸ z.2.2.symm ▸ hT⟩)⟩
theorem gr_.mo (hT : ∀ t k, T t k → T' t k) (a : gr_ T p h h') : gr_ T' p h h' := ⟨a.1, a.2.1, a.2.2.1, a.2.2.2.1, a.2.2.2.2.1, fun t i k q => a.2.2.2.2.2 t i k (fun z => q ⟨z.1, hT t k z.2⟩)⟩
theorem gr_.v (a : gr_ T p h h') {t i k : Nat} (hn : ¬ (i = p ∧ T t k)) : hp_vi h' t i k = hp_vi h t i k := a.2.2.2.2.2 t i k hn
theorem gr_.te (a : gr_ T p h h') {t : Nat} (hn : ∀ k, ¬ T t k) : hp_te h h' t := ⟨congrFun a.1 t, congrFun a.2.1 t, funext fun i => funext fun k => a.v (fun z => hn k z.2), congrFun a.2.2.1 t, congrFun a.2.2.2.1 t, congrFun a.2.2.2.2.1 t⟩
theorem gr_.tx (a : gr_ T p h h') {t j : Nat} (hj : ¬ j = p) : hp_tx h h' t j := ⟨by rw [a.1], by rw [a.2.1], funext fun k => a.v (fun z => hj z.1), by rw [a.2.2.1]⟩
theorem gr_.pf (a : gr_ T p h h') {j : Nat} (F : pf_ h j) : pf_ h' j := by
  unfold pf_ at *
  rw [a.2.1, a.2.2.1]
  exact F
def tq_ (t _k : Nat) : Prop := t = 35 ∨ t = 36
def tc_ (t k : Nat) : Prop := (t = 35 ∨ t = 36) ∨ (t = 14 ∧ 5 ≤ k)
def tp_ (t k : Nat) : Prop := ((t = 35 ∨ t = 36) ∨ (t = 14 ∧ 5 ≤ k)) ∨ t = 33
/-- which places are marked -/
def sn_ (h : PH) (p : Nat) (W : Nat → Prop) : Prop := ∀ z, z < 64 → (W z ∧ hp_vi h 35 p z = 1) ∨ (¬ W z ∧ hp_vi h 35 p z = 0)
theorem sn_.b {W : Nat → Prop} (s : sn_ h p W) {z : Nat} (hz : z < 64) : hp_vi h 35 p z = 0 ∨ hp_vi h 35 p z = 1 := (s z hz).elim (fun q => Or.inr q.2) (fun q => Or.inl q.2)
theorem sn_.y {W : Nat → Prop} (s : sn_ h p W) {z : Nat} (hz : z < 64) (e : ¬ hp_vi h 35 p z = 0) : W z := (s z hz).elim (fun q => q.1) (fun q => absurd q.2 e)
theorem sn_.n {W : Nat → Prop} (s : sn_ h p W) {z : Nat} (hz : z < 64) (e : hp_vi h 35 p z = 0) : ¬ W z := (s z hz).elim (fun q => absurd (q.2.symm.trans e) (by decide)) (fun q => q.1)
theorem sn_.cg {W W' : Nat → Prop} (s : sn_ h p W) (e : ∀ z, z < 64 → (W z ↔ W' z)) : sn_ h p W' := fun z hz => (s z hz).imp (fun q => ⟨(e z hz).mp q.1, q.2⟩) (fun q => ⟨fun w => q.1 ((e z hz).mpr w), q.2⟩)
theorem sn_.v {W : Nat → Prop} (s : sn_ h p W) (e : ∀ z, hp_vi h' 35 p z = hp_vi h 35 p z) : sn_ h' p W := fun z hz => by rw [e z]; exact s z hz
theorem nb_ge {k d : Nat} (hk : k < 64) (hd : d < 4) (e : 0 ≤ nb_ k d) : ∃ j, j < 64 ∧ nb_ k d = nI j ∧ ad_ k j := (nb_in hk hd).resolve_left (fun q => by rw [q] at e; exact absurd e (by decide))
theorem nb_lt {k d : Nat} (hk : k < 64) (hd : d < 4) (e : ¬ 0 ≤ nb_ k d) : nb_ k d = -1 := (nb_in hk hd).resolve_right (fun ⟨j, hj, q, _⟩ => e (by rw [q]; exact nI_pos' (by omega)))
/-- the search, in the class's heap -/
def gs_ (F : Nat → Int32) (h0 : PH) (p s c0 : Nat) (V : Nat → Prop) (h : PH) (q : Nat → Nat) (n i d : Nat) : Prop :=
  gr_ tq_ p h0 h ∧ bf_ F nb_ V s c0 q n i d ∧ (∀ a, a < n → hp_vi h 36 p a = nI (q a)) ∧ sn_ h p (fun z => V z ∨ ∃ a, a < n ∧ q a = z)
variable {F : Nat → Int32} {h0 : PH} {s c0 n i d : Nat} {V : Nat → Prop} {q : Nat → Nat}
theorem gs_.le (G : gs_ F h0 p s c0 V h q n i d) : i ≤ n ∧ c0 + n ≤ 64 := ⟨G.2.1.1.2.2, bf_64 G.2.1⟩
theorem gs_.k (G : gs_ F h0 p s c0 V h q n i d) (hh : ∀ j, nb_ (q i) d = nI j → j < 64 → F j = F s → V j ∨ ∃ b, b < n ∧ q b = j) : gs_ F h0 p s c0 V h q n i (d + 1) := ⟨G.1, bf_k G.2.1 hh, G.2.2⟩
theorem gs_.nx (G : gs_ F h0 p s c0 V h q n i 4) (hi : i < n) : gs_ F h0 p s c0 V h q n (i + 1) 0 := ⟨G.1, bf_n G.2.1 hi, G.2.2⟩
theorem gs_up {W : Nat → Prop} {n j : Nat} {q : Nat → Nat} (S : sn_ h p (fun z => W z ∨ ∃ a, a < n ∧ q a = z)) : sn_ (hp_seti (hp_seti h 35 p j 1) 36 p n (nI j)) p (fun z => W z ∨ ∃ a, a < n + 1 ∧ (if a = n then j else q a) = z) := fun z hz => by
  by_cases w : z = j
  · subst w
    exact Or.inl ⟨Or.inr ⟨n, by omega, if_pos rfl⟩, (hp_seti_ne (fun y => absurd y.1 (by decide))).trans hp_seti_at⟩
  · have e : hp_vi (hp_seti (hp_seti h 35 p j 1) 36 p n (nI j)) 35 p z = hp_vi h 35 p z := (hp_seti_ne (fun y => absurd y.1 (by decide))).trans (hp_seti_ne (fun y => w y.2.2))
    rw [e]
    refine (S z hz).imp (fun y => ⟨y.1.imp id (fun ⟨a, ha, e9⟩ => ⟨a, by omega, by rw [if_neg (by omega)]; exact e9⟩), y.2⟩) (fun y => ⟨fun x => y.1 (x.imp id (fun ⟨a, ha, e9⟩ => ?_)), y.2⟩)
    by_cases v : a = n
    · rw [if_pos v] at e9; exact absurd e9.symm w
    · rw [if_neg v] at e9; exact ⟨a, by omega, e9⟩
theorem gs_.pp (G : gs_ F h0 p s c0 V h q n i d) (hi : i < n) {j : Nat} (hj : j < 64) (had : ad_ (q i) j) (e : nb_ (q i) d = nI j) (ef : F j = F s) (e0 : hp_vi h 35 p j = 0) : n < 64 ∧ gs_ F h0 p s c0 V (hp_seti (hp_seti h 35 p j 1) 36 p n (nI j)) (fun a => if a = n then j else q a) (n + 1) i (d + 1) := by
  have hw := G.2.2.2.n hj e0
  have B := bf_p G.2.1 hi hj had e ef (fun w => hw (Or.inl w)) (fun w => hw (Or.inr w))
  have h9 := bf_64 B
  refine ⟨by omega, (G.1.tr (gr_.i (Or.inl rfl))).tr (gr_.i (Or.inr rfl)), B, fun a ha => ?_, gs_up G.2.2.2⟩
  show hp_vi _ 36 p a = nI (if a = n then j else q a)
  by_cases w : a = n
  · rw [if_pos w, w]; exact hp_seti_at
  · rw [if_neg w]; exact (hp_seti_ne (fun y => w y.2.2)).trans ((hp_seti_ne (fun y => absurd y.1 (by decide))).trans (G.2.2.1 a (by omega)))
theorem gs_0 (hs : s < 64) (hv : ¬ V s) (S : sn_ h p V) (hc : ct_ V 64 c0) : gs_ F h p s c0 V (hp_seti (hp_seti h 35 p s 1) 36 p 0 (nI s)) (fun _ => s) 1 0 0 := by
  refine ⟨(gr_.i (T := tq_) (Or.inl rfl)).tr (gr_.i (Or.inr rfl)), bf_00 hs hv hc, fun a ha => ?_, ?_⟩
  · obtain rfl : a = 0 := by omega
    exact hp_seti_at
  · have X := gs_up (W := V) (n := 0) (j := s) (q := fun _ => s) (S.cg (fun z _ => ⟨Or.inl, fun w => w.elim id (fun ⟨a, ha, _⟩ => absurd ha (Nat.not_lt_zero a))⟩))
    exact X.cg (fun z _ => ⟨fun w => w.imp id (fun ⟨a, ha, e⟩ => ⟨a, ha, by split at e <;> exact e⟩), fun w => w.imp id (fun ⟨a, ha, e⟩ => ⟨a, ha, by split <;> exact e⟩)⟩)
/-- the pairs looked at -/
def dn_ (q : Nat → Nat) (n i d : Nat) (k' d' : Nat) : Prop := ∃ a, a < n ∧ q a = k' ∧ d' < 4 ∧ (a < i ∨ (a = i ∧ d' < d))
theorem dn_s (hi : i < n) (hd : d < 4) (k' d' : Nat) : (dn_ q n i d k' d' ∨ (k' = q i ∧ d' = d)) ↔ dn_ q n i (d + 1) k' d' := by
  constructor
  · rintro (⟨a, h1, h2, h3, h4⟩ | ⟨rfl, rfl⟩)
    · exact ⟨a, h1, h2, h3, by omega⟩
    · exact ⟨i, hi, rfl, hd, by omega⟩
  · rintro ⟨a, h1, h2, h3, h4⟩
    by_cases w : a = i ∧ d' = d
    · exact Or.inr ⟨by rw [← w.1]; exact h2.symm, w.2⟩
    · exact Or.inl ⟨a, h1, h2, h3, by omega⟩
theorem dn_n (k' d' : Nat) : dn_ q n i 4 k' d' ↔ dn_ q n (i + 1) 0 k' d' := by
  constructor
  · rintro ⟨a, h1, h2, h3, h4⟩; exact ⟨a, h1, h2, h3, by omega⟩
  · rintro ⟨a, h1, h2, h3, h4⟩; exact ⟨a, h1, h2, h3, by omega⟩
theorem dn_e (hall : ∀ b, cn_ F s b ↔ ∃ a, a < n ∧ q a = b) (k' d' : Nat) : dn_ q n n 0 k' d' ↔ (cn_ F s k' ∧ d' < 4) := by
  constructor
  · rintro ⟨a, h1, h2, h3, h4⟩; exact ⟨(hall k').mpr ⟨a, h1, h2⟩, h3⟩
  · rintro ⟨h1, h3⟩
    obtain ⟨a, ha, e⟩ := (hall k').mp h1
    exact ⟨a, ha, e, h3, by omega⟩
theorem ip_ng {nd : Nat → Nat → Int32} {D : Nat → Nat → Prop} {ar : Int32} (hF : ∀ z, z < 64 → ∃ w : Nat, F z = nI w ∧ w < 8) (h : ip_ F nd s D ar) (e : ar < 0) : ar = -1 := h.2.resolve_right (fun ⟨k, d, j, _, _, hj, _, _, e9⟩ => by
  obtain ⟨w, hw, hw8⟩ := hF j hj
  rw [← e9, hw] at e
  exact nI_pos (by omega) e)
/-- all the picture's places, up to k -/
def cp_ (F : Nat → Int32) (h0 : PH) (p : Nat) (h : PH) (k pp ii c0 : Nat) : Prop :=
  gr_ tc_ p h0 h ∧ sn_ h p (vk_ F k) ∧ (hp_vi h 14 p 5 = nI pp ∧ hp_vi h 14 p 6 = nI ii ∧ hp_vi h 14 p 7 = nI c0) ∧ ct_ (st_ F) k pp ∧ ct_ (fun z => st_ F z ∧ is_l F z) k ii ∧ ct_ (vk_ F k) 64 c0
variable {k pp ii : Nat}
theorem cp_.y (C : cp_ F h0 p h k pp ii c0) (hv : vk_ F k k) : cp_ F h0 p h (k + 1) pp ii c0 :=
  ⟨C.1, C.2.1.cg (fun _ _ => (vk_y hv).symm), C.2.2.1, ⟨pp, C.2.2.2.1, Or.inr ⟨fun w => vk_st.mpr w hv, rfl⟩⟩, ⟨ii, C.2.2.2.2.1, Or.inr ⟨fun w => vk_st.mpr w.1 hv, rfl⟩⟩, ct_cg 64 (fun _ _ => (vk_y hv).symm) C.2.2.2.2.2⟩
theorem cp_.st (C : cp_ F h0 p h k pp ii c0) (hk : k < 64) (hv : ¬ vk_ F k k) {b : Nat} (G : gs_ F (hp_seti h 14 p 5 (nI (pp + 1))) p k c0 (vk_ F k) h' q n n 0) (hb : (b = 1 ∧ is_l F k) ∨ (b = 0 ∧ ¬ is_l F k)) : cp_ F h0 p (hp_seti (hp_seti h' 14 p 7 (nI (c0 + n))) 14 p 6 (nI (ii + b))) (k + 1) (pp + 1) (ii + b) (c0 + n) := by
  have hE := bf_e G.2.1 (fun _ _ _ ad => ad_nb ad) (fun z j hz ad e => vk_c hz ad e)
  have hW : ∀ z, (vk_ F k z ∨ ∃ a, a < n ∧ q a = z) ↔ vk_ F (k + 1) z := fun z => by rw [vk_s, hE z]
  refine ⟨?_, ?_, ⟨?_, hp_seti_at, ?_⟩, ⟨pp, C.2.2.2.1, Or.inl ⟨vk_st.mp hv, rfl⟩⟩, ⟨ii, C.2.2.2.2.1, ?_⟩, ct_cg 64 (fun z _ => hW z) G.2.1.2.2.2.1⟩
  · exact (((C.1.tr (gr_.i (Or.inr ⟨rfl, by omega⟩))).tr (G.1.mo (fun _ _ => Or.inl))).tr (gr_.i (Or.inr ⟨rfl, by omega⟩))).tr (gr_.i (Or.inr ⟨rfl, by omega⟩))
  · exact (G.2.2.2.cg (fun z _ => hW z)).v (fun z => (hp_seti_ne (fun y => absurd y.1 (by decide))).trans (hp_seti_ne (fun y => absurd y.1 (by decide))))
  · refine (hp_seti_ne (fun y => absurd y.2.2 (by decide))).trans ((hp_seti_ne (fun y => absurd y.2.2 (by decide))).trans ((G.1.v (fun y => ?_)).trans hp_seti_at))
    rcases y.2 with y | y <;> exact absurd y (by decide)
  · exact (hp_seti_ne (fun y => absurd y.2.2 (by decide))).trans hp_seti_at
  · rcases hb with ⟨rfl, hl⟩ | ⟨rfl, hl⟩
    · exact Or.inl ⟨⟨vk_st.mp hv, hl⟩, rfl⟩
    · exact Or.inr ⟨fun w => hl w.2, rfl⟩
/-- fields with some painted -/
def pt_ (F : Nat → Int32) (s m : Nat) (v : Int32) (z : Nat) : Int32 := if s ≤ z ∧ z < s + m then v else F z
theorem pt_0 {v : Int32} : pt_ F s 0 v = F := funext fun _ => if_neg (by omega)
theorem pt_s {m : Nat} {v : Int32} (z : Nat) : pt_ F s (m + 1) v z = if z = s + m then v else pt_ F s m v z := by
  unfold pt_
  by_cases w : z = s + m
  · rw [if_pos w, if_pos (by omega)]
  · rw [if_neg w]
    by_cases y : s ≤ z ∧ z < s + m
    · rw [if_pos y, if_pos (by omega)]
    · rw [if_neg y, if_neg (by omega)]
def dp_ (h : PH) (p s : Nat) (v : Int32) : Nat → PH
  | 0 => h
  | m + 1 => hp_seti (dp_ h p s v m) 63 p (s + m) v
theorem dp_te (h : PH) (p s : Nat) (v : Int32) {t : Nat} (ht : ¬ t = 63) : ∀ m, hp_te h (dp_ h p s v m) t
  | 0 => hp_te.rf
  | m + 1 => (dp_te h p s v ht m).tr (hp_te.i ht)
theorem dp_tx (h : PH) (p s : Nat) (v : Int32) {t j : Nat} (ht : ¬ j = p) : ∀ m, hp_tx h (dp_ h p s v m) t j
  | 0 => hp_tx.rf
  | m + 1 => (dp_tx h p s v ht m).tr (hp_tx.i (fun z => ht z.2))
theorem dp_al (h : PH) (p s : Nat) (v : Int32) : ∀ m, hp_al (dp_ h p s v m) = hp_al h ∧ hp_ln (dp_ h p s v m) = hp_ln h ∧ hp_vr (dp_ h p s v m) = hp_vr h
  | 0 => ⟨rfl, rfl, rfl⟩
  | m + 1 => dp_al h p s v m
theorem dp_vi (h : PH) (p s : Nat) (v : Int32) : ∀ m z, hp_vi (dp_ h p s v m) 63 p z = pt_ (hp_vi h 63 p) s m v z
  | 0, z => by rw [pt_0]; rfl
  | m + 1, z => by
    rw [pt_s, ← dp_vi h p s v m z]
    show (if 63 = 63 ∧ p = p ∧ z = s + m then v else _) = _
    by_cases w : z = s + m
    · rw [if_pos w, if_pos ⟨rfl, rfl, w⟩]
    · rw [if_neg w, if_neg (fun y => w y.2.2)]; rfl
def dw_ (S : SP) (p s m : Nat) (v : Int32) (pp ii : Nat) : SP := (dp_ S.1 p s v m, c_up (c_up S.2.1 (20 + p) pp) (30 + p) ii, S.2.2)
def op_draw (S : SP) (x a b m c : Int32) (pp ii : Nat) : Nat × Int32 × SP := if ok_i x (nn_ S 3) then (if ((0 ≤ a ∧ a ≤ 7) ∧ (0 ≤ b ∧ b ≤ 7)) ∧ (1 ≤ m ∧ m ≤ 8 - b) ∧ (0 ≤ c - 97 ∧ c - 97 ≤ 7) then (if (s_pa S (cl_ x)).1 = 0 then (0, nI pp, dw_ S (cl_ x) (cl_ (a * 8 + b)) (cl_ m) (c - 97) pp ii) else (3, 0, S)) else (2, 0, S)) else (1, 0, S)

theorem cn_cg {F F' : Nat → Int32} {a b : Nat} (e : ∀ z, z < 64 → F z = F' z) (ha : a < 64) (h : cn_ F a b) : cn_ F' a b := fun X x0 xc => (h (fun z => X z ∧ z < 64) ⟨x0, ha⟩ (fun k j xk ad ef => ⟨xc k j xk.1 ad (by rw [← e j ad.2.1, ← e a ha]; exact ef), ad.2.1⟩)).1
theorem st_cg {F F' : Nat → Int32} {a : Nat} (e : ∀ z, z < 64 → F z = F' z) (ha : a < 64) (h : st_ F a) : st_ F' a := fun j hj hc => h j hj (cn_cg (fun z hz => (e z hz).symm) (by omega) hc)
theorem il_cg {F F' : Nat → Int32} {a : Nat} (e : ∀ z, z < 64 → F z = F' z) (ha : a < 64) (h : is_l F a) : is_l F' a := by
  have e' : ∀ z, z < 64 → F' z = F z := fun z hz => (e z hz).symm
  refine ⟨fun k hk => h.1 k (cn_cg e' ha hk), fun k j k' j' h1 h2 h3 h4 h5 h6 => ?_⟩
  rw [e' j h2.2.1, e' j' h5.2.1]
  exact h.2 k j k' j' (cn_cg e' ha h1) h2 (fun q => h3 (by rw [e' j h2.2.1, e' a ha]; exact q)) (cn_cg e' ha h4) h5 (fun q => h6 (by rw [e' j' h5.2.1, e' a ha]; exact q))
theorem pc_.cg {F F' : Nat → Int32} {p i : Nat} (h : pc_ F p i) (e : ∀ z, z < 64 → F z = F' z) : pc_ F' p i :=
  have e' : ∀ z, z < 64 → F' z = F z := fun z hz => (e z hz).symm
  ⟨ct_cg 64 (fun _ hk => ⟨st_cg e hk, st_cg e' hk⟩) h.1, ct_cg 64 (fun _ hk => ⟨fun q => ⟨st_cg e hk q.1, il_cg e hk q.2⟩, fun q => ⟨st_cg e' hk q.1, il_cg e' hk q.2⟩⟩) h.2⟩
set_option maxRecDepth 20000 in
theorem C_X5_fld {G : GW} {h : PH} {Q : RS → PH → Prop} {p k : Nat} (F : pf_ h p) (hk : k < 64) (hq : Q (.inl (some (pv_I (hp_vi h 33 p k)))) h) : VV G 0 0 0 yX5_fieldOf cX5_fieldOf 2 (some .int) [] 0 (vv_en 2 [pv_O (14, p), pv_I (nI k)]) [] h Q := by
  show VV G 0 0 0 yX5_fieldOf cX5_fieldOf 2 (some .int) [] 0 [some (pv_O (14, p)), some (pv_I (nI k))] [] h Q
  refine v_iload_n 1 dX5_fieldOf_0 rfl rfl ?_
  refine v_if_lt 19 4 dX5_fieldOf_1 (by decide) rfl (fun c1 => ?_) (fun c1 => ?_)
  · exact absurd c1 (nI_pos (by omega))
  · refine v_iload_n 5 dX5_fieldOf_4 rfl rfl ?_
    refine v_bipushv (v := 64) 7 dX5_fieldOf_5 (by decide) rfl ?_
    refine v_icmp_ge 19 10 dX5_fieldOf_7 (by decide) rfl (fun c7 => ?_) (fun c7 => ?_)
    · exact absurd c7 (nI_ge (a := k) (b := 64) hk (by decide))
    · refine v_aload_n 11 dX5_fieldOf_10 rfl rfl ?_
      refine v_getfr 14 dX5_fieldOf_11 fl_X5_9 (by first | assumption | rfl) (by rfl) rfl ?_
      rw [F.1]
      refine v_iload_n 15 dX5_fieldOf_14 rfl rfl ?_
      refine v_iald 16 dX5_fieldOf_15 (by first | assumption | rfl) (by rw [F.2.2.2.1]; exact in_nI hk (by omega)) rfl ?_
      rw [nI_clamp (by omega)]
      refine v_goto 20 dX5_fieldOf_16 (by decide) ?_
      refine v_ireturn dX5_fieldOf_20 rfl ?_
      exact hq
set_option maxRecDepth 20000 in
theorem C_X5_enqueue {G : GW} {h : PH} {Q : RS → PH → Prop} {p j n : Nat} (F : pf_ h p) (hj : j < 64) (hn : n ≤ 64) (hb : hp_vi h 35 p j = 0 ∨ hp_vi h 35 p j = 1) (h1 : hp_vi h 35 p j = 1 → Q (.inl (some (pv_I (nI n)))) h) (h0 : hp_vi h 35 p j = 0 → n < 64 ∧ Q (.inl (some (pv_I (nI (n + 1))))) (hp_seti (hp_seti h 35 p j 1) 36 p n (nI j))) : VV G 0 0 0 yX5_enqueue cX5_enqueue 4 (some .int) [] 0 (vv_en 4 [pv_O (14, p), pv_I (nI j), pv_I (nI n)]) [] h Q := by
  show VV G 0 0 0 yX5_enqueue cX5_enqueue 4 (some .int) [] 0 [some (pv_O (14, p)), some (pv_I (nI j)), some (pv_I (nI n)), none] [] h Q
  refine v_iload_n 1 dX5_enqueue_0 rfl rfl ?_
  refine v_if_lt 24 4 dX5_enqueue_1 (by decide) rfl (fun c1 => ?_) (fun c1 => ?_)
  · exact absurd c1 (nI_pos (by omega))
  · refine v_iload_n 5 dX5_enqueue_4 rfl rfl ?_
    refine v_bipushv (v := 64) 7 dX5_enqueue_5 (by decide) rfl ?_
    refine v_icmp_ge 24 10 dX5_enqueue_7 (by decide) rfl (fun c7 => ?_) (fun c7 => ?_)
    · exact absurd c7 (nI_ge (a := j) (b := 64) hj (by decide))
    · refine v_iload_n 11 dX5_enqueue_10 rfl rfl ?_
      refine v_if_lt 24 14 dX5_enqueue_11 (by decide) rfl (fun c11 => ?_) (fun c11 => ?_)
      · exact absurd c11 (nI_pos (by omega))
      · refine v_iload_n 15 dX5_enqueue_14 rfl rfl ?_
        refine v_bipushv (v := 64) 17 dX5_enqueue_15 (by decide) rfl ?_
        refine v_icmp_ge 24 20 dX5_enqueue_17 (by decide) rfl (fun c17 => ?_) (fun c17 => ?_)
        · refine v_iconstv (v := 0) 25 dX5_enqueue_24 (by decide) rfl ?_
          refine v_istore_n 26 dX5_enqueue_25 (by decide) rfl rfl ?_
          dsimp only [List.set]
          refine v_iload_n 27 dX5_enqueue_26 rfl rfl ?_
          refine v_if_eq 39 30 dX5_enqueue_27 (by decide) rfl (fun c27 => ?_) (fun c27 => ?_)
          · refine v_iload_n 40 dX5_enqueue_39 rfl rfl ?_
            refine v_ireturn dX5_enqueue_40 rfl ?_
            exact h1 (hb.resolve_left (fun e => absurd c17 (nI_ge (a := n) (b := 64) (h0 e).1 (by decide))))
          · exact absurd (by decide) c27
        · refine v_iconstv (v := 1) 21 dX5_enqueue_20 (by decide) rfl ?_
          refine v_goto 25 dX5_enqueue_21 (by decide) ?_
          refine v_istore_n 26 dX5_enqueue_25 (by decide) rfl rfl ?_
          dsimp only [List.set]
          refine v_iload_n 27 dX5_enqueue_26 rfl rfl ?_
          refine v_if_eq 39 30 dX5_enqueue_27 (by decide) rfl (fun c27 => ?_) (fun c27 => ?_)
          · exact absurd c27 (by decide)
          · refine v_aload_n 31 dX5_enqueue_30 rfl rfl ?_
            refine v_getfr 34 dX5_enqueue_31 fl_X5_18 (by first | assumption | rfl) (by rfl) rfl ?_
            rw [F.2.1]
            refine v_iload_n 35 dX5_enqueue_34 rfl rfl ?_
            refine v_zald 36 dX5_enqueue_35 (by first | assumption | rfl) (by rw [F.2.2.2.2.1]; exact in_nI hj (by omega)) rfl ?_
            rw [nI_clamp (by omega)]
            refine v_if_eq 41 39 dX5_enqueue_36 (by decide) rfl (fun c36 => ?_) (fun c36 => ?_)
            · refine v_aload_n 42 dX5_enqueue_41 rfl rfl ?_
              refine v_getfr 45 dX5_enqueue_42 fl_X5_18 (by first | assumption | rfl) (by rfl) rfl ?_
              rw [F.2.1]
              refine v_iload_n 46 dX5_enqueue_45 rfl rfl ?_
              refine v_iconstv (v := 1) 47 dX5_enqueue_46 (by decide) rfl ?_
              refine v_zast 48 dX5_enqueue_47 (by first | assumption | rfl) (by first | assumption | decide) (by rw [F.2.2.2.2.1]; exact in_nI hj (by omega)) (by first | rfl | decide) rfl ?_
              rw [nI_clamp (by omega)]
              refine v_aload_n 49 dX5_enqueue_48 rfl rfl ?_
              refine v_getfr 52 dX5_enqueue_49 fl_X5_22 (by first | assumption | rfl) (by rfl) rfl ?_
              rw [show hp_vr (hp_seti h 35 p j 1) 14 p 3 = (36, p) from F.2.2.1]
              refine v_iload_n 53 dX5_enqueue_52 rfl rfl ?_
              refine v_iload_n 54 dX5_enqueue_53 rfl rfl ?_
              refine v_iast 55 dX5_enqueue_54 (by first | assumption | rfl) (by first | assumption | decide) (by show vp_in _ (hp_ln h 36 p); rw [F.2.2.2.2.2]; exact in_nI (h0 c36).1 (by omega)) rfl ?_
              rw [nI_clamp (by omega)]
              refine v_iload_n 56 dX5_enqueue_55 rfl rfl ?_
              refine v_iconstv (v := 1) 57 dX5_enqueue_56 (by decide) rfl ?_
              refine v_iadd 58 dX5_enqueue_57 rfl ?_
              rw [nI_1]
              refine v_ireturn dX5_enqueue_58 rfl ?_
              exact (h0 c36).2
            · refine v_iload_n 40 dX5_enqueue_39 rfl rfl ?_
              refine v_ireturn dX5_enqueue_40 rfl ?_
              exact h1 (hb.resolve_left c36)
set_option maxRecDepth 20000 in
theorem I_X5_gatherPiece {G : GW} {Q : RS → PH → Prop} {h0 : PH} {p s c0 : Nat} {F : Nat → Int32} {V : Nat → Prop} (A0 : pf_ h0 p) (hF : ∀ z, hp_vi h0 33 p z = F z) (hs : s < 64) {i : Nat} (K : ∀ (h : PH) (q : Nat → Nat) (n : Nat) (z5 : Option PV), i < n → gs_ F h0 p s c0 V h q n i 4 → VV G 1 0 0 yX5_gatherPiece cX5_gatherPiece 6 (some .int) [] 75 [some (pv_O (14, p)), some (pv_I (nI s)), some (pv_I (nI n)), some (pv_I (nI i)), some (pv_I (nI 4)), z5] [] h Q) : ∀ fuel : Nat, ∀ (d : Nat) (h : PH) (q : Nat → Nat) (n : Nat) (z5 : Option PV), d + fuel = 4 → i < n → gs_ F h0 p s c0 V h q n i d → VV G 1 0 0 yX5_gatherPiece cX5_gatherPiece 6 (some .int) [] 23 [some (pv_O (14, p)), some (pv_I (nI s)), some (pv_I (nI n)), some (pv_I (nI i)), some (pv_I (nI d)), z5] [] h Q := by
  intro fuel
  induction fuel with
  | zero =>
    intro d h q n z5 hf hin G
    obtain rfl : d = 4 := by omega
    refine v_iload 25 dX5_gatherPiece_23 rfl rfl ?_
    refine v_iconstv (v := 4) 26 dX5_gatherPiece_25 (by decide) rfl ?_
    refine v_icmp_ge 75 29 dX5_gatherPiece_26 (by decide) rfl (fun c26 => ?_) (fun c26 => ?_)
    · exact K _ _ _ _ hin G
    · exact absurd (nI_le (Nat.le_refl 4) (by decide)) c26
  | succ fuel ih =>
    intro d h q n z5 hf hin G
    have A : pf_ h p := G.1.pf A0
    have hF9 : ∀ z, hp_vi h 33 p z = F z := fun z => (G.1.v (fun y => by rcases y.2 with y | y <;> exact absurd y (by decide))).trans (hF z)
    have G64 := G.le
    have hb := fun z (hz : z < 64) => G.2.2.2.b hz
    refine v_iload 25 dX5_gatherPiece_23 rfl rfl ?_
    refine v_iconstv (v := 4) 26 dX5_gatherPiece_25 (by decide) rfl ?_
    refine v_icmp_ge 75 29 dX5_gatherPiece_26 (by decide) rfl (fun c26 => ?_) (fun c26 => ?_)
    · exact absurd c26 (nI_ge (a := d) (b := 4) (by omega) (by decide))
    · refine v_aload_n 30 dX5_gatherPiece_29 rfl rfl ?_
      refine v_getfr 33 dX5_gatherPiece_30 fl_X5_22 (by first | assumption | rfl) (by rfl) rfl ?_
      rw [A.2.2.1]
      refine v_iload_n 34 dX5_gatherPiece_33 rfl rfl ?_
      refine v_iald 35 dX5_gatherPiece_34 (by first | assumption | rfl) (by rw [A.2.2.2.2.2]; exact in_nI (by omega) (by omega)) rfl ?_
      rw [nI_clamp (by omega), G.2.2.1 i hin]
      refine v_iload 37 dX5_gatherPiece_35 rfl rfl ?_
      refine v_invsN (d' := 0) (k' := 0) (n' := 0) (k2 := 0) (n2 := 0) 40 [_, _] dX5_gatherPiece_37 mn_X5_50 md_X6_neighbour ms_X6_neighbour rfl rfl (of_decide_eq_true rfl) rfl (by decide) rfl rfl rfl rfl (C_X6_neighbour (k := q i) (G.2.1.2.1 i hin).1 (by omega) ?_)
      refine v_istore 42 dX5_gatherPiece_40 (by decide) rfl rfl ?_
      dsimp only [List.set]
      refine v_iload 44 dX5_gatherPiece_42 rfl rfl ?_
      refine v_if_lt 69 47 dX5_gatherPiece_44 (by decide) rfl (fun c44 => ?_) (fun c44 => ?_)
      · refine v_iinc 72 dX5_gatherPiece_69 rfl (by decide) rfl rfl ?_
        dsimp only [List.set]
        refine v_goto 23 dX5_gatherPiece_72 (by decide) ?_
        rw [show nI d + Int32.ofInt 1 = nI (d + 1) from nI_1 d]
        exact ih (d + 1) _ _ _ _ (by omega) hin (G.k (fun j2 e2 hj2 ef2 => by
          rw [e2] at c44
          exact absurd c44 (nI_pos (by omega))))
      · obtain ⟨j, hj, ej, had⟩ := nb_ge (G.2.1.2.1 i hin).1 (by omega) (Int32.not_lt.mp c44)
        rw [ej]
        refine v_aload_n 48 dX5_gatherPiece_47 rfl rfl ?_
        refine v_iload 50 dX5_gatherPiece_48 rfl rfl ?_
        refine v_invv (d' := 0) (k' := 0) (n' := 0) (k2 := 0) (n2 := 0) 53 [_] dX5_gatherPiece_50 mt_X5_53 mi_X5_fieldOf me_X5_fieldOf (by first | assumption | rfl) (by rfl) rfl rfl (of_decide_eq_true rfl) rfl (by decide) rfl rfl rfl rfl (C_X5_fld A hj ?_)
        rw [hF9]
        refine v_aload_n 54 dX5_gatherPiece_53 rfl rfl ?_
        refine v_iload_n 55 dX5_gatherPiece_54 rfl rfl ?_
        refine v_invv (d' := 0) (k' := 0) (n' := 0) (k2 := 0) (n2 := 0) 58 [_] dX5_gatherPiece_55 mt_X5_53 mi_X5_fieldOf me_X5_fieldOf (by first | assumption | rfl) (by rfl) rfl rfl (of_decide_eq_true rfl) rfl (by decide) rfl rfl rfl rfl (C_X5_fld A hs ?_)
        rw [hF9]
        refine v_icmp_ne 69 61 dX5_gatherPiece_58 (by decide) rfl (fun c58 => ?_) (fun c58 => ?_)
        · refine v_iinc 72 dX5_gatherPiece_69 rfl (by decide) rfl rfl ?_
          dsimp only [List.set]
          refine v_goto 23 dX5_gatherPiece_72 (by decide) ?_
          rw [show nI d + Int32.ofInt 1 = nI (d + 1) from nI_1 d]
          exact ih (d + 1) _ _ _ _ (by omega) hin (G.k (fun j2 e2 hj2 ef2 => absurd ef2 (by
            have e9 : j2 = j := (nI_eq (by omega) (by omega)).mp (e2.symm.trans ej)
            rw [e9]
            exact c58)))
        · rcases hb j hj with e0 | e0
          · refine v_aload_n 62 dX5_gatherPiece_61 rfl rfl ?_
            refine v_iload 64 dX5_gatherPiece_62 rfl rfl ?_
            refine v_iload_n 65 dX5_gatherPiece_64 rfl rfl ?_
            refine v_invv (d' := 0) (k' := 0) (n' := 0) (k2 := 0) (n2 := 0) 68 [_, _] dX5_gatherPiece_65 mt_X5_46 mi_X5_enqueue me_X5_enqueue (by first | assumption | rfl) (by rfl) rfl rfl (of_decide_eq_true rfl) rfl (by decide) rfl rfl rfl rfl (C_X5_enqueue A hj (by omega) (hb j hj) (fun e => absurd (e0.symm.trans e) (by decide)) (fun _ => ⟨(G.pp hin hj had ej c58 e0).1, ?_⟩))
            refine v_istore_n 69 dX5_gatherPiece_68 (by decide) rfl rfl ?_
            dsimp only [List.set]
            refine v_iinc 72 dX5_gatherPiece_69 rfl (by decide) rfl rfl ?_
            dsimp only [List.set]
            refine v_goto 23 dX5_gatherPiece_72 (by decide) ?_
            rw [show nI d + Int32.ofInt 1 = nI (d + 1) from nI_1 d]
            exact ih (d + 1) _ _ _ _ (by omega) (by omega) (G.pp hin hj had ej c58 e0).2
          · refine v_aload_n 62 dX5_gatherPiece_61 rfl rfl ?_
            refine v_iload 64 dX5_gatherPiece_62 rfl rfl ?_
            refine v_iload_n 65 dX5_gatherPiece_64 rfl rfl ?_
            refine v_invv (d' := 0) (k' := 0) (n' := 0) (k2 := 0) (n2 := 0) 68 [_, _] dX5_gatherPiece_65 mt_X5_46 mi_X5_enqueue me_X5_enqueue (by first | assumption | rfl) (by rfl) rfl rfl (of_decide_eq_true rfl) rfl (by decide) rfl rfl rfl rfl (C_X5_enqueue A hj (by omega) (hb j hj) (fun _ => ?_) (fun e => absurd (e0.symm.trans e) (by decide)))
            refine v_istore_n 69 dX5_gatherPiece_68 (by decide) rfl rfl ?_
            dsimp only [List.set]
            refine v_iinc 72 dX5_gatherPiece_69 rfl (by decide) rfl rfl ?_
            dsimp only [List.set]
            refine v_goto 23 dX5_gatherPiece_72 (by decide) ?_
            rw [show nI d + Int32.ofInt 1 = nI (d + 1) from nI_1 d]
            exact ih (d + 1) _ _ _ _ (by omega) hin (G.k (fun j2 e2 hj2 ef2 => by
              have e9 : j2 = j := (nI_eq (by omega) (by omega)).mp (e2.symm.trans ej)
              rw [e9]
              exact G.2.2.2.y hj (by rw [e0]; decide)))
set_option maxRecDepth 20000 in
theorem L_X5_gatherPiece {G : GW} {Q : RS → PH → Prop} {h0 : PH} {p s c0 : Nat} {F : Nat → Int32} {V : Nat → Prop} (A0 : pf_ h0 p) (hF : ∀ z, hp_vi h0 33 p z = F z) (hs : s < 64) (hq : ∀ h' q n, gs_ F h0 p s c0 V h' q n n 0 → Q (.inl (some (pv_I (nI n)))) h') : ∀ fuel : Nat, ∀ (i : Nat) (h : PH) (q : Nat → Nat) (n : Nat) (z4 z5 : Option PV), i + fuel = 65 → gs_ F h0 p s c0 V h q n i 0 → VV G 1 0 0 yX5_gatherPiece cX5_gatherPiece 6 (some .int) [] 9 [some (pv_O (14, p)), some (pv_I (nI s)), some (pv_I (nI n)), some (pv_I (nI i)), z4, z5] [] h Q := by
  intro fuel
  induction fuel with
  | zero =>
    intro i h q n z4 z5 hf G
    exact absurd G.le (by omega)
  | succ fuel ih =>
    intro i h q n z4 z5 hf G
    have G64 := G.le
    refine v_iload_n 10 dX5_gatherPiece_9 rfl rfl ?_
    refine v_iload_n 11 dX5_gatherPiece_10 rfl rfl ?_
    refine v_icmp_ge 81 14 dX5_gatherPiece_11 (by decide) rfl (fun c11 => ?_) (fun c11 => ?_)
    · have e9 : i = n := by
        rcases Nat.lt_or_ge i n with w | w
        · exact absurd c11 (nI_ge w (by omega))
        · omega
      subst e9
      refine v_iload_n 82 dX5_gatherPiece_81 rfl rfl ?_
      refine v_ireturn dX5_gatherPiece_82 rfl ?_
      exact hq _ _ _ G
    · have hin : i < n := by
        rcases Nat.lt_or_ge i n with w | w
        · exact w
        · exact absurd (nI_le w (by omega)) c11
      refine v_iload_n 15 dX5_gatherPiece_14 rfl rfl ?_
      refine v_bipushv (v := 64) 17 dX5_gatherPiece_15 (by decide) rfl ?_
      refine v_icmp_ge 81 20 dX5_gatherPiece_17 (by decide) rfl (fun c17 => ?_) (fun c17 => ?_)
      · exact absurd c17 (nI_ge (a := i) (b := 64) (by omega) (by decide))
      · refine v_iconstv (v := 0) 21 dX5_gatherPiece_20 (by decide) rfl ?_
        refine v_istore 23 dX5_gatherPiece_21 (by decide) rfl rfl ?_
        dsimp only [List.set]
        refine I_X5_gatherPiece A0 hF hs (fun h q n z5 hin G4 => ?_) 4 0 _ _ _ _ rfl hin G
        refine v_iinc 78 dX5_gatherPiece_75 rfl (by decide) rfl rfl ?_
        dsimp only [List.set]
        refine v_goto 9 dX5_gatherPiece_78 (by decide) ?_
        rw [show nI i + Int32.ofInt 1 = nI (i + 1) from nI_1 i]
        exact ih (i + 1) _ _ _ _ _ (by omega) (G4.nx hin)
set_option maxRecDepth 20000 in
theorem C_X5_gatherPiece {G : GW} {h : PH} {Q : RS → PH → Prop} {p s c0 : Nat} {F : Nat → Int32} {V : Nat → Prop} (A0 : pf_ h p) (hF : ∀ z, hp_vi h 33 p z = F z) (hs : s < 64) (hv : ¬ V s) (S : sn_ h p V) (hc : ct_ V 64 c0) (hq : ∀ h' q n, gs_ F h p s c0 V h' q n n 0 → Q (.inl (some (pv_I (nI n)))) h') : VV G 1 0 0 yX5_gatherPiece cX5_gatherPiece 6 (some .int) [] 0 (vv_en 6 [pv_O (14, p), pv_I (nI s)]) [] h Q := by
  show VV G 1 0 0 yX5_gatherPiece cX5_gatherPiece 6 (some .int) [] 0 [some (pv_O (14, p)), some (pv_I (nI s)), none, none, none, none] [] h Q
  refine v_aload_n 1 dX5_gatherPiece_0 rfl rfl ?_
  refine v_iload_n 2 dX5_gatherPiece_1 rfl rfl ?_
  refine v_iconstv (v := 0) 3 dX5_gatherPiece_2 (by decide) rfl ?_
  refine v_invv (d' := 0) (k' := 0) (n' := 0) (k2 := 0) (n2 := 0) 6 [_, _] dX5_gatherPiece_3 mt_X5_46 mi_X5_enqueue me_X5_enqueue (by first | assumption | rfl) (by rfl) rfl rfl (of_decide_eq_true rfl) rfl (by decide) rfl rfl rfl rfl (C_X5_enqueue (n := 0) A0 hs (by decide) (S.b hs) (fun e => absurd (S.y hs (by rw [e]; decide)) hv) (fun _ => ⟨by decide, ?_⟩))
  refine v_istore_n 7 dX5_gatherPiece_6 (by decide) rfl rfl ?_
  dsimp only [List.set]
  refine v_iconstv (v := 0) 8 dX5_gatherPiece_7 (by decide) rfl ?_
  refine v_istore_n 9 dX5_gatherPiece_8 (by decide) rfl rfl ?_
  dsimp only [List.set]
  exact L_X5_gatherPiece A0 hF hs hq 65 0 _ _ _ _ _ rfl (gs_0 hs hv S hc)
set_option maxRecDepth 20000 in
theorem I_X5_isIsland {G : GW} {h : PH} {Q : RS → PH → Prop} {p s n : Nat} {F : Nat → Int32} {q : Nat → Nat} (A : pf_ h p) (hF : ∀ z, hp_vi h 33 p z = F z) (hs : s < 64) (h8 : ∀ z, z < 64 → ∃ w : Nat, F z = nI w ∧ w < 8) (hn : n ≤ 64) (hQ : ∀ a, a < n → hp_vi h 36 p a = nI (q a)) (hc : ∀ a, a < n → q a < 64 ∧ cn_ F s (q a)) (hall : ∀ b, cn_ F s b ↔ ∃ a, a < n ∧ q a = b) (hq : ∀ b : Nat, (b = 1 ∧ is_l F s) ∨ (b = 0 ∧ ¬ is_l F s) → Q (.inl (some (pv_I (nI b)))) h) {i : Nat} (hin : i < n) (K : ∀ (ar : Int32) (z6 z7 : Option PV), ip_ F nb_ s (dn_ q n i 4) ar → VV G 1 0 0 yX5_isIsland cX5_isIsland 8 (some .boolean) [] 103 [some (pv_O (14, p)), some (pv_I (nI n)), some (pv_I ar), some (pv_I (nI i)), some (pv_I (F s)), some (pv_I (nI 4)), z6, z7] [] h Q) : ∀ fuel : Nat, ∀ (d : Nat) (ar : Int32) (z6 z7 : Option PV), d + fuel = 4 → ip_ F nb_ s (dn_ q n i d) ar → VV G 1 0 0 yX5_isIsland cX5_isIsland 8 (some .boolean) [] 30 [some (pv_O (14, p)), some (pv_I (nI n)), some (pv_I ar), some (pv_I (nI i)), some (pv_I (F s)), some (pv_I (nI d)), z6, z7] [] h Q := by
  intro fuel
  induction fuel with
  | zero =>
    intro d ar z6 z7 hf I
    obtain rfl : d = 4 := by omega
    refine v_iload 32 dX5_isIsland_30 rfl rfl ?_
    refine v_iconstv (v := 4) 33 dX5_isIsland_32 (by decide) rfl ?_
    refine v_icmp_ge 103 36 dX5_isIsland_33 (by decide) rfl (fun c33 => ?_) (fun c33 => ?_)
    · exact K _ _ _ I
    · exact absurd (nI_le (Nat.le_refl 4) (by decide)) c33
  | succ fuel ih =>
    intro d ar z6 z7 hf I
    refine v_iload 32 dX5_isIsland_30 rfl rfl ?_
    refine v_iconstv (v := 4) 33 dX5_isIsland_32 (by decide) rfl ?_
    refine v_icmp_ge 103 36 dX5_isIsland_33 (by decide) rfl (fun c33 => ?_) (fun c33 => ?_)
    · exact absurd c33 (nI_ge (a := d) (b := 4) (by omega) (by decide))
    · refine v_aload_n 37 dX5_isIsland_36 rfl rfl ?_
      refine v_getfr 40 dX5_isIsland_37 fl_X5_22 (by first | assumption | rfl) (by rfl) rfl ?_
      rw [A.2.2.1]
      refine v_iload_n 41 dX5_isIsland_40 rfl rfl ?_
      refine v_iald 42 dX5_isIsland_41 (by first | assumption | rfl) (by rw [A.2.2.2.2.2]; exact in_nI (by omega) (by omega)) rfl ?_
      rw [nI_clamp (by omega), hQ i hin]
      refine v_iload 44 dX5_isIsland_42 rfl rfl ?_
      refine v_invsN (d' := 0) (k' := 0) (n' := 0) (k2 := 0) (n2 := 0) 47 [_, _] dX5_isIsland_44 mn_X5_50 md_X6_neighbour ms_X6_neighbour rfl rfl (of_decide_eq_true rfl) rfl (by decide) rfl rfl rfl rfl (C_X6_neighbour (k := q i) (hc i hin).1 (by omega) ?_)
      refine v_istore 49 dX5_isIsland_47 (by decide) rfl rfl ?_
      dsimp only [List.set]
      refine v_iload 51 dX5_isIsland_49 rfl rfl ?_
      refine v_if_ge 56 54 dX5_isIsland_51 (by decide) rfl (fun c51 => ?_) (fun c51 => ?_)
      · obtain ⟨j, hj, ej, had⟩ := nb_ge (hc i hin).1 (by omega) c51
        rw [ej]
        refine v_aload_n 57 dX5_isIsland_56 rfl rfl ?_
        refine v_iload 59 dX5_isIsland_57 rfl rfl ?_
        refine v_invv (d' := 0) (k' := 0) (n' := 0) (k2 := 0) (n2 := 0) 62 [_] dX5_isIsland_59 mt_X5_53 mi_X5_fieldOf me_X5_fieldOf (by first | assumption | rfl) (by rfl) rfl rfl (of_decide_eq_true rfl) rfl (by decide) rfl rfl rfl rfl (C_X5_fld A hj ?_)
        rw [hF]
        refine v_istore 64 dX5_isIsland_62 (by decide) rfl rfl ?_
        dsimp only [List.set]
        refine v_iload 66 dX5_isIsland_64 rfl rfl ?_
        refine v_iload 68 dX5_isIsland_66 rfl rfl ?_
        refine v_icmp_eq 83 71 dX5_isIsland_68 (by decide) rfl (fun c68 => ?_) (fun c68 => ?_)
        · refine v_iload 85 dX5_isIsland_83 rfl rfl ?_
          refine v_iload 87 dX5_isIsland_85 rfl rfl ?_
          refine v_icmp_eq 95 90 dX5_isIsland_87 (by decide) rfl (fun c87 => ?_) (fun c87 => ?_)
          · refine v_iload_n 96 dX5_isIsland_95 rfl rfl ?_
            refine v_istore_n 97 dX5_isIsland_96 (by decide) rfl rfl ?_
            dsimp only [List.set]
            refine v_iinc 100 dX5_isIsland_97 rfl (by decide) rfl rfl ?_
            dsimp only [List.set]
            refine v_goto 30 dX5_isIsland_100 (by decide) ?_
            rw [show nI d + Int32.ofInt 1 = nI (d + 1) from nI_1 d]
            exact ih (d + 1) _ _ _ (by omega) (ip_cg (dn_s hin (by omega)) (ip_s I hj ej had c68))
          · exact absurd c68 c87
        · refine v_iload_n 72 dX5_isIsland_71 rfl rfl ?_
          refine v_if_lt 83 75 dX5_isIsland_72 (by decide) rfl (fun c72 => ?_) (fun c72 => ?_)
          · refine v_iload 85 dX5_isIsland_83 rfl rfl ?_
            refine v_iload 87 dX5_isIsland_85 rfl rfl ?_
            refine v_icmp_eq 95 90 dX5_isIsland_87 (by decide) rfl (fun c87 => ?_) (fun c87 => ?_)
            · exact absurd c87 c68
            · refine v_iload 92 dX5_isIsland_90 rfl rfl ?_
              refine v_goto 96 dX5_isIsland_92 (by decide) ?_
              refine v_istore_n 97 dX5_isIsland_96 (by decide) rfl rfl ?_
              dsimp only [List.set]
              refine v_iinc 100 dX5_isIsland_97 rfl (by decide) rfl rfl ?_
              dsimp only [List.set]
              refine v_goto 30 dX5_isIsland_100 (by decide) ?_
              rw [show nI d + Int32.ofInt 1 = nI (d + 1) from nI_1 d]
              exact ih (d + 1) _ _ _ (by omega) (ip_cg (dn_s hin (by omega)) (ip_d I hj ej had c68 (fun z hz => by
                obtain ⟨w, hw, hw8⟩ := h8 z hz
                rw [hw]
                exact ni_m1 (by omega)) (Or.inl (ip_ng h8 I c72))))
          · refine v_iload 77 dX5_isIsland_75 rfl rfl ?_
            refine v_iload_n 78 dX5_isIsland_77 rfl rfl ?_
            refine v_icmp_eq 83 81 dX5_isIsland_78 (by decide) rfl (fun c78 => ?_) (fun c78 => ?_)
            · refine v_iload 85 dX5_isIsland_83 rfl rfl ?_
              refine v_iload 87 dX5_isIsland_85 rfl rfl ?_
              refine v_icmp_eq 95 90 dX5_isIsland_87 (by decide) rfl (fun c87 => ?_) (fun c87 => ?_)
              · exact absurd c87 c68
              · refine v_iload 92 dX5_isIsland_90 rfl rfl ?_
                refine v_goto 96 dX5_isIsland_92 (by decide) ?_
                refine v_istore_n 97 dX5_isIsland_96 (by decide) rfl rfl ?_
                dsimp only [List.set]
                refine v_iinc 100 dX5_isIsland_97 rfl (by decide) rfl rfl ?_
                dsimp only [List.set]
                refine v_goto 30 dX5_isIsland_100 (by decide) ?_
                rw [show nI d + Int32.ofInt 1 = nI (d + 1) from nI_1 d]
                exact ih (d + 1) _ _ _ (by omega) (ip_cg (dn_s hin (by omega)) (ip_d I hj ej had c68 (fun z hz => by
                  obtain ⟨w, hw, hw8⟩ := h8 z hz
                  rw [hw]
                  exact ni_m1 (by omega)) (Or.inr c78.symm)))
            · refine v_iconstv (v := 0) 82 dX5_isIsland_81 (by decide) rfl ?_
              refine v_zreturn (ty := .boolean) (by first | rfl | decide | exact nz_if | exact nz_fi) dX5_isIsland_82 rfl ?_
              exact hq 0 (Or.inr ⟨rfl, ip_y I (fun k d hd => let ⟨a, ha, e, _⟩ := hd; e ▸ (hc a ha).2) (hc i hin).2 had c68 (fun w => c72 (by rw [w]; decide)) c78⟩)
      · have e51 := nb_lt (hc i hin).1 (by omega) c51
        refine v_iconstv (v := 0) 55 dX5_isIsland_54 (by decide) rfl ?_
        refine v_zreturn (ty := .boolean) (by first | rfl | decide | exact nz_if | exact nz_fi) dX5_isIsland_55 rfl ?_
        exact hq 0 (Or.inr ⟨rfl, ip_x (fun k hk => nb_ed hk) (hc i hin).1 (hc i hin).2 (by omega) e51⟩)
set_option maxRecDepth 20000 in
theorem L_X5_isIsland {G : GW} {h : PH} {Q : RS → PH → Prop} {p s n : Nat} {F : Nat → Int32} {q : Nat → Nat} (A : pf_ h p) (hF : ∀ z, hp_vi h 33 p z = F z) (hs : s < 64) (h8 : ∀ z, z < 64 → ∃ w : Nat, F z = nI w ∧ w < 8) (hn : n ≤ 64) (hQ : ∀ a, a < n → hp_vi h 36 p a = nI (q a)) (hc : ∀ a, a < n → q a < 64 ∧ cn_ F s (q a)) (hall : ∀ b, cn_ F s b ↔ ∃ a, a < n ∧ q a = b) (hq : ∀ b : Nat, (b = 1 ∧ is_l F s) ∨ (b = 0 ∧ ¬ is_l F s) → Q (.inl (some (pv_I (nI b)))) h) : ∀ fuel : Nat, ∀ (i : Nat) (ar : Int32) (z4 z5 z6 z7 : Option PV), i + fuel = 65 → i ≤ n → ip_ F nb_ s (dn_ q n i 0) ar → VV G 1 0 0 yX5_isIsland cX5_isIsland 8 (some .boolean) [] 4 [some (pv_O (14, p)), some (pv_I (nI n)), some (pv_I ar), some (pv_I (nI i)), z4, z5, z6, z7] [] h Q := by
  intro fuel
  induction fuel with
  | zero =>
    intro i ar z4 z5 z6 z7 hf hi I
    omega
  | succ fuel ih =>
    intro i ar z4 z5 z6 z7 hf hi I
    refine v_iload_n 5 dX5_isIsland_4 rfl rfl ?_
    refine v_iload_n 6 dX5_isIsland_5 rfl rfl ?_
    refine v_icmp_ge 109 9 dX5_isIsland_6 (by decide) rfl (fun c6 => ?_) (fun c6 => ?_)
    · have e9 : i = n := by
        rcases Nat.lt_or_ge i n with w | w
        · exact absurd c6 (nI_ge w (by omega))
        · omega
      subst e9
      refine v_iconstv (v := 1) 110 dX5_isIsland_109 (by decide) rfl ?_
      refine v_zreturn (ty := .boolean) (by first | rfl | decide | exact nz_if | exact nz_fi) dX5_isIsland_110 rfl ?_
      exact hq 1 (Or.inl ⟨rfl, ip_e hs (fun k hk => nb_ed hk) (fun k j hk ad => ad_nb ad) (ip_cg (dn_e hall) I)⟩)
    · have hin : i < n := by
        rcases Nat.lt_or_ge i n with w | w
        · exact w
        · exact absurd (nI_le w (by omega)) c6
      refine v_iload_n 10 dX5_isIsland_9 rfl rfl ?_
      refine v_bipushv (v := 64) 12 dX5_isIsland_10 (by decide) rfl ?_
      refine v_icmp_ge 109 15 dX5_isIsland_12 (by decide) rfl (fun c12 => ?_) (fun c12 => ?_)
      · exact absurd c12 (nI_ge (a := i) (b := 64) (by omega) (by decide))
      · refine v_aload_n 16 dX5_isIsland_15 rfl rfl ?_
        refine v_aload_n 17 dX5_isIsland_16 rfl rfl ?_
        refine v_getfr 20 dX5_isIsland_17 fl_X5_22 (by first | assumption | rfl) (by rfl) rfl ?_
        rw [A.2.2.1]
        refine v_iload_n 21 dX5_isIsland_20 rfl rfl ?_
        refine v_iald 22 dX5_isIsland_21 (by first | assumption | rfl) (by rw [A.2.2.2.2.2]; exact in_nI (by omega) (by omega)) rfl ?_
        rw [nI_clamp (by omega), hQ i hin]
        refine v_invv (d' := 0) (k' := 0) (n' := 0) (k2 := 0) (n2 := 0) 25 [_] dX5_isIsland_22 mt_X5_53 mi_X5_fieldOf me_X5_fieldOf (by first | assumption | rfl) (by rfl) rfl rfl (of_decide_eq_true rfl) rfl (by decide) rfl rfl rfl rfl (C_X5_fld A (hc i hin).1 ?_)
        rw [hF, cn_f (hc i hin).2]
        refine v_istore 27 dX5_isIsland_25 (by decide) rfl rfl ?_
        dsimp only [List.set]
        refine v_iconstv (v := 0) 28 dX5_isIsland_27 (by decide) rfl ?_
        refine v_istore 30 dX5_isIsland_28 (by decide) rfl rfl ?_
        dsimp only [List.set]
        refine I_X5_isIsland A hF hs h8 hn hQ hc hall hq hin (fun ar z6 z7 I4 => ?_) 4 0 _ _ _ rfl I
        refine v_iinc 106 dX5_isIsland_103 rfl (by decide) rfl rfl ?_
        dsimp only [List.set]
        refine v_goto 4 dX5_isIsland_106 (by decide) ?_
        rw [show nI i + Int32.ofInt 1 = nI (i + 1) from nI_1 i]
        exact ih (i + 1) _ _ _ _ _ (by omega) (by omega) (ip_cg (fun k d => dn_n k d) I4)
set_option maxRecDepth 20000 in
theorem C_X5_isIsland {G : GW} {h : PH} {Q : RS → PH → Prop} {p s n : Nat} {F : Nat → Int32} {q : Nat → Nat} (A : pf_ h p) (hF : ∀ z, hp_vi h 33 p z = F z) (hs : s < 64) (h8 : ∀ z, z < 64 → ∃ w : Nat, F z = nI w ∧ w < 8) (hn : n ≤ 64) (hQ : ∀ a, a < n → hp_vi h 36 p a = nI (q a)) (hc : ∀ a, a < n → q a < 64 ∧ cn_ F s (q a)) (hall : ∀ b, cn_ F s b ↔ ∃ a, a < n ∧ q a = b) (hq : ∀ b : Nat, (b = 1 ∧ is_l F s) ∨ (b = 0 ∧ ¬ is_l F s) → Q (.inl (some (pv_I (nI b)))) h) : VV G 1 0 0 yX5_isIsland cX5_isIsland 8 (some .boolean) [] 0 (vv_en 8 [pv_O (14, p), pv_I (nI n)]) [] h Q := by
  show VV G 1 0 0 yX5_isIsland cX5_isIsland 8 (some .boolean) [] 0 [some (pv_O (14, p)), some (pv_I (nI n)), none, none, none, none, none, none] [] h Q
  refine v_iconstv (v := -1) 1 dX5_isIsland_0 (by decide) rfl ?_
  refine v_istore_n 2 dX5_isIsland_1 (by decide) rfl rfl ?_
  dsimp only [List.set]
  refine v_iconstv (v := 0) 3 dX5_isIsland_2 (by decide) rfl ?_
  refine v_istore_n 4 dX5_isIsland_3 (by decide) rfl rfl ?_
  dsimp only [List.set]
  exact L_X5_isIsland A hF hs h8 hn hQ hc hall hq 65 0 _ _ _ _ _ rfl (Nat.zero_le _) (ip_0 (fun k d w => let ⟨a, _, _, _, w⟩ := w; by omega))
set_option maxRecDepth 20000 in
theorem Z_X5_countPieces {G : GW} {Q : RS → PH → Prop} {h0 : PH} {p : Nat} {F : Nat → Int32} (A0 : pf_ h0 p) (hF : ∀ z, hp_vi h0 33 p z = F z) {z2 : Option PV} (K : ∀ h, gr_ tc_ p h0 h → (∀ z, z < 64 → hp_vi h 35 p z = 0) → VV G 2 0 0 yX5_countPieces cX5_countPieces 3 (none) [] 21 [some (pv_O (14, p)), some (pv_I (nI 64)), z2] [] h Q) : ∀ fuel : Nat, ∀ (k : Nat) (h : PH), k + fuel = 64 → gr_ tc_ p h0 h → (∀ z, z < k → hp_vi h 35 p z = 0) → VV G 2 0 0 yX5_countPieces cX5_countPieces 3 (none) [] 2 [some (pv_O (14, p)), some (pv_I (nI k)), z2] [] h Q := by
  intro fuel
  induction fuel with
  | zero =>
    intro k h hf g hz
    obtain rfl : k = 64 := by omega
    refine v_iload_n 3 dX5_countPieces_2 rfl rfl ?_
    refine v_bipushv (v := 64) 5 dX5_countPieces_3 (by decide) rfl ?_
    refine v_icmp_ge 21 8 dX5_countPieces_5 (by decide) rfl (fun c5 => ?_) (fun c5 => ?_)
    · exact K _ g hz
    · exact absurd (nI_le (Nat.le_refl 64) (by decide)) c5
  | succ fuel ih =>
    intro k h hf g hz
    have A := g.pf A0
    refine v_iload_n 3 dX5_countPieces_2 rfl rfl ?_
    refine v_bipushv (v := 64) 5 dX5_countPieces_3 (by decide) rfl ?_
    refine v_icmp_ge 21 8 dX5_countPieces_5 (by decide) rfl (fun c5 => ?_) (fun c5 => ?_)
    · exact absurd c5 (nI_ge (a := k) (b := 64) (by omega) (by decide))
    · refine v_aload_n 9 dX5_countPieces_8 rfl rfl ?_
      refine v_getfr 12 dX5_countPieces_9 fl_X5_18 (by first | assumption | rfl) (by rfl) rfl ?_
      rw [A.2.1]
      refine v_iload_n 13 dX5_countPieces_12 rfl rfl ?_
      refine v_iconstv (v := 0) 14 dX5_countPieces_13 (by decide) rfl ?_
      refine v_zast 15 dX5_countPieces_14 (by first | assumption | rfl) (by first | assumption | decide) (by rw [A.2.2.2.2.1]; exact in_nI (by omega) (by omega)) (by first | rfl | decide) rfl ?_
      rw [nI_clamp (by omega)]
      refine v_iinc 18 dX5_countPieces_15 rfl (by decide) rfl rfl ?_
      dsimp only [List.set]
      refine v_goto 2 dX5_countPieces_18 (by decide) ?_
      rw [show nI k + Int32.ofInt 1 = nI (k + 1) from nI_1 k]
      exact ih (k + 1) _ (by omega) (g.tr (gr_.i (Or.inl (Or.inl rfl)))) (fun z hz9 => by
        by_cases w : z = k
        · rw [w]; exact hp_seti_at
        · exact (hp_seti_ne (fun y => w y.2.2)).trans (hz z (by omega)))
set_option maxRecDepth 20000 in
theorem L_X5_countPieces {G : GW} {Q : RS → PH → Prop} {h0 : PH} {p : Nat} {F : Nat → Int32} (A0 : pf_ h0 p) (hF : ∀ z, hp_vi h0 33 p z = F z) (h8 : ∀ z, z < 64 → ∃ w : Nat, F z = nI w ∧ w < 8) (hq : ∀ h' pp ii, cp_ F h0 p h' 64 pp ii 64 → Q (.inl none) h') : ∀ fuel : Nat, ∀ (k : Nat) (h : PH) (pp ii c0 : Nat) (z2 : Option PV), k + fuel = 64 → cp_ F h0 p h k pp ii c0 → VV G 2 0 0 yX5_countPieces cX5_countPieces 3 (none) [] 38 [some (pv_O (14, p)), some (pv_I (nI k)), z2] [] h Q := by
  intro fuel
  induction fuel with
  | zero =>
    intro k h pp ii c0 z2 hf C
    obtain rfl : k = 64 := by omega
    refine v_iload_n 39 dX5_countPieces_38 rfl rfl ?_
    refine v_bipushv (v := 64) 41 dX5_countPieces_39 (by decide) rfl ?_
    refine v_icmp_ge 107 44 dX5_countPieces_41 (by decide) rfl (fun c41 => ?_) (fun c41 => ?_)
    · refine v_return dX5_countPieces_107 rfl ?_
      have e9 : c0 = 64 := ct_fn 64 C.2.2.2.2.2 (ct_all 64 (fun z hz => vk_64 hz))
      subst e9
      exact hq _ _ _ C
    · exact absurd (nI_le (Nat.le_refl 64) (by decide)) c41
  | succ fuel ih =>
    intro k h pp ii c0 z2 hf C
    have A := C.1.pf A0
    have hF9 : ∀ z, hp_vi h 33 p z = F z := fun z => (C.1.v (fun y => by rcases y.2 with (y | y) | y <;> first | exact absurd y (by decide) | exact absurd y.1 (by decide))).trans (hF z)
    refine v_iload_n 39 dX5_countPieces_38 rfl rfl ?_
    refine v_bipushv (v := 64) 41 dX5_countPieces_39 (by decide) rfl ?_
    refine v_icmp_ge 107 44 dX5_countPieces_41 (by decide) rfl (fun c41 => ?_) (fun c41 => ?_)
    · exact absurd c41 (nI_ge (a := k) (b := 64) (by omega) (by decide))
    · refine v_aload_n 45 dX5_countPieces_44 rfl rfl ?_
      refine v_getfr 48 dX5_countPieces_45 fl_X5_18 (by first | assumption | rfl) (by rfl) rfl ?_
      rw [A.2.1]
      refine v_iload_n 49 dX5_countPieces_48 rfl rfl ?_
      refine v_zald 50 dX5_countPieces_49 (by first | assumption | rfl) (by rw [A.2.2.2.2.1]; exact in_nI (by omega) (by omega)) rfl ?_
      rw [nI_clamp (by omega)]
      refine v_if_ne 101 53 dX5_countPieces_50 (by decide) rfl (fun c50 => ?_) (fun c50 => ?_)
      · refine v_iinc 104 dX5_countPieces_101 rfl (by decide) rfl rfl ?_
        dsimp only [List.set]
        refine v_goto 38 dX5_countPieces_104 (by decide) ?_
        rw [show nI k + Int32.ofInt 1 = nI (k + 1) from nI_1 k]
        exact ih (k + 1) _ _ _ _ _ (by omega) (C.y (C.2.1.y (by omega) c50))
      · have e50 : hp_vi h 35 p k = 0 := c50
        have hv := C.2.1.n (z := k) (by omega) e50
        refine v_aload_n 54 dX5_countPieces_53 rfl rfl ?_
        refine v_dup 55 dX5_countPieces_54 rfl rfl ?_
        refine v_getfi 58 dX5_countPieces_55 fl_X5_25 (by first | assumption | rfl) (by rfl) rfl ?_
        rw [C.2.2.1.1]
        refine v_iconstv (v := 1) 59 dX5_countPieces_58 (by decide) rfl ?_
        refine v_iadd 60 dX5_countPieces_59 rfl ?_
        rw [nI_1]
        refine v_putfi 63 dX5_countPieces_60 pf_X5_countPieces_25 (by first | assumption | rfl) (by first | assumption | decide) (by rfl) rfl rfl rfl ?_
        refine v_aload_n 64 dX5_countPieces_63 rfl rfl ?_
        refine v_iload_n 65 dX5_countPieces_64 rfl rfl ?_
        refine v_invv (d' := 1) (k' := 0) (n' := 0) (k2 := 0) (n2 := 0) 68 [_] dX5_countPieces_65 mt_X5_38 mi_X5_gatherPiece me_X5_gatherPiece (by first | assumption | rfl) (by rfl) rfl rfl (of_decide_eq_true rfl) rfl (by decide) rfl rfl rfl rfl (C_X5_gatherPiece (F := F) (V := vk_ F k) A (fun z => (hp_seti_ne (fun y => absurd y.1 (by decide))).trans (hF9 z)) (by omega) hv (C.2.1.v (fun z => hp_seti_ne (fun y => absurd y.1 (by decide)))) C.2.2.2.2.2 (fun h' q n G9 => ?_))
        refine v_istore_n 69 dX5_countPieces_68 (by decide) rfl rfl ?_
        dsimp only [List.set]
        refine v_aload_n 70 dX5_countPieces_69 rfl rfl ?_
        refine v_dup 71 dX5_countPieces_70 rfl rfl ?_
        refine v_getfi 74 dX5_countPieces_71 fl_X5_29 (by first | assumption | rfl) (by rfl) rfl ?_
        rw [(show hp_vi h' 14 p 7 = nI c0 from (G9.1.v (fun y => by rcases y.2 with y | y <;> exact absurd y (by decide))).trans ((hp_seti_ne (fun y => absurd y.2.2 (by decide))).trans C.2.2.1.2.2))]
        refine v_iload_n 75 dX5_countPieces_74 rfl rfl ?_
        refine v_iadd 76 dX5_countPieces_75 rfl ?_
        rw [nI_add]
        refine v_putfi 79 dX5_countPieces_76 pf_X5_countPieces_29 (by first | assumption | rfl) (by first | assumption | decide) (by rfl) rfl rfl rfl ?_
        refine v_aload_n 80 dX5_countPieces_79 rfl rfl ?_
        refine v_dup 81 dX5_countPieces_80 rfl rfl ?_
        refine v_getfi 84 dX5_countPieces_81 fl_X5_35 (by first | assumption | rfl) (by rfl) rfl ?_
        rw [(show hp_vi (hp_seti h' 14 p 7 (nI (c0 + n))) 14 p 6 = nI ii from (hp_seti_ne (fun y => absurd y.2.2 (by decide))).trans ((G9.1.v (fun y => by rcases y.2 with y | y <;> exact absurd y (by decide))).trans ((hp_seti_ne (fun y => absurd y.2.2 (by decide))).trans C.2.2.1.2.1)))]
        refine v_aload_n 85 dX5_countPieces_84 rfl rfl ?_
        refine v_iload_n 86 dX5_countPieces_85 rfl rfl ?_
        refine v_invv (d' := 1) (k' := 0) (n' := 0) (k2 := 0) (n2 := 0) 89 [_] dX5_countPieces_86 mt_X5_42 mi_X5_isIsland me_X5_isIsland (by first | assumption | rfl) (by rfl) rfl rfl (of_decide_eq_true rfl) rfl (by decide) rfl rfl rfl rfl (C_X5_isIsland (F := F) (q := q) (s := k) (G9.1.pf (j := p) A) (fun z => (hp_seti_ne (fun y => absurd y.1 (by decide))).trans ((G9.1.v (fun y => by rcases y.2 with y | y <;> exact absurd y (by decide))).trans ((hp_seti_ne (fun y => absurd y.1 (by decide))).trans (hF9 z)))) (by omega) h8 (by have := G9.le; omega) (fun a ha => (hp_seti_ne (fun y => absurd y.1 (by decide))).trans (G9.2.2.1 a ha)) (fun a ha => ⟨(G9.2.1.2.1 a ha).1, (G9.2.1.2.1 a ha).2.1⟩) (bf_e G9.2.1 (fun _ _ _ ad => ad_nb ad) (fun z j hz ad e => vk_c hz ad e)) (fun b hb => ?_))
        refine v_if_eq 96 92 dX5_countPieces_89 (by decide) rfl (fun c89 => ?_) (fun c89 => ?_)
        · refine v_iconstv (v := 0) 97 dX5_countPieces_96 (by decide) rfl ?_
          refine v_iadd 98 dX5_countPieces_97 rfl ?_
          rw [show nI ii + 0 = nI (ii + 0) from nI_add ii 0]
          refine v_putfi 101 dX5_countPieces_98 pf_X5_countPieces_35 (by first | assumption | rfl) (by first | assumption | decide) (by rfl) rfl rfl rfl ?_
          refine v_iinc 104 dX5_countPieces_101 rfl (by decide) rfl rfl ?_
          dsimp only [List.set]
          refine v_goto 38 dX5_countPieces_104 (by decide) ?_
          rw [show nI k + Int32.ofInt 1 = nI (k + 1) from nI_1 k]
          have e9 : b = 0 := by
            rcases hb with hb | hb
            · rw [hb.1] at c89; exact absurd c89 (by decide)
            · exact hb.1
          subst e9
          exact ih (k + 1) _ _ _ _ _ (by omega) (C.st (by omega) hv G9 hb)
        · refine v_iconstv (v := 1) 93 dX5_countPieces_92 (by decide) rfl ?_
          refine v_goto 97 dX5_countPieces_93 (by decide) ?_
          refine v_iadd 98 dX5_countPieces_97 rfl ?_
          rw [nI_1]
          refine v_putfi 101 dX5_countPieces_98 pf_X5_countPieces_35 (by first | assumption | rfl) (by first | assumption | decide) (by rfl) rfl rfl rfl ?_
          refine v_iinc 104 dX5_countPieces_101 rfl (by decide) rfl rfl ?_
          dsimp only [List.set]
          refine v_goto 38 dX5_countPieces_104 (by decide) ?_
          rw [show nI k + Int32.ofInt 1 = nI (k + 1) from nI_1 k]
          have e9 : b = 1 := by
            rcases hb with hb | hb
            · exact hb.1
            · rw [hb.1] at c89; exact absurd (by decide) c89
          subst e9
          exact ih (k + 1) _ _ _ _ _ (by omega) (C.st (by omega) hv G9 hb)
set_option maxRecDepth 20000 in
theorem C_X5_countPieces {G : GW} {h : PH} {Q : RS → PH → Prop} {p : Nat} {F : Nat → Int32} (A0 : pf_ h p) (hF : ∀ z, hp_vi h 33 p z = F z) (h8 : ∀ z, z < 64 → ∃ w : Nat, F z = nI w ∧ w < 8) (hq : ∀ h' pp ii, cp_ F h p h' 64 pp ii 64 → Q (.inl none) h') : VV G 2 0 0 yX5_countPieces cX5_countPieces 3 (none) [] 0 (vv_en 3 [pv_O (14, p)]) [] h Q := by
  show VV G 2 0 0 yX5_countPieces cX5_countPieces 3 (none) [] 0 [some (pv_O (14, p)), none, none] [] h Q
  refine v_iconstv (v := 0) 1 dX5_countPieces_0 (by decide) rfl ?_
  refine v_istore_n 2 dX5_countPieces_1 (by decide) rfl rfl ?_
  dsimp only [List.set]
  refine Z_X5_countPieces A0 hF (fun h1 g hz => ?_) 64 0 _ rfl gr_.rf (fun z hz => absurd hz (Nat.not_lt_zero z))
  refine v_aload_n 22 dX5_countPieces_21 rfl rfl ?_
  refine v_iconstv (v := 0) 23 dX5_countPieces_22 (by decide) rfl ?_
  refine v_putfi 26 dX5_countPieces_23 pf_X5_countPieces_25 (by first | assumption | rfl) (by first | assumption | decide) (by rfl) rfl rfl rfl ?_
  refine v_aload_n 27 dX5_countPieces_26 rfl rfl ?_
  refine v_iconstv (v := 0) 28 dX5_countPieces_27 (by decide) rfl ?_
  refine v_putfi 31 dX5_countPieces_28 pf_X5_countPieces_35 (by first | assumption | rfl) (by first | assumption | decide) (by rfl) rfl rfl rfl ?_
  refine v_aload_n 32 dX5_countPieces_31 rfl rfl ?_
  refine v_iconstv (v := 0) 33 dX5_countPieces_32 (by decide) rfl ?_
  refine v_putfi 36 dX5_countPieces_33 pf_X5_countPieces_29 (by first | assumption | rfl) (by first | assumption | decide) (by rfl) rfl rfl rfl ?_
  refine v_iconstv (v := 0) 37 dX5_countPieces_36 (by decide) rfl ?_
  refine v_istore_n 38 dX5_countPieces_37 (by decide) rfl rfl ?_
  dsimp only [List.set]
  refine L_X5_countPieces A0 hF h8 hq 64 0 _ 0 0 0 _ rfl ⟨((g.tr (gr_.i (Or.inr ⟨rfl, by decide⟩))).tr (gr_.i (Or.inr ⟨rfl, by decide⟩))).tr (gr_.i (Or.inr ⟨rfl, by decide⟩)), fun z hz9 => Or.inr ⟨vk_0, ?_⟩, ⟨?_, ?_, ?_⟩, rfl, rfl, ct_no 64 (fun _ _ => vk_0)⟩
  · exact (hp_seti_ne (fun y => absurd y.1 (by decide))).trans ((hp_seti_ne (fun y => absurd y.1 (by decide))).trans ((hp_seti_ne (fun y => absurd y.1 (by decide))).trans (hz z hz9)))
  · exact (hp_seti_ne (fun y => absurd y.2.2 (by decide))).trans ((hp_seti_ne (fun y => absurd y.2.2 (by decide))).trans hp_seti_at)
  · exact (hp_seti_ne (fun y => absurd y.2.2 (by decide))).trans hp_seti_at
  · exact hp_seti_at
set_option maxRecDepth 20000 in
theorem L_X5_paint {G : GW} {h0 : PH} {Q : RS → PH → Prop} {p s m w : Nat} {a b v : Int32} {F : Nat → Int32} (A0 : pf_ h0 p) (hF : ∀ z, hp_vi h0 33 p z = F z) (h8 : ∀ z, z < 64 → ∃ w : Nat, F z = nI w ∧ w < 8) (es : a * 8 + b = nI s) (hsm : s + m ≤ 64) (hv : v = nI w) (hw : w < 8) (hq : ∀ h' pp ii, pc_ (pt_ F s m v) pp ii → hp_vi h' 14 p 5 = nI pp → hp_vi h' 14 p 6 = nI ii → hp_vi h' 14 p 7 = 64 → gr_ tp_ p h0 h' → (∀ z, hp_vi h' 33 p z = pt_ F s m v z) → Q (.inl none) h') : ∀ fuel : Nat, ∀ (i : Nat) (h : PH) (z6 : Option PV), i + fuel = m → gr_ tp_ p h0 h → (∀ z, hp_vi h 33 p z = pt_ F s i v z) → VV G 3 0 0 yX5_paint cX5_paint 7 (none) [] 3 [some (pv_O (14, p)), some (pv_I a), some (pv_I b), some (pv_I (nI m)), some (pv_I v), some (pv_I (nI i)), z6] [] h Q := by
  intro fuel
  induction fuel with
  | zero =>
    intro i h z6 hf g hz
    obtain rfl : i = m := by omega
    have A := g.pf A0
    refine v_iload 5 dX5_paint_3 rfl rfl ?_
    refine v_iload_n 6 dX5_paint_5 rfl rfl ?_
    refine v_icmp_ge 47 9 dX5_paint_6 (by decide) rfl (fun c6 => ?_) (fun c6 => ?_)
    · refine v_aload_n 48 dX5_paint_47 rfl rfl ?_
      refine v_invv (d' := 2) (k' := 0) (n' := 0) (k2 := 0) (n2 := 0) 51 [] dX5_paint_48 mt_X5_32 mi_X5_countPieces me_X5_countPieces (by first | assumption | rfl) (by rfl) rfl rfl (of_decide_eq_true rfl) rfl (by decide) rfl rfl rfl rfl (C_X5_countPieces A hz (fun z hz9 => ?_) (fun h' pp ii C => ?_))
      · unfold pt_
        split
        · exact ⟨w, hv, hw⟩
        · exact h8 z hz9
      refine v_return dX5_paint_51 rfl ?_
      exact hq h' pp ii ⟨C.2.2.2.1, C.2.2.2.2.1⟩ C.2.2.1.1 C.2.2.1.2.1 C.2.2.1.2.2 (g.tr (C.1.mo (fun _ _ => Or.inl))) (fun z => (C.1.v (fun y => by rcases y.2 with (y | y) | y <;> first | exact absurd y (by decide) | exact absurd y.1 (by decide))).trans (hz z))
    · exact absurd (nI_le (Nat.le_refl _) (by omega)) c6
  | succ fuel ih =>
    intro i h z6 hf g hz
    have A := g.pf A0
    refine v_iload 5 dX5_paint_3 rfl rfl ?_
    refine v_iload_n 6 dX5_paint_5 rfl rfl ?_
    refine v_icmp_ge 47 9 dX5_paint_6 (by decide) rfl (fun c6 => ?_) (fun c6 => ?_)
    · exact absurd c6 (nI_ge (a := i) (b := m) (by omega) (by omega))
    · refine v_iload_n 10 dX5_paint_9 rfl rfl ?_
      refine v_bipushv (v := 8) 12 dX5_paint_10 (by decide) rfl ?_
      refine v_imul 13 dX5_paint_12 rfl ?_
      refine v_iload_n 14 dX5_paint_13 rfl rfl ?_
      refine v_iadd 15 dX5_paint_14 rfl ?_
      rw [es]
      refine v_iload 17 dX5_paint_15 rfl rfl ?_
      refine v_iadd 18 dX5_paint_17 rfl ?_
      rw [nI_add]
      refine v_istore 20 dX5_paint_18 (by decide) rfl rfl ?_
      dsimp only [List.set]
      refine v_iload 22 dX5_paint_20 rfl rfl ?_
      refine v_if_lt 41 25 dX5_paint_22 (by decide) rfl (fun c22 => ?_) (fun c22 => ?_)
      · exact absurd c22 (nI_pos (by omega))
      · refine v_iload 27 dX5_paint_25 rfl rfl ?_
        refine v_bipushv (v := 64) 29 dX5_paint_27 (by decide) rfl ?_
        refine v_icmp_ge 41 32 dX5_paint_29 (by decide) rfl (fun c29 => ?_) (fun c29 => ?_)
        · exact absurd c29 (nI_ge (a := s + i) (b := 64) (by omega) (by decide))
        · refine v_aload_n 33 dX5_paint_32 rfl rfl ?_
          refine v_getfr 36 dX5_paint_33 fl_X5_9 (by first | assumption | rfl) (by rfl) rfl ?_
          rw [A.1]
          refine v_iload 38 dX5_paint_36 rfl rfl ?_
          refine v_iload 40 dX5_paint_38 rfl rfl ?_
          refine v_iast 41 dX5_paint_40 (by first | assumption | rfl) (by first | assumption | decide) (by rw [A.2.2.2.1]; exact in_nI (by omega) (by omega)) rfl ?_
          rw [nI_clamp (by omega)]
          refine v_iinc 44 dX5_paint_41 rfl (by decide) rfl rfl ?_
          dsimp only [List.set]
          refine v_goto 3 dX5_paint_44 (by decide) ?_
          rw [show nI i + Int32.ofInt 1 = nI (i + 1) from nI_1 i]
          exact ih (i + 1) _ _ (by omega) (g.tr (gr_.i (Or.inr rfl))) (fun z => by
            rw [pt_s, ← hz z]
            show (if 33 = 33 ∧ p = p ∧ z = s + i then v else _) = _
            by_cases y : z = s + i
            · rw [if_pos y, if_pos ⟨rfl, rfl, y⟩]
            · rw [if_neg y, if_neg (fun x => y x.2.2)]; rfl)
set_option maxRecDepth 20000 in
theorem C_X5_paint {G : GW} {h : PH} {Q : RS → PH → Prop} {p s m w : Nat} {a b v : Int32} {F : Nat → Int32} (A0 : pf_ h p) (hF : ∀ z, hp_vi h 33 p z = F z) (h8 : ∀ z, z < 64 → ∃ w : Nat, F z = nI w ∧ w < 8) (es : a * 8 + b = nI s) (hsm : s + m ≤ 64) (hv : v = nI w) (hw : w < 8) (hq : ∀ h' pp ii, pc_ (pt_ F s m v) pp ii → hp_vi h' 14 p 5 = nI pp → hp_vi h' 14 p 6 = nI ii → hp_vi h' 14 p 7 = 64 → gr_ tp_ p h h' → (∀ z, hp_vi h' 33 p z = pt_ F s m v z) → Q (.inl none) h') : VV G 3 0 0 yX5_paint cX5_paint 7 (none) [] 0 (vv_en 7 [pv_O (14, p), pv_I a, pv_I b, pv_I (nI m), pv_I v]) [] h Q := by
  show VV G 3 0 0 yX5_paint cX5_paint 7 (none) [] 0 [some (pv_O (14, p)), some (pv_I a), some (pv_I b), some (pv_I (nI m)), some (pv_I v), none, none] [] h Q
  refine v_iconstv (v := 0) 1 dX5_paint_0 (by decide) rfl ?_
  refine v_istore 3 dX5_paint_1 (by decide) rfl rfl ?_
  dsimp only [List.set]
  exact L_X5_paint A0 hF h8 es hsm hv hw hq m 0 _ _ (Nat.zero_add m) gr_.rf (fun z => by rw [pt_0]; exact hF z)
theorem nx_of {x : Int32} {n : Nat} (h1 : 1 ≤ x) (h2 : x ≤ nI n) : ∃ j : Nat, j ≤ n ∧ x = nI j := by
  obtain ⟨j, hj, e⟩ := nI_of (x := x) (Int32.not_lt.mpr (Int32.le_trans (by decide) h1))
  refine ⟨j, ?_, e⟩
  rcases Nat.lt_or_ge n j with q | q
  · exact absurd (e ▸ h2) (nI_ge q hj)
  · exact q
/-- many from a column on, within the row -/
theorem m8_ {b m : Int32} (hb : 0 ≤ b ∧ b ≤ 7) : ((1 ≤ m ∧ m ≤ 8) ∧ b + m ≤ 8) ↔ (1 ≤ m ∧ m ≤ 8 - b) := by
  obtain ⟨k, hk, rfl⟩ := i8_ hb
  have e : (8 : Int32) - nI k = nI (8 - k) := pk_sub (a := 8) (b := k) (by omega)
  rw [e]
  constructor
  · rintro ⟨⟨h1, h2⟩, h3⟩
    obtain ⟨j, hj, rfl⟩ := nx_of (x := m) (n := 8) h1 h2
    rw [nI_add] at h3
    exact ⟨h1, nI_le (by have := (nI_leI (a := k + j) (b := 8) (by omega) (by decide)).mp h3; omega) (by omega)⟩
  · rintro ⟨h1, h2⟩
    obtain ⟨j, hj, rfl⟩ := nx_of (x := m) (n := 8 - k) h1 h2
    exact ⟨⟨h1, nI_le (b := 8) (by omega) (by decide)⟩, by rw [nI_add]; exact nI_le (b := 8) (by omega) (by decide)⟩
set_option maxRecDepth 20000 in
theorem C_X6_draw {G : GW} {h : PH} {Q : RS → PH → Prop} {S : SP} {N : Nat} (R : Rp1 S h) (I : Iv S N) {x a b m c : Int32} {pp ii : Nat} (hpc : pc_ (pt_ (hp_vi S.1 63 (cl_ x)) (cl_ (a * 8 + b)) (cl_ m) (c - 97)) pp ii) (hq : ∀ h', Rp1 (op_draw S x a b m c pp ii).2.2 h' → (∀ t, t < 10 ∨ 40 ≤ t → hp_te h h' t) → Q (an_ "java/lang/IndexOutOfBoundsException" "java/lang/IllegalArgumentException" "java/lang/UnsupportedOperationException" ((op_draw S x a b m c pp ii).1, (op_draw S x a b m c pp ii).2.1)) h') : VV G 7 2 12 yX6_draw cX6_draw 8 (some .int) [] 0 (vv_en 8 [pv_O (10, 0), pv_I x, pv_I a, pv_I b, pv_I m, pv_I c]) [] h Q := by
  show VV G 7 2 12 yX6_draw cX6_draw 8 (some .int) [] 0 [some (pv_O (10, 0)), some (pv_I x), some (pv_I a), some (pv_I b), some (pv_I m), some (pv_I c), none, none] [] h Q
  obtain ⟨R0, RL, R1, R2, R3, R4, R5⟩ := id R
  obtain ⟨z0, z1, z2, z3, z4, z5⟩ := I.cs
  unfold op_draw at hq
  refine v_aload_n 1 dX6_draw_0 rfl rfl ?_
  refine v_iload_n 2 dX6_draw_1 rfl rfl ?_
  refine v_invv (d' := 6) (k' := 1) (n' := 6) (k2 := 1) (n2 := 6) 5 [_] dX6_draw_2 mt_X6_229 mi_X6_pictureOf me_X6_pictureOf (by first | assumption | rfl) (by rfl) rfl rfl (of_decide_eq_true rfl) rfl (by decide) rfl rfl rfl rfl (C_X6_pictureOf R0 RL (fun e => ?_) (fun ho => ?_))
  · rw [if_neg e] at hq
    exact vv_out (hq h R (fun _ _ => hp_te.rf))
  rw [if_pos ho] at hq
  have hc := ho.cl (by omega)
  have F := R4.1 _ hc.1
  obtain ⟨I0, I1, I2, I3, I4⟩ := I.2.2.2.2.1 _ hc.1
  refine v_astore 7 dX6_draw_5 (by decide) rfl rfl ?_
  dsimp only [List.set]
  refine v_iload_n 8 dX6_draw_7 rfl rfl ?_
  refine v_iload_n 9 dX6_draw_8 rfl rfl ?_
  refine v_invs (d' := 1) (k' := 0) (n' := 0) (k2 := 1) (n2 := 6) 12 [_, _] dX6_draw_9 mt_X6_233 ms_X6_isPlace rfl rfl (of_decide_eq_true rfl) rfl (by decide) rfl rfl rfl rfl (C_X6_isPlace ?_)
  refine v_if_eq 39 15 dX6_draw_12 (by decide) rfl (fun c12 => ?_) (fun c12 => ?_)
  · have c12 := f1_0.mp c12
    refine v_iconstv (v := 0) 40 dX6_draw_39 (by decide) rfl ?_
    refine v_istore 42 dX6_draw_40 (by decide) rfl rfl ?_
    dsimp only [List.set]
    refine v_iload 44 dX6_draw_42 rfl rfl ?_
    refine v_if_eq 55 47 dX6_draw_44 (by decide) rfl (fun c44 => ?_) (fun c44 => ?_)
    · rw [if_neg (fun q => by first | exact c12 q.1 | exact c23 ((m8_ q.1.2).mpr q.2.1).1 | exact Int32.not_lt.mpr ((m8_ q.1.2).mpr q.2.1).2 c32 | exact c52 q.2.2)] at hq
      refine v_throw dX6_draw_55 dX6_draw_58 dX6_draw_59 dX6_draw_62 rfl th_X6_44_46 rfl (by decide) (by decide) (by decide) ?_
      exact hq h R (fun _ _ => hp_te.rf)
    · exact absurd (by decide) c44
  · have c12 := Decidable.not_not.mp (fun q => c12 (f1_0.mpr q))
    refine v_iload 17 dX6_draw_15 rfl rfl ?_
    refine v_iconstv (v := 1) 18 dX6_draw_17 (by decide) rfl ?_
    refine v_bipushv (v := 8) 20 dX6_draw_18 (by decide) rfl ?_
    refine v_invs (d' := 0) (k' := 0) (n' := 0) (k2 := 1) (n2 := 6) 23 [_, _, _] dX6_draw_20 mt_X6_40 ms_X6_isIn rfl rfl (of_decide_eq_true rfl) rfl (by decide) rfl rfl rfl rfl (C_X6_isIn ?_)
    refine v_if_eq 39 26 dX6_draw_23 (by decide) rfl (fun c23 => ?_) (fun c23 => ?_)
    · have c23 := f1_0.mp c23
      refine v_iconstv (v := 0) 40 dX6_draw_39 (by decide) rfl ?_
      refine v_istore 42 dX6_draw_40 (by decide) rfl rfl ?_
      dsimp only [List.set]
      refine v_iload 44 dX6_draw_42 rfl rfl ?_
      refine v_if_eq 55 47 dX6_draw_44 (by decide) rfl (fun c44 => ?_) (fun c44 => ?_)
      · rw [if_neg (fun q => by first | exact c12 q.1 | exact c23 ((m8_ q.1.2).mpr q.2.1).1 | exact Int32.not_lt.mpr ((m8_ q.1.2).mpr q.2.1).2 c32 | exact c52 q.2.2)] at hq
        refine v_throw dX6_draw_55 dX6_draw_58 dX6_draw_59 dX6_draw_62 rfl th_X6_44_46 rfl (by decide) (by decide) (by decide) ?_
        exact hq h R (fun _ _ => hp_te.rf)
      · exact absurd (by decide) c44
    · have c23 := Decidable.not_not.mp (fun q => c23 (f1_0.mpr q))
      refine v_iload_n 27 dX6_draw_26 rfl rfl ?_
      refine v_iload 29 dX6_draw_27 rfl rfl ?_
      refine v_iadd 30 dX6_draw_29 rfl ?_
      refine v_bipushv (v := 8) 32 dX6_draw_30 (by decide) rfl ?_
      refine v_icmp_gt 39 35 dX6_draw_32 (by decide) rfl (fun c32 => ?_) (fun c32 => ?_)
      · refine v_iconstv (v := 0) 40 dX6_draw_39 (by decide) rfl ?_
        refine v_istore 42 dX6_draw_40 (by decide) rfl rfl ?_
        dsimp only [List.set]
        refine v_iload 44 dX6_draw_42 rfl rfl ?_
        refine v_if_eq 55 47 dX6_draw_44 (by decide) rfl (fun c44 => ?_) (fun c44 => ?_)
        · rw [if_neg (fun q => by first | exact c12 q.1 | exact c23 ((m8_ q.1.2).mpr q.2.1).1 | exact Int32.not_lt.mpr ((m8_ q.1.2).mpr q.2.1).2 c32 | exact c52 q.2.2)] at hq
          refine v_throw dX6_draw_55 dX6_draw_58 dX6_draw_59 dX6_draw_62 rfl th_X6_44_46 rfl (by decide) (by decide) (by decide) ?_
          exact hq h R (fun _ _ => hp_te.rf)
        · exact absurd (by decide) c44
      · refine v_iconstv (v := 1) 36 dX6_draw_35 (by decide) rfl ?_
        refine v_goto 40 dX6_draw_36 (by decide) ?_
        refine v_istore 42 dX6_draw_40 (by decide) rfl rfl ?_
        dsimp only [List.set]
        refine v_iload 44 dX6_draw_42 rfl rfl ?_
        refine v_if_eq 55 47 dX6_draw_44 (by decide) rfl (fun c44 => ?_) (fun c44 => ?_)
        · exact absurd c44 (by decide)
        · refine v_iload 49 dX6_draw_47 rfl rfl ?_
          refine v_invs (d' := 1) (k' := 0) (n' := 0) (k2 := 1) (n2 := 6) 52 [_] dX6_draw_49 mt_X6_237 ms_X6_isField rfl rfl (of_decide_eq_true rfl) rfl (by decide) rfl rfl rfl rfl (C_X6_isField ?_)
          refine v_if_ne 63 55 dX6_draw_52 (by decide) rfl (fun c52 => ?_) (fun c52 => ?_)
          · have c52 := Decidable.not_not.mp (fun q => c52 (f1_0.mpr q))
            rw [if_pos ⟨c12, (m8_ c12.2).mp ⟨c23, Int32.not_lt.mp c32⟩, c52⟩] at hq
            refine v_aload 65 dX6_draw_63 rfl rfl ?_
            refine v_getfr 68 dX6_draw_65 fl_X6_241 (by first | assumption | rfl) (by rfl) rfl ?_
            refine v_ifnull 79 71 dX6_draw_68 (by decide) rfl (fun c68 => ?_) (fun c68 => ?_)
            · have hw9 := ((rr_0 (by decide) F.1.2.2.2.2.2).1 c68).1
              rw [if_pos hw9] at hq
              refine v_aload 81 dX6_draw_79 rfl rfl ?_
              refine v_iload_n 82 dX6_draw_81 rfl rfl ?_
              refine v_iload_n 83 dX6_draw_82 rfl rfl ?_
              refine v_iload 85 dX6_draw_83 rfl rfl ?_
              refine v_iload 87 dX6_draw_85 rfl rfl ?_
              refine v_bipushv (v := 97) 89 dX6_draw_87 (by decide) rfl ?_
              refine v_isub 90 dX6_draw_89 rfl ?_
              obtain ⟨k9, hk9, ek, ec⟩ := pl_ c12
              obtain ⟨b9, hb9, rfl⟩ := i8_ c12.2
              obtain ⟨m9, hm9, rfl⟩ := nx_of (x := m) (n := 8) c23.1 c23.2
              obtain ⟨w9, hww, ew⟩ := i8_ c52
              obtain ⟨a9, ha9, rfl⟩ := i8_ c12.1
              have hsm : k9 + m9 ≤ 64 := by
                have h1 := Int32.not_lt.mp c32
                rw [nI_add] at h1
                have h2 := (nI_leI (a := b9 + m9) (b := 8) (by omega) (by decide)).mp h1
                rw [show nI a9 * 8 = nI (a9 * 8) from pk_mul a9 8, nI_add] at ek
                have h3 := (nI_eq (by omega) (by omega)).mp ek
                omega
              have em : cl_ (nI m9) = m9 := nI_clamp (by omega)
              obtain ⟨fa1, fa2, fa3, fa4⟩ := F.1.2
              have A0 : pf_ h (cl_ x) := ⟨F.1.2.1, F.1.2.2.2.1, F.1.2.2.2.2.1, F.2.2.1.1, F.2.2.1.2.2.1, F.2.2.1.2.2.2⟩
              refine v_invv (d' := 3) (k' := 0) (n' := 0) (k2 := 1) (n2 := 6) 93 [_, _, _, _] dX6_draw_90 mt_X6_244 mi_X5_paint me_X5_paint (by first | assumption | rfl) (by rfl) rfl rfl (of_decide_eq_true rfl) rfl (by decide) rfl rfl rfl rfl (C_X5_paint (F := hp_vi h 33 (cl_ x)) (s := k9) (w := w9) A0 (fun _ => rfl) (fun z hz9 => ?_) ek hsm ew hww (fun h' pp2 ii2 P2 v5 v6 v7 g hz => ?_))
              · rw [F.2.2.2.1 z hz9]; exact I2 z hz9
              have P2 := P2.cg (F' := pt_ (hp_vi S.1 63 (cl_ x)) (cl_ (nI a9 * 8 + nI b9)) (cl_ (nI m9)) (c - 97)) (fun z hz9 => by rw [ec, em]; unfold pt_; split <;> first | rfl | exact F.2.2.2.1 z hz9)
              rw [← ec, show m9 = cl_ (nI m9) from em.symm] at hz
              refine v_aload 95 dX6_draw_93 rfl rfl ?_
              refine v_getfi 98 dX6_draw_95 fl_X6_248 (by first | assumption | rfl) (by rfl) rfl ?_
              refine v_ireturn dX6_draw_98 rfl ?_
              dsimp only at hq
              have hpq : pp2 = pp ∧ ii2 = ii := ⟨ct_fn 64 P2.1 hpc.1, ct_fn 64 P2.2 hpc.2⟩
              obtain ⟨rfl, rfl⟩ := hpq
              rw [v5]
              refine hq _ (R.pi (p := cl_ x) hc.1 (fun t t1 t2 t3 t4 t5 t6 => g.te (fun k y => by unfold tp_ at y; omega)) (fun t t1 t2 t3 t4 => dp_te _ _ _ _ (by omega) _) (fun j j1 j2 => (c_ne j2).trans (c_ne j1)) rfl (fun j hj => ⟨g.tx hj, g.tx hj, g.tx hj, g.tx hj, g.tx hj, g.tx hj⟩) (fun j hj => ⟨dp_tx _ _ _ _ hj _, dp_tx _ _ _ _ hj _, dp_tx _ _ _ _ hj _, dp_tx _ _ _ _ hj _⟩) z3 z2 ?_) (fun t ht => g.te (fun k y => by unfold tp_ at y; omega))
              obtain ⟨⟨a1, a2, a3, a4, a5, a6⟩, a7, a8, f9, b1, b2, b3⟩ := F
              have D := dp_al S.1 (cl_ x) (cl_ (nI a9 * 8 + nI b9)) (c - 97) (cl_ (nI m9))
              have hpa : s_pa (dw_ S (cl_ x) (cl_ (nI a9 * 8 + nI b9)) (cl_ (nI m9)) (c - 97) pp2 ii2) (cl_ x) = s_pa S (cl_ x) := by show hp_vr (dp_ _ _ _ _ _) 44 _ 1 = _; rw [D.2.2]
              refine ⟨⟨?_, ?_, ?_, ?_, ?_, ?_⟩, ⟨?_, ?_, v7⟩, ?_, fun z hz9 => ?_, fun z hz9 => ?_, fun q9 => ?_, fun q9 => ?_⟩
              · rw [g.1]; exact a1
              · rw [g.2.2.1]; exact a2
              · rw [g.2.2.1]; exact a3
              · rw [g.2.2.1]; exact a4
              · rw [g.2.2.1]; exact a5
              · rw [g.2.2.1, hpa]; exact a6
              · rw [v5]; exact congrArg nI ((c_ne (by omega)).trans c_at).symm
              · rw [v6]; exact congrArg nI c_at.symm
              · rw [g.2.1]; exact a8
              · rw [hz z]; show pt_ _ _ _ _ _ = hp_vi (dp_ _ _ _ _ _) 63 _ z; rw [dp_vi]; unfold pt_; split <;> first | rfl | exact f9 z hz9
              · rw [g.v (fun y => by have y2 := y.2; unfold tp_ at y2; omega)]; exact (b1 z hz9).trans (by show _ = hp_vi (dp_ _ _ _ _ _) 64 _ z; rw [(dp_te _ _ _ _ (by decide) _).2.2.1])
              · rw [g.1]; rw [hpa] at q9; exact b2 q9
              · rw [hpa] at q9; exact absurd hw9 q9
            · have w := ((rr_0 (by decide) F.1.2.2.2.2.2).2 c68).1
              rw [if_neg w] at hq
              refine v_throw dX6_draw_71 dX6_draw_74 dX6_draw_75 dX6_draw_78 rfl th_X6_73_75 rfl (by decide) (by decide) (by decide) ?_
              exact hq h R (fun _ _ => hp_te.rf)
          · have c52 := f1_0.mp c52
            rw [if_neg (fun q => by first | exact c12 q.1 | exact c23 ((m8_ q.1.2).mpr q.2.1).1 | exact Int32.not_lt.mpr ((m8_ q.1.2).mpr q.2.1).2 c32 | exact c52 q.2.2)] at hq
            refine v_throw dX6_draw_55 dX6_draw_58 dX6_draw_59 dX6_draw_62 rfl th_X6_44_46 rfl (by decide) (by decide) (by decide) ?_
            exact hq h R (fun _ _ => hp_te.rf)
end VVD
