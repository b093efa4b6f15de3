section VVP
theorem C_add3 {G : GW} {h : PH} {Q : RS → PH → Prop} {u v tl il ta n cap : Nat} {f : Nat → RN} (htl : tg_k tl = some (.inl 3)) (hta : tg_k ta = some (.inr g_O)) (hL : is_L h tl il ta n cap f) (h10 : 10 ≤ tl) (h11 : 10 ≤ ta) (hne : ta ≠ tl) (h51 : tl ≠ 5) (h52 : ta ≠ 5) (hu : ob_ok u) (hn9 : n ≤ 600) (hel : ∀ k, k < n → f k = (0, 0) ∨ ob_ok (f k).1) {B : Nat} (hB : 10 ≤ B) (hB2 : n + n / 2 ≤ B) (hq : ∀ h' cap', is_L h' tl il ta (n + 1) cap' (fun k => if k = n then (u, v) else f k) → (∀ t, t ≠ tl → t ≠ ta → hp_te h h' t) → (∀ i, i ≠ il → hp_al h' tl i = hp_al h tl i ∧ ∀ k, hp_vi h' tl i k = hp_vi h tl i k ∧ hp_vr h' tl i k = hp_vr h tl i k) → Q (.inl (some (pv_I 1))) h') : VV G 6 1 B yJx4a65c_add_9ea2d cJx4a65c_add_9ea2d 2 (some .boolean) [] 0 (vv_en 2 [pv_O (tl, il), pv_O (u, v)]) [] h Q := by
  have a3 := hL.2.2.1
  have b5 : cap = 0 ∨ 10 ≤ cap := by
    obtain ⟨-, -, -, ⟨a, j, -, -, -, -, b5⟩, -⟩ := hL
    rcases b5 with ⟨_, _, q⟩ | ⟨_, q⟩
    · exact Or.inl q
    · exact Or.inr q
  rcases Nat.lt_or_ge n cap with hn | hn
  · exact VV.less (by omega) (by omega) (by omega) (C0_Jx4a65c_add_9ea2d htl hta hL h10 h11 hne h51 h52 hu hn (fun h1 => hq h1 _))
  · rcases b5 with b5 | b5
    · exact VV.less (by omega) (by omega) (by omega) (C2_Jx4a65c_add_9ea2d htl hta hL h10 h11 hne h51 h52 hu b5 (fun h1 => hq h1 _))
    · have e9 : n = cap := by omega
      subst e9
      exact VV.less (by omega) (by omega) (by omega) (C1_Jx4a65c_add_9ea2d htl hta hL h10 h11 hne h51 h52 hu rfl b5 (by omega) hel (fun h1 => hq h1 _))
/-- room for a search -/
def ac_ (n : Nat) : Nat := max 13 (n + n / 2)
def fs_ : Nat → Nat → Nat
  | _, 0 => 0
  | n, r + 1 => fs_ (n + 1) r + ac_ n
theorem fs_mo : ∀ (r : Nat) {n m : Nat}, n ≤ m → fs_ n r ≤ fs_ m r
  | 0, _, _, _ => Nat.le_refl _
  | r + 1, n, m, h => by
    have h1 := fs_mo r (n := n + 1) (m := m + 1) (by omega)
    show fs_ (n + 1) r + max 13 (n + n / 2) ≤ fs_ (m + 1) r + max 13 (m + m / 2)
    omega
theorem fs_ap : ∀ (a : Nat) {n r : Nat}, fs_ n (a + r) = fs_ n a + fs_ (n + a) r
  | 0, n, r => by rw [Nat.zero_add]; exact (Nat.zero_add _).symm
  | a + 1, n, r => by
    have h1 := fs_ap a (n := n + 1) (r := r)
    rw [show a + 1 + r = (a + r) + 1 by omega, show n + (a + 1) = n + 1 + a by omega]
    show fs_ (n + 1) (a + r) + ac_ n = fs_ (n + 1) a + ac_ n + _
    omega
theorem fs_su {a r : Nat} : fs_ 0 a + fs_ 0 r ≤ fs_ 0 (a + r) := by
  rw [fs_ap a]
  have := fs_mo r (n := 0) (m := 0 + a) (by omega)
  omega
theorem fs_64 : fs_ 0 64 = 3073 := by decide +kernel
theorem ct_mo {P P' : Nat → Prop} : ∀ n {r r' : Nat}, (∀ k, k < n → P k → P' k) → ct_ P n r → ct_ P' n r' → r ≤ r'
  | 0, _, _, _, h, h' => by have e : _ = 0 := h; have e' : _ = 0 := h'; omega
  | n + 1, r, r', e, ⟨a, ha, h⟩, ⟨b, hb, h'⟩ => by
    have i1 := ct_mo n (fun k hk => e k (by omega)) ha hb
    rcases h with ⟨x, y⟩ | ⟨x, y⟩ <;> rcases h' with ⟨x', y'⟩ | ⟨x', y'⟩
    · omega
    · exact absurd (e n (by omega) x) x'
    · omega
    · omega
variable {h h1 h2 h' : PH}
/-- what a search of the reference keeps -/
def fa_ (h h' : PH) : Prop := (∀ t, ¬ t = 72 → ¬ t = 73 → ¬ t = 74 → hp_te h h' t) ∧ hp_al h' 72 = hp_al h 72 ∧ hp_ln h' 72 = hp_ln h 72 ∧ (fr_s h → fr_s h')
theorem fa_.rf : fa_ h h := ⟨fun _ _ _ _ => hp_te.rf, rfl, rfl, fun f => f⟩
theorem fa_.tr (a : fa_ h h1) (b : fa_ h1 h2) : fa_ h h2 := ⟨fun t q1 q2 q3 => (a.1 t q1 q2 q3).tr (b.1 t q1 q2 q3), b.2.1.trans a.2.1, b.2.2.1.trans a.2.2.1, fun f => b.2.2.2 (a.2.2.2 f)⟩
theorem fa_.i {i k : Nat} {x : Int32} : fa_ h (hp_seti h 72 i k x) := ⟨fun t q1 _ _ => hp_te.i q1, rfl, rfl, fun f t a b => f t a b⟩
theorem fa_.R {S : SP} (a : fa_ h h') (R : Rp2 S h) : Rp2 S h' := R.te (fun t ht => a.1 t (by omega) (by omega) (by omega))
theorem fa_.ad {L n cap : Nat} {f : Nat → RN} (te : ∀ t, t ≠ 73 → t ≠ 74 → hp_te h h' t) (al : ∀ i, i ≠ L → hp_al h' 73 i = hp_al h 73 i) (L9 : is_L h' 73 L 74 n cap f) : fa_ h h' := ⟨fun t _ q2 q3 => te t q2 q3, (te 72 (by decide) (by decide)).1, (te 72 (by decide) (by decide)).2.1, fun f t a b => by
  by_cases e3 : t = 73
  · subst e3
    obtain ⟨g, hg⟩ := f 73 a b
    exact ⟨max g (L + 1), fun j hj => by rw [al j (by omega)]; exact hg j (by omega)⟩
  by_cases e4 : t = 74
  · subst e4; exact L9.2.2.2.2
  · exact (f t a b).te (te t e3 e4)⟩
theorem fa_.nl {L : Nat} : fa_ h (hp_setr (hp_seti (hp_new h 73 L 0) 73 L 0 0) 73 L 1 (5, 0)) := ⟨fun t _ q2 _ => ((hp_te.n q2).tr (hp_te.i q2)).tr (hp_te.r q2), ((((hp_te.n (by decide)).tr (hp_te.i (by decide))).tr (hp_te.r (by decide)) : hp_te h (hp_setr (hp_seti (hp_new h 73 L 0) 73 L 0 0) 73 L 1 (5, 0)) 72)).1, ((((hp_te.n (by decide)).tr (hp_te.i (by decide))).tr (hp_te.r (by decide)) : hp_te h (hp_setr (hp_seti (hp_new h 73 L 0) 73 L 0 0) 73 L 1 (5, 0)) 72)).2.1, fun f t a b => fr_t.n (n := 0) (f t a b)⟩
/-- the search, in the reference's heap -/
def gb_ (F : Nat → Int32) (h0 : PH) (A L s c0 : Nat) (x : Int32) (V : Nat → Prop) (h : PH) (q : Nat → Nat) (n i d : Nat) : Prop :=
  fa_ h0 h ∧ bf_ F nr_ V s c0 q n i d ∧ (∃ cap, is_L h 73 L 74 n cap (fun k => (4, q k + 128))) ∧ ∀ z, z < 64 → (V z → hp_vi h 72 A z = hp_vi h0 72 A z) ∧ ((∃ a, a < n ∧ q a = z) → hp_vi h 72 A z = x) ∧ (¬ V z → (¬ ∃ a, a < n ∧ q a = z) → hp_vi h 72 A z = -1)
variable {F : Nat → Int32} {h0 : PH} {A L s c0 n i d : Nat} {x : Int32} {V : Nat → Prop} {q : Nat → Nat}
theorem gb_.k (G : gb_ F h0 A L s c0 x V h q n i d) (hh : ∀ j, nr_ (q i) d = nI j → j < 64 → F j = F s → V j ∨ ∃ b, b < n ∧ q b = j) : gb_ F h0 A L s c0 x V h q n i (d + 1) := ⟨G.1, bf_k G.2.1 hh, G.2.2⟩
theorem gb_.nx (G : gb_ F h0 A L s c0 x V h q n i 4) (hi : i < n) : gb_ F h0 A L s c0 x V h q n (i + 1) 0 := ⟨G.1, bf_n G.2.1 hi, G.2.2⟩
theorem gb_.ne (G : gb_ F h0 A L s c0 x V h q n i d) {j : Nat} (hj : j < 64) (e : ¬ hp_vi h 72 A j = -1) : V j ∨ ∃ b, b < n ∧ q b = j := Decidable.byContradiction (dec := Classical.propDecidable _) (fun w => e ((G.2.2.2 j hj).2.2 (fun y => w (Or.inl y)) (fun y => w (Or.inr y))))
theorem gb_.eq (G : gb_ F h0 A L s c0 x V h q n i d) (hx : ¬ x = -1) (hV : ∀ z, z < 64 → V z → ¬ hp_vi h0 72 A z = -1) {j : Nat} (hj : j < 64) (e : hp_vi h 72 A j = -1) : ¬ V j ∧ ¬ ∃ b, b < n ∧ q b = j := ⟨fun w => hV j hj w (((G.2.2.2 j hj).1 w).symm.trans e), fun w => hx (((G.2.2.2 j hj).2.1 w).symm.trans e)⟩
theorem gb_.pp (G : gb_ F h0 A L s c0 x V h q n i d) (hi : i < n) {j : Nat} (hj : j < 64) (had : ad_ (q i) j) (e : nr_ (q i) d = nI j) (ef : F j = F s) (w : ¬ V j ∧ ¬ ∃ b, b < n ∧ q b = j) {h' : PH} {cap : Nat} (L9 : is_L h' 73 L 74 (n + 1) cap (fun k => if k = n then (4, j + 128) else (4, q k + 128))) (te : ∀ t, t ≠ 73 → t ≠ 74 → hp_te (hp_seti h 72 A j x) h' t) (al : ∀ i, i ≠ L → hp_al h' 73 i = hp_al (hp_seti h 72 A j x) 73 i) : gb_ F h0 A L s c0 x V h' (fun a => if a = n then j else q a) (n + 1) i (d + 1) := by
  refine ⟨(G.1.tr fa_.i).tr (fa_.ad te al L9), bf_p G.2.1 hi hj had e ef w.1 w.2, ⟨cap, L9.f (fun k hk => ?_)⟩, fun z hz => ?_⟩
  · show _ = (4, (if k = n then j else q k) + 128)
    by_cases y : k = n
    · rw [if_pos y, if_pos y]
    · rw [if_neg y, if_neg y]
  · rw [(te 72 (by decide) (by decide)).2.2.1]
    dsimp only
    by_cases y : z = j
    · subst y
      exact ⟨fun v => absurd v w.1, fun _ => hp_seti_at, fun _ v => absurd ⟨n, by omega, if_pos rfl⟩ v⟩
    · rw [hp_seti_ne (fun v => y v.2.2)]
      obtain ⟨g1, g2, g3⟩ := G.2.2.2 z hz
      refine ⟨g1, fun ⟨a, ha, e9⟩ => g2 ?_, fun v v2 => g3 v (fun ⟨a, ha, e9⟩ => v2 ⟨a, by omega, by rw [if_neg (by omega)]; exact e9⟩)⟩
      by_cases u : a = n
      · rw [if_pos u] at e9; exact absurd e9.symm y
      · rw [if_neg u] at e9; exact ⟨a, by omega, e9⟩
theorem gb_0 (hs : s < 64) (hv : ¬ V s) (hc : ct_ V 64 c0) (hV : ∀ z, z < 64 → ¬ V z → hp_vi h 72 A z = -1) {h' : PH} {cap : Nat} (fa : fa_ h h') (e72 : hp_vi h' 72 A = hp_vi h 72 A) (L9 : is_L h' 73 L 74 1 cap (fun k => if k = 0 then (4, s + 128) else (0, 0))) : gb_ F h A L s c0 x V (hp_seti h' 72 A s x) (fun _ => s) 1 0 0 := by
  refine ⟨fa.tr fa_.i, bf_00 hs hv hc, ⟨cap, (L9.te (hp_te.i (by decide)) (hp_te.i (by decide)) (hp_te.i (by decide))).f (fun k hk => by rw [if_pos (by omega)])⟩, fun z hz => ?_⟩
  by_cases y : z = s
  · subst y
    exact ⟨fun v => absurd v hv, fun _ => hp_seti_at, fun _ v => absurd ⟨0, by omega, rfl⟩ v⟩
  · rw [hp_seti_ne (fun v => y v.2.2), e72]
    exact ⟨fun _ => rfl, fun ⟨_, _, e⟩ => absurd e.symm y, fun v _ => hV z hz v⟩
theorem gb_.cn (G : gb_ F h0 A L s c0 x V h q n i d) {c1 : Nat} (hc1 : ct_ (fun z => V z ∨ cn_ F s z) 64 c1) : c0 + n ≤ c1 :=
  ct_mo 64 (fun k _ y => y.imp id (fun ⟨a, ha, e⟩ => e ▸ (G.2.1.2.1 a ha).2.1)) G.2.1.2.2.2.1 hc1
theorem gb_.c1 (G : gb_ F h0 A L s c0 x V h q n n 0) (hV : ∀ z j, V z → ad_ z j → F j = F z → V j) {c1 : Nat} (hc1 : ct_ (fun z => V z ∨ cn_ F s z) 64 c1) : c0 + n = c1 := by
  have hE := bf_e G.2.1 (fun _ _ _ ad => ad_nr ad) hV
  exact ct_fn 64 (ct_cg 64 (fun z _ => by rw [hE z]) G.2.1.2.2.2.1) hc1

theorem bf_64n {F : Nat → Int32} {nd : Nat → Nat → Int32} {V : Nat → Prop} {s c0 n i d : Nat} {q : Nat → Nat} (B : bf_ F nd V s c0 q n i d) : ct_ (fun z => V z ∨ ∃ a, a < n ∧ q a = z) 64 (c0 + n) := B.2.2.2.1
set_option maxRecDepth 20000 in
theorem I_X11_fills {G : GW} {h0 : PH} {Q : RS → PH → Prop} {S : SP} {p A s c0 c1 tt : Nat} {V : Nat → Prop} (R0 : Rp2 S h0) (i4 : hp_vr S.1 44 p 0 = (63, p)) (i6 : hp_ln S.1 63 p = 64) (hA : hp_ln h0 72 A = 64) (hs : s < 64) (ht : tt < 64) (hV : ∀ z, z < 64 → V z → ¬ hp_vi h0 72 A z = -1) (hc1 : ct_ (fun z => V z ∨ cn_ (hp_vi S.1 63 p) s z) 64 c1) {L i : Nat} (K : ∀ (h : PH) (q : Nat → Nat) (n Rm : Nat) (z7 : Option PV), i < n → c0 + n + Rm = c1 → gb_ (hp_vi S.1 63 p) h0 A L s c0 (nI tt) V h q n i 4 → VV G 7 Rm (fs_ n Rm) yX11_fills cX11_fills 8 (none) [] 125 [some (pv_O (44, p)), some (pv_O (72, A)), some (pv_I (nI s)), some (pv_I (nI tt)), some (pv_O (73, L)), some (pv_I (nI i)), some (pv_I (nI 4)), z7] [] h Q) : ∀ fuel : Nat, ∀ (d : Nat) (h : PH) (q : Nat → Nat) (n Rm : Nat) (z7 : Option PV), d + fuel = 4 → i < n → c0 + n + Rm = c1 → gb_ (hp_vi S.1 63 p) h0 A L s c0 (nI tt) V h q n i d → VV G 7 Rm (fs_ n Rm) yX11_fills cX11_fills 8 (none) [] 43 [some (pv_O (44, p)), some (pv_O (72, A)), some (pv_I (nI s)), some (pv_I (nI tt)), some (pv_O (73, L)), some (pv_I (nI i)), some (pv_I (nI d)), z7] [] h Q := by
  intro fuel
  induction fuel with
  | zero =>
    intro d h q n Rm z7 hf hin hR G9
    obtain rfl : d = 4 := by omega
    refine v_iload 45 dX11_fills_43 rfl rfl ?_
    refine v_iconstv (v := 4) 46 dX11_fills_45 (by decide) rfl ?_
    refine v_icmp_ge 125 49 dX11_fills_46 (by decide) rfl (fun c46 => ?_) (fun c46 => ?_)
    · exact K _ _ _ _ _ hin hR G9
    · exact absurd (nI_le (Nat.le_refl 4) (by decide)) c46
  | succ fuel ih =>
    intro d h q n Rm z7 hf hin hR G9
    have R : Rp2 S h := G9.1.R R0
    have hcn := G9.cn hc1
    have hc64 := ct_le 64 hc1
    obtain ⟨cap, L9⟩ := id G9.2.2.1
    have hx := ni_m1 (b := tt) (by omega)
    have q64 := (G9.2.1.2.1 i hin).1
    refine v_iload 45 dX11_fills_43 rfl rfl ?_
    refine v_iconstv (v := 4) 46 dX11_fills_45 (by decide) rfl ?_
    refine v_icmp_ge 125 49 dX11_fills_46 (by decide) rfl (fun c46 => ?_) (fun c46 => ?_)
    · exact absurd c46 (nI_ge (a := d) (b := 4) (by omega) (by decide))
    · refine v_aload 51 dX11_fills_49 rfl rfl ?_
      refine v_iload 53 dX11_fills_51 rfl rfl ?_
      refine v_invf (z := ("java/util/ArrayList", TJx4a65c, 3)) (d' := 2) (k' := 0) (n' := 0) (k2 := (Rm)) (n2 := (fs_ n Rm)) 58 [_] dX11_fills_53 mf_X11_41 md_Jx4a65c_get_915e3 mi_Jx4a65c_get_915e3 se_Jx4a65c_get_915e3 (by simp [g_fw]; rfl) ⟨by decide, by decide +kernel⟩ (by first | assumption | rfl) (by rfl) rfl rfl (of_decide_eq_true rfl) rfl (by decide) rfl rfl rfl rfl (C_Jx4a65c_get_915e3 (tl := 73) (ta := 74) rfl rfl L9 hin ?_)
      refine v_cast 61 dX11_fills_58 ⟨_, _, rfl, rfl, cl_X11_26⟩ rfl ?_
      refine v_invv (d' := 0) (k' := 0) (n' := 0) (k2 := (Rm)) (n2 := (fs_ n Rm)) 64 [] dX11_fills_61 mt_X11_45 mi_J6_intValue_8abf5 me_J6_intValue_8abf5 (by first | assumption | rfl) (by rfl) rfl rfl (of_decide_eq_true rfl) rfl (by decide) rfl rfl rfl rfl (C_J6_intValue_8abf5 ?_)
      refine VV.know (fun ho9 _ _ => ?_)
      rw [ho9.2.2.2.2.1, show nI (q i + 128) - 128 = nI (q i) from pk_sub (a := q i + 128) (b := 128) (by omega)]
      refine v_iload 66 dX11_fills_64 rfl rfl ?_
      refine v_invsN (d' := 1) (k' := 0) (n' := 0) (k2 := (Rm)) (n2 := (fs_ n Rm)) 69 [_, _] dX11_fills_66 mn_X11_48 md_X12_beside ms_X12_beside rfl rfl (of_decide_eq_true rfl) rfl (by decide) rfl rfl rfl rfl (C_X12_beside (k := q i) (d := d) (G9.2.1.2.1 i hin).1 (by omega) ?_)
      refine v_istore 71 dX11_fills_69 (by decide) rfl rfl ?_
      dsimp only [List.set]
      refine v_iload 73 dX11_fills_71 rfl rfl ?_
      refine v_iconstv (v := -1) 74 dX11_fills_73 (by decide) rfl ?_
      refine v_icmp_eq 119 77 dX11_fills_74 (by decide) rfl (fun c74 => ?_) (fun c74 => ?_)
      · refine v_iinc 122 dX11_fills_119 rfl (by decide) rfl rfl ?_
        dsimp only [List.set]
        refine v_goto 43 dX11_fills_122 (by decide) ?_
        rw [show nI d + Int32.ofInt 1 = nI (d + 1) from nI_1 d]
        exact ih (d + 1) _ _ _ _ _ (by omega) hin hR (G9.k (fun j2 e2 hj2 ef2 => by
          rw [e2] at c74
          exact absurd c74 (ni_m1 (by omega))))
      · obtain ⟨j, hj, ej, had⟩ := (nr_in (d := d) (G9.2.1.2.1 i hin).1).resolve_left c74
        rw [ej]
        refine v_aload_n 78 dX11_fills_77 rfl rfl ?_
        refine v_iload 80 dX11_fills_78 rfl rfl ?_
        refine v_iald 81 dX11_fills_80 (by first | assumption | rfl) (by rw [G9.1.2.2.1, hA]; exact in_nI hj (by omega)) rfl ?_
        rw [nI_clamp (by omega)]
        refine v_iconstv (v := -1) 82 dX11_fills_81 (by decide) rfl ?_
        refine v_icmp_ne 119 85 dX11_fills_82 (by decide) rfl (fun c82 => ?_) (fun c82 => ?_)
        · refine v_iinc 122 dX11_fills_119 rfl (by decide) rfl rfl ?_
          dsimp only [List.set]
          refine v_goto 43 dX11_fills_122 (by decide) ?_
          rw [show nI d + Int32.ofInt 1 = nI (d + 1) from nI_1 d]
          exact ih (d + 1) _ _ _ _ _ (by omega) hin hR (G9.k (fun j2 e2 hj2 ef2 => by
            have e9 : j2 = j := (nI_eq (by omega) (by omega)).mp (e2.symm.trans ej)
            rw [e9]
            exact G9.ne hj c82))
        · refine v_aload_n 86 dX11_fills_85 rfl rfl ?_
          refine v_getfr 89 dX11_fills_86 fl_X11_9 (by first | assumption | rfl) (by rfl) rfl ?_
          rw [R.vr (t := 44) (by decide), i4]
          refine v_iload 91 dX11_fills_89 rfl rfl ?_
          refine v_iald 92 dX11_fills_91 (by first | assumption | rfl) (by rw [R.ln (t := 63) (by decide), i6]; exact in_nI hj (by omega)) rfl ?_
          rw [nI_clamp (by omega), R.vi (t := 63) (by decide)]
          refine v_aload_n 93 dX11_fills_92 rfl rfl ?_
          refine v_getfr 96 dX11_fills_93 fl_X11_9 (by first | assumption | rfl) (by rfl) rfl ?_
          rw [R.vr (t := 44) (by decide), i4]
          refine v_iload_n 97 dX11_fills_96 rfl rfl ?_
          refine v_iald 98 dX11_fills_97 (by first | assumption | rfl) (by rw [R.ln (t := 63) (by decide), i6]; exact in_nI hs (by omega)) rfl ?_
          rw [nI_clamp (by omega), R.vi (t := 63) (by decide)]
          refine v_icmp_ne 119 101 dX11_fills_98 (by decide) rfl (fun c98 => ?_) (fun c98 => ?_)
          · refine v_iinc 122 dX11_fills_119 rfl (by decide) rfl rfl ?_
            dsimp only [List.set]
            refine v_goto 43 dX11_fills_122 (by decide) ?_
            rw [show nI d + Int32.ofInt 1 = nI (d + 1) from nI_1 d]
            exact ih (d + 1) _ _ _ _ _ (by omega) hin hR (G9.k (fun j2 e2 hj2 ef2 => absurd ef2 (by
              have e9 : j2 = j := (nI_eq (by omega) (by omega)).mp (e2.symm.trans ej)
              rw [e9]
              exact c98)))
          · have w := G9.eq hx hV hj c82
            have hlt := ct_mo 64 (fun k _ y => y.imp id (fun ⟨a, ha, e⟩ => e ▸ ((bf_p G9.2.1 hin hj had ej c98 w.1 w.2).2.1 a ha).2.1)) (bf_64n (bf_p G9.2.1 hin hj had ej c98 w.1 w.2)) hc1
            have hRm : ∃ R1, Rm = R1 + 1 := ⟨Rm - 1, by omega⟩
            refine v_aload_n 102 dX11_fills_101 rfl rfl ?_
            refine v_iload 104 dX11_fills_102 rfl rfl ?_
            refine v_iload_n 105 dX11_fills_104 rfl rfl ?_
            refine v_iast 106 dX11_fills_105 (by first | assumption | rfl) (by first | assumption | decide) (by rw [G9.1.2.2.1, hA]; exact in_nI hj (by omega)) rfl ?_
            rw [nI_clamp (by omega)]
            refine v_aload 108 dX11_fills_106 rfl rfl ?_
            refine v_iload 110 dX11_fills_108 rfl rfl ?_
            refine v_invs (d' := 0) (k' := 0) (n' := 0) (k2 := (Rm)) (n2 := (fs_ n Rm)) 113 [_] dX11_fills_110 mt_X11_25 ms_J6_valueOf_2dffe rfl rfl (of_decide_eq_true rfl) rfl (by decide) rfl rfl rfl rfl (C_J6_valueOf_2dffe (m := j) (by omega) ?_)
            obtain ⟨R1, rfl⟩ := hRm
            refine v_invf (z := ("java/util/ArrayList", TJx4a65c, 3)) (d' := 6) (k' := 1) (n' := ac_ n) (k2 := R1) (n2 := fs_ (n + 1) R1) 118 [_] dX11_fills_113 mf_X11_31 md_Jx4a65c_add_9ea2d mi_Jx4a65c_add_9ea2d se_Jx4a65c_add_9ea2d (by simp [g_fw]; rfl) ⟨by decide, by decide +kernel⟩ (by first | assumption | rfl) (by rfl) rfl rfl (of_decide_eq_true rfl) rfl (by decide) rfl rfl rfl rfl (C_add3 (tl := 73) (ta := 74) (n := n) (f := fun k => (4, q k + 128)) rfl rfl (L9.te (hp_te.i (by decide)) (hp_te.i (by decide)) (hp_te.i (by decide))) (by decide) (by decide) (by decide) (by decide) (by decide) ob_4 (by omega) (fun k hk => Or.inr ob_4) (by unfold ac_; omega) (by unfold ac_; omega) (fun h2 cap2 L2 te2 al2 => ?_))
            refine v_pop 119 dX11_fills_118 rfl rfl ?_
            refine v_iinc 122 dX11_fills_119 rfl (by decide) rfl rfl ?_
            dsimp only [List.set]
            refine v_goto 43 dX11_fills_122 (by decide) ?_
            rw [show nI d + Int32.ofInt 1 = nI (d + 1) from nI_1 d]
            exact ih (d + 1) _ _ _ _ _ (by omega) (by omega) (by omega) (G9.pp hin hj had ej c98 w L2 te2 (fun i hi => (al2 i hi).1))
set_option maxRecDepth 20000 in
theorem L_X11_fills {G : GW} {h0 : PH} {Q : RS → PH → Prop} {S : SP} {p A s c0 c1 tt : Nat} {V : Nat → Prop} (R0 : Rp2 S h0) (i4 : hp_vr S.1 44 p 0 = (63, p)) (i6 : hp_ln S.1 63 p = 64) (hA : hp_ln h0 72 A = 64) (hs : s < 64) (ht : tt < 64) (hV : ∀ z, z < 64 → V z → ¬ hp_vi h0 72 A z = -1) (hc1 : ct_ (fun z => V z ∨ cn_ (hp_vi S.1 63 p) s z) 64 c1) {L : Nat} (hq : ∀ h' q n, gb_ (hp_vi S.1 63 p) h0 A L s c0 (nI tt) V h' q n n 0 → Q (.inl none) h') : ∀ fuel : Nat, ∀ (i : Nat) (h : PH) (q : Nat → Nat) (n Rm : Nat) (z6 z7 : Option PV), i + fuel = 65 → c0 + n + Rm = c1 → gb_ (hp_vi S.1 63 p) h0 A L s c0 (nI tt) V h q n i 0 → VV G 7 Rm (fs_ n Rm) yX11_fills cX11_fills 8 (none) [] 28 [some (pv_O (44, p)), some (pv_O (72, A)), some (pv_I (nI s)), some (pv_I (nI tt)), some (pv_O (73, L)), some (pv_I (nI i)), z6, z7] [] h Q := by
  intro fuel
  induction fuel with
  | zero =>
    intro i h q n Rm z6 z7 hf hR G9
    have := G9.2.1.1.2.2
    have := bf_64 G9.2.1
    omega
  | succ fuel ih =>
    intro i h q n Rm z6 z7 hf hR G9
    have R : Rp2 S h := G9.1.R R0
    have hcn := G9.cn hc1
    have hc64 := ct_le 64 hc1
    obtain ⟨cap, L9⟩ := id G9.2.2.1
    have hx := ni_m1 (b := tt) (by omega)
    refine v_iload 30 dX11_fills_28 rfl rfl ?_
    refine v_aload 32 dX11_fills_30 rfl rfl ?_
    refine v_invf (z := ("java/util/ArrayList", TJx4a65c, 3)) (d' := 0) (k' := 0) (n' := 0) (k2 := (Rm)) (n2 := (fs_ n Rm)) 37 [] dX11_fills_32 mf_X11_37 md_Jx4a65c_size_8abf5 mi_Jx4a65c_size_8abf5 se_Jx4a65c_size_8abf5 (by simp [g_fw]; rfl) ⟨by decide, by decide +kernel⟩ (by first | assumption | rfl) (by rfl) rfl rfl (of_decide_eq_true rfl) rfl (by decide) rfl rfl rfl rfl (C_Jx4a65c_size_8abf5 (tl := 73) (ta := 74) rfl rfl L9 ?_)
    refine v_icmp_ge 131 40 dX11_fills_37 (by decide) rfl (fun c37 => ?_) (fun c37 => ?_)
    · have e9 : i = n := by
        rcases Nat.lt_or_ge i n with w | w
        · exact absurd c37 (nI_ge w (by omega))
        · have := G9.2.1.1.2.2; omega
      subst e9
      refine v_return dX11_fills_131 rfl ?_
      exact hq _ _ _ G9
    · have hin : i < n := by
        rcases Nat.lt_or_ge i n with w | w
        · exact w
        · exact absurd (nI_le w (by omega)) c37
      refine v_iconstv (v := 0) 41 dX11_fills_40 (by decide) rfl ?_
      refine v_istore 43 dX11_fills_41 (by decide) rfl rfl ?_
      dsimp only [List.set]
      refine I_X11_fills R0 i4 i6 hA hs ht hV hc1 (fun h q n Rm z7 hin4 hR4 G4 => ?_) 4 0 _ _ _ _ _ rfl hin hR G9
      refine v_iinc 128 dX11_fills_125 rfl (by decide) rfl rfl ?_
      dsimp only [List.set]
      refine v_goto 28 dX11_fills_128 (by decide) ?_
      rw [show nI i + Int32.ofInt 1 = nI (i + 1) from nI_1 i]
      exact ih (i + 1) _ _ _ _ _ _ (by omega) hR4 (G4.nx hin4)
set_option maxRecDepth 20000 in
theorem C_X11_fills {G : GW} {h : PH} {Q : RS → PH → Prop} {S : SP} {p A s c0 c1 tt : Nat} {V : Nat → Prop} (R0 : Rp2 S h) (i4 : hp_vr S.1 44 p 0 = (63, p)) (i6 : hp_ln S.1 63 p = 64) (hA : hp_ln h 72 A = 64) (hs : s < 64) (ht : tt < 64) (hV : ∀ z, z < 64 → V z → ¬ hp_vi h 72 A z = -1) (hc1 : ct_ (fun z => V z ∨ cn_ (hp_vi S.1 63 p) s z) 64 c1) {m1 : Nat} (Fr : fr_s h) (hv : ¬ V s) (hc : ct_ V 64 c0) (hV2 : ∀ z, z < 64 → ¬ V z → hp_vi h 72 A z = -1) (hm1 : c0 + m1 + 1 = c1) (hq : ∀ L h' q n, gb_ (hp_vi S.1 63 p) h A L s c0 (nI tt) V h' q n n 0 → Q (.inl none) h') : VV G 7 (m1 + 2) (fs_ 1 m1 + 13) yX11_fills cX11_fills 8 (none) [] 0 (vv_en 8 [pv_O (44, p), pv_O (72, A), pv_I (nI s), pv_I (nI tt)]) [] h Q := by
  show VV G 7 (m1 + 2) (fs_ 1 m1 + 13) yX11_fills cX11_fills 8 (none) [] 0 [some (pv_O (44, p)), some (pv_O (72, A)), some (pv_I (nI s)), some (pv_I (nI tt)), none, none, none, none] [] h Q
  refine VV.know (fun ho9 _ _ => ?_)
  have ho5 : hp_al h 5 0 = true := ho9.1 5 0 (by decide)
  have ho50 : hp_ln h 5 0 = 0 := ho9.2.2.2.2.2.1
  obtain ⟨g, hg⟩ := Fr 73 (by decide) (by decide)
  have hq := hq g
  have hc64 := ct_le 64 hc1
  refine v_new (k1 := (m1 + 1)) (n1 := (fs_ 1 m1 + 10)) 3 73 g dX11_fills_0 nw_X11_22 (by rfl) (by decide) (hg g (Nat.le_refl _)) rfl rfl rfl ?_
  refine v_dup 4 dX11_fills_3 rfl rfl ?_
  refine v_invi (d' := 3) (k' := 0) (n' := 0) (k2 := (m1 + 1)) (n2 := (fs_ 1 m1 + 10)) 7 [] dX11_fills_4 mt_X11_24 mi_Jx4a65c_init_da8c8 rfl rfl (by first | assumption | rfl) rfl rfl (of_decide_eq_true rfl) rfl (by decide) rfl rfl rfl rfl (C_Jx4a65c_init_da8c8 rfl (by decide) ?_)
  have L0 : is_L (hp_setr (hp_seti (hp_new h 73 g 0) 73 g 0 0) 73 g 1 (5, 0)) 73 g 74 0 0 (fun _ => (0, 0)) := is_L.init (by decide) (by decide) (if_pos ⟨rfl, rfl⟩) (if_pos ⟨rfl, rfl⟩) ho5 ho50 (fr_t.n (n := 0) (Fr 74 (by decide) (by decide)))
  refine v_astore 9 dX11_fills_7 (by decide) rfl rfl ?_
  dsimp only [List.set]
  refine v_aload 11 dX11_fills_9 rfl rfl ?_
  refine v_iload_n 12 dX11_fills_11 rfl rfl ?_
  refine v_invs (d' := 0) (k' := 0) (n' := 0) (k2 := (m1 + 1)) (n2 := (fs_ 1 m1 + 10)) 15 [_] dX11_fills_12 mt_X11_25 ms_J6_valueOf_2dffe rfl rfl (of_decide_eq_true rfl) rfl (by decide) rfl rfl rfl rfl (C_J6_valueOf_2dffe (m := s) (by omega) ?_)
  refine v_invf (z := ("java/util/ArrayList", TJx4a65c, 3)) (d' := 6) (k' := 1) (n' := 10) (k2 := (m1)) (n2 := (fs_ 1 m1)) 20 [_] dX11_fills_15 mf_X11_31 md_Jx4a65c_add_9ea2d mi_Jx4a65c_add_9ea2d se_Jx4a65c_add_9ea2d (by simp [g_fw]; rfl) ⟨by decide, by decide +kernel⟩ (by first | assumption | rfl) (by rfl) rfl rfl (of_decide_eq_true rfl) rfl (by decide) rfl rfl rfl rfl (C_add3 (tl := 73) (ta := 74) (n := 0) (f := fun _ => (0, 0)) rfl rfl L0 (by decide) (by decide) (by decide) (by decide) (by decide) ob_4 (by decide) (fun k hk => absurd hk (Nat.not_lt_zero k)) (by decide) (by decide) (fun h2 cap2 L2 te2 al2 => ?_))
  have fa2 : fa_ h h2 := fa_.nl.tr (fa_.ad te2 (fun i hi => (al2 i hi).1) L2)
  have e72 : hp_vi h2 72 A = hp_vi h 72 A := by rw [(te2 72 (by decide) (by decide)).2.2.1, (((hp_te.n (by decide)).tr (hp_te.i (by decide))).tr (hp_te.r (by decide)) : hp_te h (hp_setr (hp_seti (hp_new h 73 g 0) 73 g 0 0) 73 g 1 (5, 0)) 72).2.2.1]
  refine v_pop 21 dX11_fills_20 rfl rfl ?_
  refine v_aload_n 22 dX11_fills_21 rfl rfl ?_
  refine v_iload_n 23 dX11_fills_22 rfl rfl ?_
  refine v_iload_n 24 dX11_fills_23 rfl rfl ?_
  refine v_iast 25 dX11_fills_24 (by first | assumption | rfl) (by first | assumption | decide) (by rw [fa2.2.2.1, hA]; exact in_nI hs (by omega)) rfl ?_
  rw [nI_clamp (by omega)]
  refine v_iconstv (v := 0) 26 dX11_fills_25 (by decide) rfl ?_
  refine v_istore 28 dX11_fills_26 (by decide) rfl rfl ?_
  dsimp only [List.set]
  exact L_X11_fills R0 i4 i6 hA hs ht hV hc1 hq 65 0 _ _ _ _ _ _ rfl (by omega) (gb_0 hs hv hc hV2 fa2 e72 L2)
end VVP
