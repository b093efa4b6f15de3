section VVIV
/-- places beside each other -/
def ad_ (k j : Nat) : Prop := k < 64 ∧ j < 64 ∧ ((j = k + 1 ∧ k % 8 < 7) ∨ (k = j + 1 ∧ j % 8 < 7) ∨ j = k + 8 ∨ k = j + 8)
/-- in one piece -/
def cn_ (F : Nat → Int32) (a b : Nat) : Prop := ∀ X : Nat → Prop, X a → (∀ k j, X k → ad_ k j → F j = F a → X j) → X b
def st_ (F : Nat → Int32) (k : Nat) : Prop := ∀ j, j < k → ¬ cn_ F j k
def is_l (F : Nat → Int32) (a : Nat) : Prop := (∀ k, cn_ F a k → 8 ≤ k ∧ k < 56 ∧ 0 < k % 8 ∧ k % 8 < 7) ∧ ∀ k j k' j', cn_ F a k → ad_ k j → ¬ F j = F a → cn_ F a k' → ad_ k' j' → ¬ F j' = F a → F j = F j'
def ct_ (P : Nat → Prop) : Nat → Nat → Prop
  | 0, r => r = 0
  | n + 1, r => ∃ r', ct_ P n r' ∧ ((P n ∧ r = r' + 1) ∨ (¬ P n ∧ r = r'))
def pc_ (F : Nat → Int32) (p i : Nat) : Prop := ct_ (st_ F) 64 p ∧ ct_ (fun k => st_ F k ∧ is_l F k) 64 i
def i_pi (S : SP) (p : Nat) : Prop := (hp_al S.1 44 p = true ∧ hp_al S.1 63 p = true ∧ hp_al S.1 64 p = true ∧ hp_vr S.1 44 p 0 = (63, p) ∧ hp_vr S.1 44 p 2 = (64, p) ∧ hp_ln S.1 63 p = 64 ∧ hp_ln S.1 64 p = 8) ∧
  ((s_pa S p = (0, 0) ∧ hp_al S.1 48 p = false) ∨ (s_pa S p = (48, p) ∧ i_pk S 48 p 2)) ∧ (∀ k, k < 64 → ∃ w : Nat, hp_vi S.1 63 p k = nI w ∧ w < 8) ∧ (∀ k, k < 8 → ∃ w : Nat, hp_vi S.1 64 p k = nI w ∧ w ≤ 99) ∧ pc_ (fun k => hp_vi S.1 63 p k) (nn_ S (20 + p)) (nn_ S (30 + p))
/-- sliced logs; skins -/
def s_sl (S : SP) : Nat → Nat
  | 0 => 0
  | n + 1 => s_sl S n + (if hp_vi S.1 41 n 4 = 0 then 0 else 1)
def s_la (S : SP) : Nat → Nat
  | 0 => 0
  | n + 1 => s_la S n + (if (s_fa S n).1 = 0 then 0 else 1) + (if (s_ba S n).1 = 0 then 0 else 1)
/-- areas: of the used leaves, of the offcuts -/
def s_ua (S : SP) (f : Nat) : Nat → Int32
  | 0 => 0
  | l + 1 => s_ua S f l + (if hp_vi S.1 62 f l = 0 then 0 else s_a S f (nI l))
def s_ut (S : SP) : Nat → Int32
  | 0 => 0
  | f + 1 => s_ut S f + s_ua S f (s_n S f)
def s_oa (S : SP) : Nat → Int32
  | 0 => 0
  | k + 1 => s_oa S k + hp_vi S.1 45 (S.2.2 k) 0 * hp_vi S.1 45 (S.2.2 k) 1
/-- who has a leaf -/
def s_hd (S : SP) (rr : RN) (u p f l : Nat) : Nat := if ¬ rr.1 = 0 ∧ (hp_vr S.1 u p 0).2 = f ∧ cl_ (hp_vi S.1 u p 1) ≤ l ∧ l < cl_ (hp_vi S.1 u p 1) + cl_ (hp_vi S.1 u p 2) then 1 else 0
def s_u1 (S : SP) (f l : Nat) : Nat → Nat
  | 0 => 0
  | p + 1 => s_u1 S f l p + s_hd S (s_fa S p) 46 p f l + s_hd S (s_ba S p) 47 p f l
def s_u2 (S : SP) (f l : Nat) : Nat → Nat
  | 0 => 0
  | p + 1 => s_u2 S f l p + s_hd S (s_pa S p) 48 p f l
def i_ct (S : SP) : Prop := nn_ S 0 ≤ 8 ∧ nn_ S 1 = s_sl S (nn_ S 0) ∧ nn_ S 2 ≤ 8 ∧ nn_ S 3 ≤ 4 ∧ nn_ S 4 ≤ 8 * s_la S (nn_ S 2) ∧ nn_ S 5 ≤ nn_ S 4
def i_fr (S : SP) : Prop := (∀ i, nn_ S 0 ≤ i → hp_al S.1 41 i = false) ∧ (∀ i, nn_ S 1 ≤ i → hp_al S.1 42 i = false ∧ hp_al S.1 62 i = false) ∧ (∀ i, nn_ S 2 ≤ i → hp_al S.1 43 i = false ∧ hp_al S.1 46 i = false ∧ hp_al S.1 47 i = false) ∧ (∀ i, nn_ S 3 ≤ i → hp_al S.1 44 i = false ∧ hp_al S.1 48 i = false ∧ hp_al S.1 63 i = false ∧ hp_al S.1 64 i = false) ∧ (∀ i, nn_ S 4 ≤ i → hp_al S.1 45 i = false) ∧ ∀ k, k < nn_ S 5 → S.2.2 k < nn_ S 4 ∧ hp_al S.1 45 (S.2.2 k) = true
def i_sm (S : SP) : Prop := s_ut S (nn_ S 1) = hp_vi S.1 40 0 7 + hp_vi S.1 40 0 8 + hp_vi S.1 40 0 9 + s_oa S (nn_ S 5) + hp_vi S.1 40 0 6 + hp_vi S.1 40 0 10
def i_us (S : SP) : Prop := ∀ f l, f < nn_ S 1 → l < s_n S f → s_u1 S f l (nn_ S 2) + s_u2 S f l (nn_ S 3) = if hp_vi S.1 62 f l = 0 then 0 else 1
def Iv (S : SP) (N : Nat) : Prop := i_ct S ∧ (∀ i, i < nn_ S 0 → i_lg S i) ∧ (∀ f, f < nn_ S 1 → i_fl S f) ∧ (∀ p, p < nn_ S 2 → i_pn S N p) ∧ (∀ p, p < nn_ S 3 → i_pi S p) ∧ i_fr S ∧ i_sm S ∧ i_us S
theorem s_sl_le (S : SP) : ∀ n, s_sl S n ≤ n
  | 0 => Nat.le_refl 0
  | n + 1 => by
    have h1 := s_sl_le S n
    show s_sl S n + (if hp_vi S.1 41 n 4 = 0 then 0 else 1) ≤ n + 1
    split <;> omega
theorem s_la_le (S : SP) : ∀ n, s_la S n ≤ 2 * n
  | 0 => Nat.le_refl 0
  | n + 1 => by
    have h1 := s_la_le S n
    show s_la S n + (if (s_fa S n).1 = 0 then 0 else 1) + (if (s_ba S n).1 = 0 then 0 else 1) ≤ 2 * (n + 1)
    split <;> split <;> omega
theorem Iv.cs {S : SP} {N : Nat} (I : Iv S N) : nn_ S 0 ≤ 8 ∧ nn_ S 1 ≤ 8 ∧ nn_ S 2 ≤ 8 ∧ nn_ S 3 ≤ 4 ∧ nn_ S 4 ≤ 128 ∧ nn_ S 5 ≤ 128 := by
  obtain ⟨⟨a0, a1, a2, a3, a4, a5⟩, -⟩ := I
  have h1 := s_sl_le S (nn_ S 0)
  have h2 := s_la_le S (nn_ S 2)
  omega
theorem Iv.n24 {S : SP} {N : Nat} (I : Iv S N) {f : Nat} (hf : f < nn_ S 1) : s_n S f ≤ 24 := (I.2.2.1 f hf).2.2.2.1.2
theorem Iv.u01 {S : SP} {N : Nat} (I : Iv S N) {f : Nat} (hf : f < nn_ S 1) : ∀ l, hp_vi S.1 62 f l = 0 ∨ hp_vi S.1 62 f l = 1 := (I.2.2.1 f hf).2.2.2.2
theorem Iv.fa {S : SP} {N : Nat} (I : Iv S N) {p : Nat} (hp : p < nn_ S 2) (w : ¬ (s_fa S p).1 = 0) : s_fa S p = (46, p) ∧ i_pk S 46 p 1 := (I.2.2.2.1 p hp).2.1.resolve_left (fun q => w (by rw [q.1]))
theorem Iv.ba {S : SP} {N : Nat} (I : Iv S N) {p : Nat} (hp : p < nn_ S 2) (w : ¬ (s_ba S p).1 = 0) : s_ba S p = (47, p) ∧ i_pk S 47 p 1 := (I.2.2.2.1 p hp).2.2.1.resolve_left (fun q => w (by rw [q.1]))
theorem Iv.pa {S : SP} {N : Nat} (I : Iv S N) {p : Nat} (hp : p < nn_ S 3) (w : ¬ (s_pa S p).1 = 0) : s_pa S p = (48, p) ∧ i_pk S 48 p 2 := (I.2.2.2.2.1 p hp).2.1.resolve_left (fun q => w (by rw [q.1]))
theorem Iv.co {S : SP} {N : Nat} (I : Iv S N) {p : Nat} (hp : p < nn_ S 2) : 0 < hp_vi S.1 43 p 2 := by
  obtain ⟨-, -, -, -, -, ⟨h1, h2⟩, ⟨m, e, h3, h4⟩, -⟩ := I.2.2.2.1 p hp
  have h5 := Nat.mul_le_mul h1 h3
  have h6 := Nat.mul_le_mul h2 h4
  rw [e]
  exact nI_lt (a := 0) (by omega) (by omega)
/-- an answer of the class: a number or what it throws -/
def an_ (E1 E2 E3 : String) (r : Nat × Int32) : RS := match r.1 with
  | 0 => .inl (some (pv_I r.2))
  | 1 => .inr E1
  | 2 => .inr E2
  | _ => .inr E3
/-- what is asked: 0 and an answer, or the number of what is thrown -/
abbrev g_T : List Int32 := [0, 17, 35, 52, 70, 87, 105, 123, 141, 158, 176, 194, 213, 231, 249, 268]
abbrev g_M : List Int32 := [-3, -3, -2, 0, 1, 3, 4, 4, 2, 0, -1, -2]
def op_leaves (S : SP) (x : Int32) : Nat × Int32 := if ok_i x (nn_ S 1) then (0, nI (s_n S (cl_ x))) else (1, 0)
abbrev ok_l_ (S : SP) (x l : Int32) : Prop := ok_i x (nn_ S 1) ∧ ok_i l (s_n S (cl_ x))
def op_width (S : SP) (x l : Int32) : Nat × Int32 := if ok_l_ S x l then (0, s_w S (cl_ x) l) else (1, 0)
def op_area (S : SP) (x l : Int32) : Nat × Int32 := if ok_l_ S x l then (0, s_a S (cl_ x) l) else (1, 0)
def op_figure (S : SP) (x l : Int32) : Nat × Int32 := if ok_l_ S x l then (0, s_f S (cl_ x) l) else (1, 0)
def op_isUsed (S : SP) (x l : Int32) : Nat × Int32 := if ok_l_ S x l then (0, hp_vi S.1 62 (cl_ x) (cl_ l)) else (1, 0)
def op_jump (S : SP) (x : Int32) : Nat × Int32 := if ok_i x (nn_ S 2) then (if (s_fa S (cl_ x)).1 = 0 then (2, 0) else (0, hp_vi S.1 43 (cl_ x) 5)) else (1, 0)
def op_cup (S : SP) (x a : Int32) : Nat × Int32 := if ok_i x (nn_ S 2) then (if 4 ≤ a ∧ a ≤ 20 then (if hp_vi S.1 43 (cl_ x) 6 = 0 then (3, 0) else (0, s_cu S (cl_ x) a)) else (2, 0)) else (1, 0)
def op_isFlat (S : SP) (x : Int32) : Nat × Int32 := if ok_i x (nn_ S 2) then (if hp_vi S.1 43 (cl_ x) 6 = 0 then (2, 0) else (0, if -3 ≤ s_cu S (cl_ x) (hp_vi S.1 40 0 11) ∧ s_cu S (cl_ x) (hp_vi S.1 40 0 11) ≤ 3 then 1 else 0)) else (1, 0)
def cm_ (S : SP) (p : Nat) : Nat → Nat → Nat × Int32
  | 0, _ => (3, 0)
  | n + 1, k => if -3 ≤ s_cu S p (mx 4 (mn 20 (hp_vi S.1 40 0 11 + g_M.getD k 0))) ∧ s_cu S p (mx 4 (mn 20 (hp_vi S.1 40 0 11 + g_M.getD k 0))) ≤ 3 then cm_ S p n (k + 1) else (0, nI k)
def op_cupMonth (S : SP) (x : Int32) : Nat × Int32 := if ok_i x (nn_ S 2) then (if hp_vi S.1 43 (cl_ x) 6 = 0 then (2, 0) else cm_ S (cl_ x) 12 0) else (1, 0)
def op_isThrough (S : SP) (x : Int32) : Nat × Int32 := if ok_i x (nn_ S 2) then (0, if ¬ (s_fa S (cl_ x)).1 = 0 ∧ s_lf S (cl_ x) ≤ 10 then 1 else 0) else (1, 0)
def op_ghosts (S : SP) (x : Int32) : Nat × Int32 := if ok_i x (nn_ S 2) then (0, hp_vi S.1 43 (cl_ x) 11) else (1, 0)
def op_price (S : SP) (x : Int32) : Nat × Int32 := if ok_i x (nn_ S 2) then (0, s_wo S (cl_ x)) else (1, 0)
abbrev ok_p_ (S : SP) (x a b : Int32) : Prop := ok_i x (nn_ S 3) ∧ ((0 ≤ a ∧ a ≤ 7) ∧ (0 ≤ b ∧ b ≤ 7))
def op_fieldAt (S : SP) (x a b : Int32) : Nat × Int32 := if ok_p_ S x a b then (0, 97 + hp_vi S.1 63 (cl_ x) (cl_ (a * 8 + b))) else (1, 0)
def op_pieces (S : SP) (x : Int32) : Nat × Int32 := if ok_i x (nn_ S 3) then (0, nI (nn_ S (20 + cl_ x))) else (1, 0)
def op_islands (S : SP) (x : Int32) : Nat × Int32 := if ok_i x (nn_ S 3) then (0, nI (nn_ S (30 + cl_ x))) else (1, 0)
abbrev ok_c_ (S : SP) (p : Nat) (c : Int32) : Prop := ¬ (s_pa S p).1 = 0 ∧ 0 ≤ c ∧ c < hp_vi S.1 48 p 2
def s_lo (S : SP) (p : Nat) (c : Int32) (k : Nat) : Int32 := hp_vi S.1 48 p 1 + rm_ (hp_vi S.1 63 p k + c) (hp_vi S.1 48 p 2)
def op_leafAt (S : SP) (x c a b : Int32) : Nat × Int32 := if ok_p_ S x a b then (if ok_c_ S (cl_ x) c then (0, s_lo S (cl_ x) c (cl_ (a * 8 + b))) else (2, 0)) else (1, 0)
def s_bu (S : SP) (p : Nat) : Nat → Nat
  | 0 => 0
  | k + 1 => s_bu S p k + (if 90 < hp_vi S.1 64 p k then 1 else 0)
def op_burnt (S : SP) (x : Int32) : Nat × Int32 := if ok_i x (nn_ S 3) then (0, nI (s_bu S (cl_ x) 8)) else (1, 0)
def op_gap (k t b : Int32) : Nat × Int32 := if ((1 ≤ k ∧ k ≤ 99) ∧ (5 ≤ t ∧ t ≤ 30)) ∧ (0 ≤ b ∧ b ≤ 15) then (0, mx 0 (k - 10 * t * g_T.getD (cl_ b) 0 / 1000)) else (1, 0)
end VVIV

