/-! ===== THE START: the old things, where they lie, and what is known of them ===== -/
def sz_F : List Cond := flatC (Cond.and given_1 narrow_1)
def sz_tm (q : String × Nat × String × Nat) : Term := .string q.1 q.2.1
def sz_vl (q : String × Nat × String × Nat) : Term := .field (sz_tm q) "java/lang/String" "value" "[B"
def sz_by (i : Nat) : List Nat := g_txt.getD i []
def sz_tx (q : String × Nat × String × Nat) : List Cond := [.exactly (sz_tm q) "java/lang/String", .eq (.field (sz_tm q) "java/lang/String" "coder" "B") (.int 0), .arrayOf (sz_vl q) .byte, .eq (.length (sz_vl q)) (.int (Int32.ofNat (sz_by q.2.2.2).length))] ++ (List.range (sz_by q.2.2.2).length).map (fun j => .eq (.elem (sz_vl q) (.int (Int32.ofNat j))) (.int (nI ((sz_by q.2.2.2).getD j 0))))
theorem sz_tx_in : ∀ q ∈ g_sx, ∀ w ∈ sz_tx q, w ∈ sz_F := by decide +kernel
theorem sz_sr_in : ∀ q ∈ g_sx, Cond.stringRef q.1 q.2.1 q.2.2.1 ∈ lw_tbl := by decide +kernel
theorem sz_sx1 : ∀ a ∈ g_sx, ∀ b ∈ g_sx, a.2.2.2 = b.2.2.2 → a = b := by decide +kernel
theorem sz_len : ∀ q ∈ g_sx, (sz_by q.2.2.2).length < 2 ^ 31 := by decide +kernel
theorem sz_sxi : ∀ i, i < 11 → ∃ q ∈ g_sx, q.2.2.2 = i := by decide +kernel
def sz_arT : List (String × String × Nat) := [(RX6, "MONTHS", 0), (RX6, "TANGENTS", 1), (RX12, "SWELLS", 2), (RX12, "TANGENTS", 3), (RX12, "YEAR", 4)]
def sz_ls (i : Nat) : List Int32 := g_arr.getD i []
def sz_ar (q : String × String × Nat) : List Cond := [.arrayOf (.static q.1 q.2.1 "[I") .int, .eq (.length (.static q.1 q.2.1 "[I")) (.int (Int32.ofNat (sz_ls q.2.2).length))] ++ (List.range (sz_ls q.2.2).length).map (fun j => .eq (.elem (.static q.1 q.2.1 "[I") (.int (Int32.ofNat j))) (.int ((sz_ls q.2.2).getD j 0)))
theorem sz_ar_in : ∀ q ∈ sz_arT, ∀ w ∈ sz_ar q, w ∈ sz_F := by decide +kernel
theorem sz_al_in : ∀ q ∈ sz_arT, Cond.laysStatic q.1 q.2.1 "[I" ∈ lw_tbl ∧ Cond.initialized q.1 ∈ lw_tbl ∧ (sz_ls q.2.2).length < 2 ^ 31 := by decide +kernel
theorem sz_ar1 : ∀ a ∈ sz_arT, ∀ b ∈ sz_arT, a.2.2 = b.2.2 → a = b := by decide +kernel
theorem sz_ari : ∀ i, i < 5 → ∃ q ∈ sz_arT, q.2.2 = i := by decide +kernel
theorem sz_pick {α : Type} (l : List α) (f : α → Nat) (inj : ∀ a ∈ l, ∀ b ∈ l, f a = f b → a = b) (P : α → Nat → Nat → Prop) (h : ∀ a ∈ l, ∃ x y, P a x y) : ∃ X Y : Nat → Nat, ∀ a ∈ l, P a (X (f a)) (Y (f a)) := by
  have h0 : ∀ i : Nat, ∃ q : Nat × Nat, ∀ a ∈ l, f a = i → P a q.1 q.2 := by
    intro i
    by_cases c : ∃ a ∈ l, f a = i
    · obtain ⟨a, ha, e⟩ := c
      obtain ⟨x, y, hp⟩ := h a ha
      exact ⟨(x, y), fun b hb e' => by rw [← inj a ha b hb (e.trans e'.symm)]; exact hp⟩
    · exact ⟨(0, 0), fun a ha e => absurd ⟨a, ha, e⟩ c⟩
  obtain ⟨g, hg⟩ := Classical.axiomOfChoice h0
  exact ⟨fun i => (g i).1, fun i => (g i).2, fun a ha => hg _ a ha rfl⟩
abbrev sz_A (s : State) : Nat → Prop := fun a => s.heap.size ≤ a
section STB
variable {s : State} {b : Nat}
theorem sz_hA : ∀ a : Nat, a < s.heap.size → ¬ sz_A s a := fun a h => Nat.not_le.mpr h
theorem sz_text1 (hts : ∀ w ∈ lw_tbl, w.before #[Value.ref b] s = true) (hf : ∀ w ∈ sz_F, w.before #[Value.ref b] s = true) (q : String × Nat × String × Nat) (hq : q ∈ g_sx) : ∃ x y : Nat, vk_R q.1 q.2.1 q.2.2.1 x s ∧ va_O "java/lang/String" x (sz_A s) s s.heap ∧ va_OF "java/lang/String" "coder" "B" (.int 0) x (sz_A s) s s.heap ∧ va_OF "java/lang/String" "value" "[B" (.ref y) x (sz_A s) s s.heap ∧ va_T .byte y (sz_by q.2.2.2).length (fun j => .int (nI ((sz_by q.2.2.2).getD j 0))) (sz_A s) s s.heap := by
  have hw : ∀ w ∈ sz_tx q, w.before #[Value.ref b] s = true := fun w h => hf w (sz_tx_in q hq w h)
  have h1 := hw (.exactly (sz_tm q) "java/lang/String") (by simp [sz_tx])
  have h2 := hw (.eq (.field (sz_tm q) "java/lang/String" "coder" "B") (.int 0)) (by simp [sz_tx])
  have h3 := hw (.arrayOf (sz_vl q) .byte) (by simp [sz_tx])
  have h4 := hw (.eq (.length (sz_vl q)) (.int (Int32.ofNat (sz_by q.2.2.2).length))) (by simp [sz_tx])
  have h5 : ∀ j, j < (sz_by q.2.2.2).length → (Cond.eq (.elem (sz_vl q) (.int (Int32.ofNat j))) (.int (nI ((sz_by q.2.2.2).getD j 0)))).before #[Value.ref b] s = true := fun j hj => hw _ (List.mem_append_right _ (List.mem_map.mpr ⟨j, List.mem_range.mpr hj, rfl⟩))
  obtain ⟨a, c, cA, kA, q1, q2, q3, q4, q5, q6, -⟩ := Cond.exactly_spec (args := #[Value.ref b]) (first := s) (o := none) (s := s) (idx := []) (t := sz_tm q) (cls := "java/lang/String") h1
  obtain ⟨t, ht, hT⟩ := va_Tof (f := fun j => .int (nI ((sz_by q.2.2.2).getD j 0))) (A := sz_A s) (sz_len q hq) h3 (va_eqt h4) (fun j hj => va_eqt (h5 j hj)) sz_hA
  exact ⟨a, t, vk_R.of (hts _ (sz_sr_in q hq)) q1, ⟨cA, q3, q5, by rw [q6]; exact q2, sz_hA a (Array.getElem?_eq_some_iff.mp q3).1⟩, vk_OFof q1 (va_eqt h2) sz_hA, vk_OFof q1 ht sz_hA, hT⟩
theorem sz_arr1 (hts : ∀ w ∈ lw_tbl, w.before #[Value.ref b] s = true) (hf : ∀ w ∈ sz_F, w.before #[Value.ref b] s = true) (q : String × String × Nat) (hq : q ∈ sz_arT) : ∃ x y : Nat, y = 0 ∧ va_Z q.1 q.2.1 "[I" (.ref x) (sz_A s) s s.heap ∧ va_T .int x (sz_ls q.2.2).length (fun j => .int ((sz_ls q.2.2).getD j 0)) (sz_A s) s s.heap := by
  have hw : ∀ w ∈ sz_ar q, w.before #[Value.ref b] s = true := fun w h => hf w (sz_ar_in q hq w h)
  have h3 := hw (.arrayOf (.static q.1 q.2.1 "[I") .int) (by simp [sz_ar])
  have h4 := hw (.eq (.length (.static q.1 q.2.1 "[I")) (.int (Int32.ofNat (sz_ls q.2.2).length))) (by simp [sz_ar])
  have h5 : ∀ j, j < (sz_ls q.2.2).length → (Cond.eq (.elem (.static q.1 q.2.1 "[I") (.int (Int32.ofNat j))) (.int ((sz_ls q.2.2).getD j 0))).before #[Value.ref b] s = true := fun j hj => hw _ (List.mem_append_right _ (List.mem_map.mpr ⟨j, List.mem_range.mpr hj, rfl⟩))
  obtain ⟨k1, k2, k3⟩ := sz_al_in q hq
  obtain ⟨t, ht, hT⟩ := va_Tof (f := fun j => .int ((sz_ls q.2.2).getD j 0)) (A := sz_A s) k3 h3 (va_eqt h4) (fun j hj => va_eqt (h5 j hj)) sz_hA
  exact ⟨t, 0, rfl, va_Zref (hts _ k1) (hts _ k2) ht sz_hA, hT⟩
abbrev sz_ct : Term := .static "java/lang/Integer$IntegerCache" "cache" "[Ljava/lang/Integer;"
theorem sz_cache (hts : ∀ w ∈ lw_tbl, w.before #[Value.ref b] s = true) (hf : ∀ w ∈ sz_F, w.before #[Value.ref b] s = true) : ∃ (c0 : Nat) (ad : Nat → Nat), va_Z "java/lang/Integer$IntegerCache" "cache" "[Ljava/lang/Integer;" (.ref c0) (sz_A s) s s.heap ∧ va_T (.object "java/lang/Integer") c0 256 (fun j => .ref (ad j)) (sz_A s) s s.heap ∧ vb_C ad (sz_A s) s s.heap := by
  have harr := hf (.arrayOf sz_ct (.object "java/lang/Integer")) (by decide +kernel)
  have hlen := hf (.eq (.length sz_ct) (.int (Int32.ofNat 256))) (by decide +kernel)
  have hall := hf (.all sz_ct (.and (.exactly (.elem sz_ct (.index 0)) "java/lang/Integer") (.eq (.field (.elem sz_ct (.index 0)) "java/lang/Integer" "value" "I") (.sub (.index 0) (.int 128))))) (by decide +kernel)
  obtain ⟨ad, h1, h2⟩ := vb_Cof (A := sz_A s) (st := sz_ct) rfl (va_eqt hlen) hall sz_hA
  obtain ⟨t, ht, hT⟩ := va_Tof (N := 256) (f := fun j => .ref (ad j)) (A := sz_A s) (by decide) harr (va_eqt hlen) h2 sz_hA
  exact ⟨t, ad, va_Zref (hts _ (by decide +kernel)) (hts _ (by decide +kernel)) ht sz_hA, hT, h1⟩
abbrev sz_et : Term := .static "java/util/ArrayList" "DEFAULTCAPACITY_EMPTY_ELEMENTDATA" "[Ljava/lang/Object;"
theorem sz_empty (hts : ∀ w ∈ lw_tbl, w.before #[Value.ref b] s = true) (hf : ∀ w ∈ sz_F, w.before #[Value.ref b] s = true) : ∃ e0 : Nat, va_Z "java/util/ArrayList" "DEFAULTCAPACITY_EMPTY_ELEMENTDATA" "[Ljava/lang/Object;" (.ref e0) (sz_A s) s s.heap ∧ va_T g_O e0 0 (fun _ => .null) (sz_A s) s s.heap := by
  have harr := hf (.arrayOf sz_et g_O) (by decide +kernel)
  have hlen := hf (.eq (.length sz_et) (.int (Int32.ofNat 0))) (by decide +kernel)
  obtain ⟨t, ht, hT⟩ := va_Tof (N := 0) (f := fun _ => .null) (A := sz_A s) (by decide) harr (va_eqt hlen) (fun j hj => absurd hj (Nat.not_lt_zero j)) sz_hA
  exact ⟨t, va_Zref (hts _ (by decide +kernel)) (hts _ (by decide +kernel)) ht sz_hA, hT⟩
theorem sz_inst : ∀ q ∈ g_cl, Cond.instantiable q.1 (if q.1 = "java/lang/String" then 4 else q.2.2) ∈ lw_tbl := by decide +kernel
theorem sz_K (hts : ∀ w ∈ lw_tbl, w.before #[Value.ref b] s = true) : ∃ D : va_G, va_K D g_cl [] s := by
  have h0 : ∀ c : Nat, ∃ z : ClassId × (Nat → Nat), ∀ q : vw_C, g_cl[c]? = some q → u_Kn s q.1 q.2.1 q.2.2 z.1 z.2 := by
    intro c
    cases hc : g_cl[c]? with
    | none => exact ⟨(0, fun _ => 0), fun q h => by cases h⟩
    | some q =>
      obtain ⟨cC, iS, h⟩ := u_known (ws := lw_tbl) (s := s) (args := #[Value.ref b]) (C := q.1) (T := q.2.1) (N := q.2.2) hts (fun w hw => (List.mem_filter.mp (g_in hc w hw)).1) (hts _ (sz_inst q (List.mem_of_getElem? hc)))
      exact ⟨(cC, iS), fun q' e => by cases e; exact h⟩
  obtain ⟨g, hg⟩ := Classical.axiomOfChoice h0
  exact ⟨(fun c => (g c).1, fun c => (g c).2), fun c q hq => hg c q hq, fun k q h => by simp at h⟩
theorem sz_ac_in : ∀ ty ∈ g_tyn, ty ≠ g_O → Cond.arrayClass ty ∈ lw_tbl := by decide +kernel
theorem sz_arrs (hts : ∀ w ∈ lw_tbl, w.before #[Value.ref b] s = true) : ∃ a : FieldType → ClassId, ∀ ty ∈ g_tyn, ArrOfT s (a ty) ty ∧ va_RA s (a ty) ty := by
  have h0 : ∀ ty : FieldType, ∃ c : ClassId, ty ∈ g_tyn → ArrOfT s c ty ∧ va_RA s c ty := by
    intro ty
    by_cases h : ty ∈ g_tyn
    · by_cases hO : ty = g_O
      · subst hO
        obtain ⟨comp, c, k, h1, -, h3, h4, h5⟩ := Cond.arrayOver_spec (n := "java/lang/Object") (hts (.arrayOver (.object "java/lang/Object")) (by decide +kernel))
        exact ⟨c, fun _ => ⟨fun n z => ⟨fun k9 e => (by cases e), k, h3, comp, h4⟩, ⟨k, comp, h3, h4, h1, h5⟩⟩⟩
      · obtain ⟨c, k, comp, h1, h2, h3⟩ := Cond.arrayClass_spec (hts _ (sz_ac_in ty h hO))
        refine ⟨c, fun _ => ⟨fun n z => ⟨fun k9 e => (by cases e), k, h2, comp, h3⟩, ?_⟩⟩
        simp only [g_tyn, List.mem_cons, List.not_mem_nil, or_false] at h
        rcases h with rfl | rfl | rfl | rfl | rfl | rfl
        · exact h1
        · exact h1
        · exact h1
        · exact h1
        · exact h1
        · exact absurd rfl hO
    · exact ⟨0, fun h9 => absurd h9 h⟩
  exact Classical.axiomOfChoice h0
theorem sz_obj {C : String} {T : u_T} {N : Nat} {cC : ClassId} {iS : Nat → Nat} {t x : Nat} {A : Nat → Prop} {H : Heap} {V : Nat → Value} (ht : t < 10) (hK : u_Kn s C T N cC iS) (hO : va_O C x A s H) (hN : 0 < N) (hF : ∀ k, k < N → va_OF (T k).1 (T k).2.1 (T k).2.2.1 (V k) x A s H) : o_OB t x cC N iS H V := by
  obtain ⟨cell, h1, h2, h3, h4⟩ := hO
  obtain ⟨hS, hfc, -⟩ := hK
  refine ⟨cell, h1, Option.some.inj (h3.symm.trans hfc), ⟨?_, h2, fun c => absurd ht (by omega)⟩, fun k hk => ?_⟩
  · obtain ⟨cf, kf, fi, f, cell', g1, g2, g3, g4, g5, g6⟩ := hF 0 hN
    cases h1.symm.trans g3
    exact g4
  · obtain ⟨cf, kf, fi, f, cell', g1, g2, g3, g4, g5, g6⟩ := hF k hk
    cases h1.symm.trans g3
    obtain ⟨cf', kf', fi', f', e1, e2⟩ := hS k hk
    cases g1.symm.trans e1
    rw [← e2]
    exact g5
theorem sz_AR {ty : FieldType} {t N : Nat} {f V : Nat → Value} {A : Nat → Prop} {H : Heap} (h : va_T ty t N f A s H) (hV : ∀ k, k < N → V k = f k) : o_AR t N H V := by
  obtain ⟨cell, h1, h2, h3, h4, h5, h6, h7⟩ := h
  exact ⟨cell, h1, h3, h4, h5, fun k hk => by rw [hV k hk]; exact h6 k hk⟩
end STB
def sz_o (X Y Z ad : Nat → Nat) (e0 c0 b mi : Nat) : Nat → Nat → Nat := fun t i => match t with
  | 1 => X i | 2 => Y i | 3 => Z i | 4 => ad i | 5 => e0 | 6 => c0 | 7 => b | 8 => mi | _ => 0
def sz_ln (L t i : Nat) : Nat := match t with
  | 2 => (g_txt.getD i []).length | 3 => (g_arr.getD i []).length | 6 => 256 | 7 => L | _ => 0
def sz_vi (xs : Nat → Int32) (t i k : Nat) : Int32 := match t with
  | 2 => nI ((g_txt.getD i []).getD k 0) | 3 => (g_arr.getD i []).getD k 0 | 4 => nI i - 128 | 7 => xs k | _ => 0
def sz_vr (t i k : Nat) : RN := match t with
  | 1 => (2, i) | 6 => if k < 256 then (4, k) else (0, 0) | _ => (0, 0)
def sz_h (L : Nat) (xs : Nat → Int32) : PH := (fun t i => decide (i < g_odn t), sz_ln L, sz_vi xs, sz_vr, fun _ _ _ => 0, fun _ _ _ => 0)
theorem sz_old {G : GW} : hp_old G (sz_h (gw_L G) (gw_x G)) := by
  refine ⟨fun t i hi => decide_eq_true hi, fun i => ⟨rfl, rfl⟩, fun i => ⟨rfl, fun k => rfl⟩, fun i => ⟨rfl, fun k => rfl⟩, fun i => rfl, rfl, rfl, fun k hk => ?_, rfl, fun k => rfl⟩
  show (if k < 256 then (4, k) else (0, 0)) = _
  rw [if_pos hk]
theorem sz_hb0 {t : Nat} (ht : 10 ≤ t) {i : Nat} : g_odn t = 0 := by
  obtain ⟨n, rfl⟩ : ∃ n, t = n + 10 := ⟨t - 10, by omega⟩
  rfl
