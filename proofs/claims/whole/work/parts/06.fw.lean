/-! ===== THE FRAME OF MY OWN: things have names (a tag and a number), a heap of names, one judgement VV ===== -/
abbrev RN : Type := Nat × Nat
abbrev PV : Type := Int32 ⊕ (RN ⊕ (Int64 ⊕ (UInt32 ⊕ UInt64)))
abbrev pv_I (x : Int32) : PV := .inl x
abbrev pv_O (r : RN) : PV := .inr (.inl r)
abbrev pv_L (x : Int64) : PV := .inr (.inr (.inl x))
abbrev pv_F (x : UInt32) : PV := .inr (.inr (.inr (.inl x)))
abbrev pv_D (x : UInt64) : PV := .inr (.inr (.inr (.inr x)))
/-- the heap of names: which are made, lengths, numbers, references, longs, doubles -/
abbrev PH : Type := (Nat → Nat → Bool) × (Nat → Nat → Nat) × (Nat → Nat → Nat → Int32) × (Nat → Nat → Nat → RN) × (Nat → Nat → Nat → Int64) × (Nat → Nat → Nat → UInt64)
def hp_al (h : PH) : Nat → Nat → Bool := h.1
def hp_ln (h : PH) : Nat → Nat → Nat := h.2.1
def hp_vi (h : PH) : Nat → Nat → Nat → Int32 := h.2.2.1
def hp_vr (h : PH) : Nat → Nat → Nat → RN := h.2.2.2.1
def hp_vl (h : PH) : Nat → Nat → Nat → Int64 := h.2.2.2.2.1
def hp_vd (h : PH) : Nat → Nat → Nat → UInt64 := h.2.2.2.2.2
def hp_seti (h : PH) (t i k : Nat) (x : Int32) : PH := (h.1, h.2.1, (fun a b c => if a = t ∧ b = i ∧ c = k then x else h.2.2.1 a b c), h.2.2.2)
def hp_setr (h : PH) (t i k : Nat) (x : RN) : PH := (h.1, h.2.1, h.2.2.1, (fun a b c => if a = t ∧ b = i ∧ c = k then x else h.2.2.2.1 a b c), h.2.2.2.2)
def hp_setl (h : PH) (t i k : Nat) (x : Int64) : PH := (h.1, h.2.1, h.2.2.1, h.2.2.2.1, (fun a b c => if a = t ∧ b = i ∧ c = k then x else h.2.2.2.2.1 a b c), h.2.2.2.2.2)
def hp_setd (h : PH) (t i k : Nat) (x : UInt64) : PH := (h.1, h.2.1, h.2.2.1, h.2.2.2.1, h.2.2.2.2.1, (fun a b c => if a = t ∧ b = i ∧ c = k then x else h.2.2.2.2.2 a b c))
def hp_new (h : PH) (t i n : Nat) : PH := ((fun a b => if a = t ∧ b = i then true else h.1 a b), (fun a b => if a = t ∧ b = i then n else h.2.1 a b),
  (fun a b c => if a = t ∧ b = i then 0 else h.2.2.1 a b c), (fun a b c => if a = t ∧ b = i then (0, 0) else h.2.2.2.1 a b c),
  (fun a b c => if a = t ∧ b = i then 0 else h.2.2.2.2.1 a b c), (fun a b c => if a = t ∧ b = i then 0 else h.2.2.2.2.2 a b c))
/-! the classes and the tags -/
def g_cl : List vw_C := [(RJ0, TJ0, 2), (RJ6, TJ6, 1), (RJx35411, TJx35411, 4), (RJx4a65c, TJx4a65c, 3), (RX0, TX0, 8), (RX1, TX1, 5), (RX2, TX2, 2), (RX3, TX3, 3), (RX4, TX4, 14), (RX5, TX5, 8), (RX6, TX6, 11), (RX7, TX7, 4), (RX8, TX8, 3), (RX9, TX9, 5), (RX10, TX10, 13), (RX11, TX11, 3), (RX12, TX12, 13)]
def g_ty (ci : Nat) : Nat → FieldType := match ci with
  | 0 => tyJ0 | 1 => tyJ6 | 2 => tyJx35411 | 3 => tyJx4a65c | 4 => tyX0 | 5 => tyX1 | 6 => tyX2 | 7 => tyX3 | 8 => tyX4 | 9 => tyX5 | 10 => tyX6 | 11 => tyX7 | 12 => tyX8 | 13 => tyX9 | 14 => tyX10 | 15 => tyX11 | _ => tyX12
abbrev g_O : FieldType := .object "java/lang/Object"
/-- what a tag's things are: objects of a class, arrays of a type, or things of which nothing is asked -/
def tg_tab : List (Option (Nat ⊕ FieldType)) := [none,
  some (.inl 0), some (.inr .byte), some (.inr .int), some (.inl 1), some (.inr g_O), some (.inr (.object "java/lang/Integer")), some (.inr .int), none, none,
  some (.inl 10), some (.inl 5), some (.inl 4), some (.inl 8), some (.inl 9), some (.inl 6), some (.inl 7), some (.inl 7), some (.inl 7), none,
  some (.inl 3), some (.inl 3), some (.inl 3), some (.inl 3), some (.inl 3), some (.inr g_O), some (.inr g_O), some (.inr g_O), some (.inr g_O), some (.inr g_O),
  some (.inr .int), some (.inr .int), some (.inr .boolean), some (.inr .int), some (.inr .int), some (.inr .boolean), some (.inr .int), none, none, none,
  some (.inl 16), some (.inl 13), some (.inl 11), some (.inl 14), some (.inl 15), some (.inr .int), some (.inl 12), some (.inl 12), some (.inl 12), none,
  some (.inl 3), some (.inl 3), some (.inl 3), some (.inl 3), some (.inl 3), some (.inl 3), some (.inr g_O), some (.inr g_O), some (.inr g_O), some (.inr g_O), some (.inr g_O), some (.inr g_O),
  some (.inr .boolean), some (.inr .int), some (.inr .int), none, none, none, none, none,
  some (.inl 12), some (.inl 2), some (.inr .int), some (.inl 3), some (.inr g_O), some (.inr .int), none, none, none, none,
  some (.inr .long), some (.inr .double)]
def tg_k (t : Nat) : Option (Nat ⊕ FieldType) := tg_tab.getD t none
/-- the tables' words that stay -/
def g_ws : List Cond := lw_tbl.filter goodWord
/-- a run's fixed things: the launch, the classes' numbers, the arrays' classes, the heap at the start, where the old things lie, the script -/
abbrev GW : Type := Launch × va_G × (FieldType → ClassId) × Heap × (Nat → Nat → Nat) × Nat × (Nat → Int32)
abbrev gw_l (G : GW) : Launch := G.1
abbrev gw_D (G : GW) : va_G := G.2.1
abbrev gw_a (G : GW) : FieldType → ClassId := G.2.2.1
abbrev gw_H (G : GW) : Heap := G.2.2.2.1
abbrev gw_o (G : GW) : Nat → Nat → Nat := G.2.2.2.2.1
abbrev gw_L (G : GW) : Nat := G.2.2.2.2.2.1
abbrev gw_x (G : GW) : Nat → Int32 := G.2.2.2.2.2.2
/-- names and values, where they lie -/
def hp_ro (loc : Nat → Nat → Nat) (r : RN) : Option Nat := if r.1 = 0 then none else some (loc r.1 r.2)
def pv_c (loc : Nat → Nat → Nat) : PV → Value
  | .inl x => .int x
  | .inr (.inl r) => va_rf (hp_ro loc r)
  | .inr (.inr (.inl x)) => .long x
  | .inr (.inr (.inr (.inl x))) => .float x
  | .inr (.inr (.inr (.inr x))) => .double x
def hp_sv (loc : Nat → Nat → Nat) (h : PH) (t i k : Nat) : FieldType → Value
  | .object _ => va_rf (hp_ro loc (hp_vr h t i k))
  | .array _ => va_rf (hp_ro loc (hp_vr h t i k))
  | .long => .long (hp_vl h t i k)
  | .double => .double (hp_vd h t i k)
  | _ => .int (hp_vi h t i k)
def g_odn : Nat → Nat
  | 1 => 11 | 2 => 11 | 3 => 5 | 4 => 256 | 5 => 1 | 6 => 1 | 7 => 1 | 8 => 1 | _ => 0
/-- an object: its class, its fields' places; an old one may bear marks that nobody asks for -/
def o_OB (t o : Nat) (cC : ClassId) (N : Nat) (iS : Nat → Nat) (H : Heap) (V : Nat → Value) : Prop :=
  ∃ cell : Cell, H[o]? = some cell ∧ cell.cls = cC ∧ (cell.vm ≠ .unknown ∧ cell.vm.isStatics = false ∧ (10 ≤ t → cell.vm = .none)) ∧ ∀ k, k < N → cell.slots[iS k]? = some (V k)
theorem o_OB.of {t o : Nat} {cC : ClassId} {N : Nat} {iS : Nat → Nat} {H : Heap} {V : Nat → Value} (h : t_OB o cC N iS H V) : o_OB t o cC N iS H V := by
  obtain ⟨cell, q1, q2, q3, q4⟩ := h
  exact ⟨cell, q1, q2, ⟨(by rw [q3]; exact fun h => (by cases h)), (by rw [q3]; rfl), fun _ => q3⟩, q4⟩
/-- an old array: what can be read of it -/
def o_AR (o N : Nat) (H : Heap) (V : Nat → Value) : Prop := ∃ cell : Cell, H[o]? = some cell ∧ cell.vm ≠ .unknown ∧ N ≤ cell.slots.size ∧ cell.slots.size.toInt32 = nI N ∧ ∀ k, k < N → cell.slots[k]? = some (V k)
def hp_at (G : GW) (loc : Nat → Nat → Nat) (h : PH) (t i : Nat) (H : Heap) : Prop := match tg_k t with
  | none => True
  | some (.inl ci) => ∃ q, g_cl[ci]? = some q ∧ o_OB t (loc t i) ((gw_D G).1 ci) q.2.2 ((gw_D G).2 ci) H (fun k => hp_sv loc h t i k (g_ty ci k))
  | some (.inr ty) => (t < 10 → i < g_odn t ∧ o_AR (loc t i) (hp_ln h t i) H (fun k => hp_sv loc h t i k ty)) ∧ (10 ≤ t → H[loc t i]? = some (arrV (gw_a G ty) (hp_ln h t i) (fun k => hp_sv loc h t i k ty)))
def ok_r (h : PH) (r : RN) : Prop := r = (0, 0) ∨ hp_al h r.1 r.2 = true
def ok_v (h : PH) : PV → Prop
  | .inr (.inl r) => ok_r h r
  | _ => True
def ok_s (h : PH) : List PV → Prop
  | [] => True
  | v :: l => ok_v h v ∧ ok_s h l
def ok_l (h : PH) : List (Option PV) → Prop
  | [] => True
  | none :: l => ok_l h l
  | some v :: l => ok_v h v ∧ ok_l h l
/-- the old things: constant -/
def g_txt : List (List Nat) := [[119, 109, 111, 104], [112, 99, 98], [102, 113, 114, 115], [115, 99, 98], [98, 115, 114], [119, 109, 111, 104], [112, 99, 98], [102, 113, 114, 115], [115, 99, 98], [98, 115, 114], [102, 98, 112, 111, 114, 119, 108]]
def g_arr : List (List Int32) := [[-3, -3, -2, 0, 1, 3, 4, 4, 2, 0, -1, -2], [0, 17, 35, 52, 70, 87, 105, 123, 141, 158, 176, 194, 213, 231, 249, 268], [6, 8, 9, 4], [0, 17, 35, 52, 70, 87, 105, 123, 141, 158, 176, 194, 213, 231, 249, 268], [-3, -3, -2, 0, 1, 3, 4, 4, 2, 0, -1, -2]]
def hp_old (G : GW) (h : PH) : Prop :=
  (∀ t i, i < g_odn t → hp_al h t i = true) ∧
  (∀ i, hp_vr h 1 i 0 = (2, i) ∧ hp_vi h 1 i 1 = 0) ∧ (∀ i, hp_ln h 2 i = (g_txt.getD i []).length ∧ ∀ k, hp_vi h 2 i k = nI ((g_txt.getD i []).getD k 0)) ∧
  (∀ i, hp_ln h 3 i = (g_arr.getD i []).length ∧ ∀ k, hp_vi h 3 i k = (g_arr.getD i []).getD k 0) ∧
  (∀ i, hp_vi h 4 i 0 = nI i - 128) ∧ hp_ln h 5 0 = 0 ∧ hp_ln h 6 0 = 256 ∧ (∀ k, k < 256 → hp_vr h 6 0 k = (4, k)) ∧ hp_ln h 7 0 = gw_L G ∧ (∀ k, hp_vi h 7 0 k = gw_x G k)
def hp_Rep (G : GW) (loc : Nat → Nat → Nat) (h : PH) (H : Heap) : Prop :=
  (∀ t i, hp_al h t i = true → hp_at G loc h t i H) ∧
  (∀ t i u j, hp_al h t i = true → hp_al h u j = true → 10 ≤ t → u ≠ 8 → loc t i = loc u j → t = u ∧ i = j) ∧
  (∀ t i, hp_al h t i = true → (10 ≤ t → (gw_H G).size ≤ loc t i) ∧ (t ≠ 8 → loc t i < H.size)) ∧
  ((gw_H G).size ≤ H.size ∧ ∀ a : Nat, a < (gw_H G).size → H[a]? = (gw_H G)[a]?) ∧
  (∀ i, hp_al h 0 i = false) ∧ (∀ t i k, hp_al h t i = true → ok_r h (hp_vr h t i k)) ∧ hp_old G h ∧ ∀ t i, t < 10 → loc t i = gw_o G t i
def hp_ext (h0 : PH) (l0 : Nat → Nat → Nat) (h : PH) (l : Nat → Nat → Nat) : Prop := ∀ t i, hp_al h0 t i = true → hp_al h t i = true ∧ l t i = l0 t i
/-- what the tables say: classes, arrays' classes, statics, texts -/
def g_tys : List FieldType := [.int, .boolean, .byte, .long, .double, g_O, .object "java/lang/Integer"]
/-- .. those whose arrays are made -/
def g_tyn : List FieldType := [.int, .boolean, .byte, .long, .double, g_O]
def g_st : List (String × String × String × PV) := [(RX6, "MONTHS", "[I", pv_O (3, 0)), (RX6, "TANGENTS", "[I", pv_O (3, 1)), (RX12, "SWELLS", "[I", pv_O (3, 2)), (RX12, "TANGENTS", "[I", pv_O (3, 3)), (RX12, "YEAR", "[I", pv_O (3, 4)), (RJx4a65c, "DEFAULTCAPACITY_EMPTY_ELEMENTDATA", "[Ljava/lang/Object;", pv_O (5, 0)), (RJxabbfe, "cache", "[Ljava/lang/Integer;", pv_O (6, 0)), (RJxabbfe, "high", "I", pv_I 127), (RJ0, "COMPACT_STRINGS", "Z", pv_I 1)]
def g_sx : List (String × Nat × String × Nat) := [(RX6, 32, "wmoh", 0), (RX6, 38, "pcb", 1), (RX6, 67, "fqrs", 2), (RX6, 106, "scb", 3), (RX6, 121, "bsr", 4), (RX12, 51, "wmoh", 5), (RX12, 65, "pcb", 6), (RX12, 84, "fqrs", 7), (RX12, 127, "scb", 8), (RX12, 179, "bsr", 9), (RX12, 373, "fbporwl", 10)]
def w_soft : Cond → Bool
  | .fieldLinkNest .. => true | .methodLinkNest .. => true | .castable .. => true | .declares _ => true | _ => false
def g_nw : List Cond := lw_tbl.filter w_soft
def g_fw : List (String × MethodName × MethodName) := [("java/util/ArrayList", ⟨"java/util/List", "size", "()I"⟩, ⟨"java/util/ArrayList", "size", "()I"⟩), ("java/util/ArrayList", ⟨"java/util/List", "add", "(Ljava/lang/Object;)Z"⟩, ⟨"java/util/ArrayList", "add", "(Ljava/lang/Object;)Z"⟩), ("java/util/ArrayList", ⟨"java/util/List", "get", "(I)Ljava/lang/Object;"⟩, ⟨"java/util/ArrayList", "get", "(I)Ljava/lang/Object;"⟩), ("java/util/ArrayList", ⟨"java/util/List", "iterator", "()Ljava/util/Iterator;"⟩, ⟨"java/util/ArrayList", "iterator", "()Ljava/util/Iterator;"⟩), ("java/util/ArrayList", ⟨"java/util/List", "remove", "(I)Ljava/lang/Object;"⟩, ⟨"java/util/ArrayList", "remove", "(I)Ljava/lang/Object;"⟩), ("java/util/ArrayList", ⟨"java/util/List", "isEmpty", "()Z"⟩, ⟨"java/util/ArrayList", "isEmpty", "()Z"⟩), ("java/util/ArrayList$Itr", ⟨"java/util/Iterator", "hasNext", "()Z"⟩, ⟨"java/util/ArrayList$Itr", "hasNext", "()Z"⟩), ("java/util/ArrayList$Itr", ⟨"java/util/Iterator", "next", "()Ljava/lang/Object;"⟩, ⟨"java/util/ArrayList$Itr", "next", "()Ljava/lang/Object;"⟩)]
def g_ex : List String := ["java/lang/ArithmeticException", "java/lang/IllegalArgumentException", "java/lang/IllegalStateException", "java/lang/IndexOutOfBoundsException", "java/lang/UnsupportedOperationException", "java/util/NoSuchElementException"]
abbrev g_OA : String := "[Ljava/lang/Object;"
def w_ok (G : GW) (U : State) : Prop := va_K (gw_D G) g_cl [] U ∧ (∀ ty ∈ g_tyn, ArrOfT U (gw_a G ty) ty ∧ va_RA U (gw_a G ty) ty) ∧
  (∀ q ∈ g_st, va_Z q.1 q.2.1 q.2.2.1 (pv_c (gw_o G) q.2.2.2) (fun a => (gw_H G).size ≤ a) U (gw_H G)) ∧ (∀ q ∈ g_sx, vk_R q.1 q.2.1 q.2.2.1 (gw_o G 1 q.2.2.2) U) ∧
  vx_Zq Bundle.tN "UNASSIGNED_STACK" Bundle.steD (fun a => (gw_H G).size ≤ a) U (gw_H G) ∧ vx_Zq Bundle.tN "SUPPRESSED_SENTINEL" Bundle.listD (fun a => (gw_H G).size ≤ a) U (gw_H G) ∧ (gw_l G).flags = flags0 ∧
  (∀ w ∈ g_nw, va_Nw w U) ∧ (∀ q ∈ g_fw, va_Fw q.1 q.2.1 q.2.2 U) ∧ (∀ E ∈ g_ex, ∀ F ∈ g_ex, E ≠ F → va_Nc E F U) ∧ va_Mi g_OA (gw_o G 8 0) U ∧ va_Dc U ∧ va_AO "java/lang/Object" U ∧ (∀ t i ty, t < 10 → i < g_odn t → tg_k t = some (.inr ty) → ∃ cell, (gw_H G)[gw_o G t i]? = some cell ∧ U.isArrayOf cell ty)
theorem w_ok.warm {G : GW} {s U : State} (hW : s.WarmedH U.vm) (h : w_ok G s) : w_ok G U := by
  obtain ⟨a1, a2, a3, a4, a5, a6, a7, a8, a9, a10, a11, a12, a13, a14⟩ := h
  refine ⟨va_K.moved hW.alike a1, fun ty h => ⟨arrOfT_moved hW.alike (a2 ty h).1, (a2 ty h).2.moved hW.alike⟩, fun q h => (a3 q h).moved hW.alike, fun q h => (a4 q h).warm hW, a5.moved hW.alike, a6.moved hW.alike, a7, fun w h => ?_, fun q h => ?_, fun E hE F hF n => (a10 E hE F hF n).moved hW.alike, a11.moved hW.alike, a12.moved hW.alike, a13.moved hW.alike, fun t i ty h1 h2 h3 => ?_⟩
  · have h1 := a8 w h
    have h2 := (List.mem_filter.mp h).2
    cases w <;> first | exact h1.warmF hW | exact h1.warmM hW | exact h1.warmC hW | exact h1.warmD hW | cases h2
  · refine (a9 q h).moved ?_ hW.alike
    simp only [g_fw, List.mem_cons, List.not_mem_nil, or_false] at h
    rcases h with rfl | rfl | rfl | rfl | rfl | rfl | rfl | rfl <;> decide
  · obtain ⟨cell, e1, e2⟩ := a14 t i ty h1 h2 h3
    exact ⟨cell, e1, State.isArrayOf_alike hW.alike e2⟩
abbrev RS : Type := Option PV ⊕ String
def vv_Q (G : GW) (h0 : PH) (l0 : Nat → Nat → Nat) (Q : RS → PH → Prop) : Array Value → State → Outcome → State → Prop := fun _ _ o t =>
  ∃ (r : Option PV) (l1 : Nat → Nat → Nat) (h1 : PH), o = .returned (r.map (pv_c l1)) ∧ Q (.inl r) h1 ∧ hp_Rep G l1 h1 t.heap ∧ hp_ext h0 l0 h1 l1 ∧ ∀ v, r = some v → ok_v h1 v
def vv_X (G : GW) (h0 : PH) (l0 : Nat → Nat → Nat) (Q : RS → PH → Prop) : String → State → State → Prop := fun E _ t =>
  ∃ (l1 : Nat → Nat → Nat) (h1 : PH), Q (.inr E) h1 ∧ hp_Rep G l1 h1 t.heap ∧ hp_ext h0 l0 h1 l1
def lv_ok (loc : Nat → Nat → Nat) (a : Array Slot) (nL : Nat) (ls : List (Option PV)) : Prop := a.size = nL ∧ lv_wf a ∧ ∀ (i : Nat) (v : PV), ls[i]? = some (some v) → a[i]? = some (.val (pv_c loc v))
/-- where the walk stands: the machine, the code, the words, the room -/
def vv_C (G : GW) (d k n : Nat) (y : MethodName) (cc : ByteArray) (nL : Nat) (ret : Option FieldType) (hh : List (Nat × Nat × Nat × Nat)) (p : Program) (R : Room) (s : State) (m : MethodId) (args : Array Value) (meth : Method) (c : Code) (cells slots : Nat) : Prop :=
  p.tables.exec = Jvm.exec ∧ c.code = cc ∧ c.maxLocals = nL ∧ meth.sig.returnType = ret ∧ meth.locks = false ∧ meth.name = y.name ∧ s.vm.findClass y.cls = some m.cls ∧ (∀ w ∈ g_ws, w.before args s = true) ∧ c.exceptionTable.toList = tableOf hh ∧ (w_ok G s ∧ (gw_H G).size ≤ s.heap.size ∧ ∀ a : Nat, a < (gw_H G).size → s.heap[a]? = (gw_H G)[a]?) ∧
  d ≤ R.frames ∧ 40 * d ≤ R.locals ∧ cells + k ≤ R.cells ∧ slots + n ≤ R.slots
/-- THE JUDGEMENT: from here the method returns or throws as Q says, with d more calls nested, k more cells of n more slots -/
def VV (G : GW) (d k n : Nat) (y : MethodName) (cc : ByteArray) (nL : Nat) (ret : Option FieldType) (hh : List (Nat × Nat × Nat × Nat)) (pc : Nat) (ls : List (Option PV)) (st : List PV) (h : PH) (Q : RS → PH → Prop) : Prop :=
  ∀ (p : Program) (e : Env) (R : Room) (s : State) (m : MethodId) (args : Array Value) (below : List Frame) (meth : Method) (c : Code) (H : Heap) (locs : List Loc) (cells slots : Nat) (h0 : PH) (l0 loc : Nat → Nat → Nat) (a : Array Slot),
    vv_C G d k n y cc nL ret hh p R s m args meth c cells slots → hp_Rep G loc h H → hp_ext h0 l0 h loc → (∀ q ∈ locs, (gw_H G).size ≤ q.base) → lv_ok loc a nL ls → ok_s h st → ok_l h ls →
    W p (gw_l G) e R s m args below meth c H locs cells slots (vx_MQ below (vv_Q G h0 l0 Q) (vv_X G h0 l0 Q) args s R.cells R.slots (fun q => (gw_H G).size ≤ q)) (F0 m pc a (st.map (pv_c loc)))
theorem vv_C.less {G : GW} {d k n d' k' n' : Nat} {y : MethodName} {cc : ByteArray} {nL : Nat} {ret : Option FieldType} {hh : List (Nat × Nat × Nat × Nat)} {p : Program} {R : Room} {s : State} {m : MethodId} {args : Array Value} {meth : Method} {c : Code} {cells slots : Nat}
    (C : vv_C G d k n y cc nL ret hh p R s m args meth c cells slots) (hd : d' ≤ d) (hk : k' ≤ k) (hn : n' ≤ n) : vv_C G d' k' n' y cc nL ret hh p R s m args meth c cells slots := by
  obtain ⟨c1, c2, c3, c4, c5, c6, c7, c8, c9, c10, c11, c12, c13, c14⟩ := C
  exact ⟨c1, c2, c3, c4, c5, c6, c7, c8, c9, c10, by omega, by omega, by omega, by omega⟩
section VVB
variable {G : GW} {d k n : Nat} {y : MethodName} {cc : ByteArray} {nL : Nat} {ret : Option FieldType} {hh : List (Nat × Nat × Nat × Nat)} {pc : Nat} {ls : List (Option PV)} {st : List PV} {h : PH} {Q : RS → PH → Prop}
theorem VV.mono {Q' : RS → PH → Prop} (hq : ∀ r h1, Q' r h1 → Q r h1) (k0 : VV G d k n y cc nL ret hh pc ls st h Q') : VV G d k n y cc nL ret hh pc ls st h Q := by
  intro p e R s m args below meth c H locs cells slots h0 l0 loc a C hR hE hL hl hs ho T hT X
  obtain ⟨t, a1, o, b1, b2, b3⟩ := k0 p e R s m args below meth c H locs cells slots h0 l0 loc a C hR hE hL hl hs ho T hT X
  refine ⟨t, a1, o, b1, b2, ?_⟩
  rcases b3 with ⟨⟨r, l1, h1, e1, e2, e3⟩, b4⟩ | ⟨q, e1, E, ce, L, ⟨l1, h1, e2, e3⟩, b4⟩
  · exact Or.inl ⟨⟨r, l1, h1, e1, hq _ _ e2, e3⟩, b4⟩
  · exact Or.inr ⟨q, e1, E, ce, L, ⟨l1, h1, hq _ _ e2, e3⟩, b4⟩
theorem VV.less {d' k' n' : Nat} (hd : d' ≤ d) (hk : k' ≤ k) (hn : n' ≤ n) (k0 : VV G d' k' n' y cc nL ret hh pc ls st h Q) : VV G d k n y cc nL ret hh pc ls st h Q := by
  intro p e R s m args below meth c H locs cells slots h0 l0 loc a C hR hE hL hl hs ho
  exact k0 p e R s m args below meth c H locs cells slots h0 l0 loc a (C.less hd hk hn) hR hE hL hl hs ho
/-- what the heap always has -/
theorem VV.know (k0 : hp_old G h → (∀ t i k, hp_al h t i = true → ok_r h (hp_vr h t i k)) → (∀ i, hp_al h 0 i = false) → VV G d k n y cc nL ret hh pc ls st h Q) : VV G d k n y cc nL ret hh pc ls st h Q := by
  intro p e R s m args below meth c H locs cells slots h0 l0 loc a C hR hE hL hl hs ho
  exact k0 hR.2.2.2.2.2.2.1 hR.2.2.2.2.2.1 hR.2.2.2.2.1 p e R s m args below meth c H locs cells slots h0 l0 loc a C hR hE hL hl hs ho
end VVB
