section VVLW
variable {G : GW} {d k n : Nat} {y : MethodName} {cc : ByteArray} {nL : Nat} {ret : Option FieldType} {hh : List (Nat × Nat × Nat × Nat)} {pc : Nat} {ls : List (Option PV)} {st : List PV} {h : PH} {Q : RS → PH → Prop}
/-- a method with handlers, met -/
theorem vv_metW {loc : Nat → Nat → Nat} {as : List PV} {hh' : List (Nat × Nat × Nat × Nat)} (hy : plainName y.cls = true) (hn : (vv_fl as).length ≤ nL) (hV : VV G d k n y cc nL ret hh' 0 (vv_en nL as) [] h Q) :
    vx_Met (gw_l G) y (Cond.codeWith y cc nL ret hh' :: g_ws) (vv_R d k n) (vv_P G loc h as) (vv_Q G h loc Q) (vv_X G h loc Q) k n (fun q => (gw_H G).size ≤ q) := by
  refine vx_ofWH hy rfl ?_
  intro p e s m args below meth c s₁ B hml hP
  obtain ⟨rfl, hR, hW, hok⟩ := hP
  have hts : ∀ w ∈ Cond.codeWith y cc nL ret hh' :: g_ws, w.before (as.map (pv_c loc)).toArray s = true := atoms_spec B.pre
  rw [lg_entry_eq]
  have htab : c.exceptionTable.toList = tableOf hh' := vx_table (x := y) B (hts _ List.mem_cons_self)
  refine hV p e (vv_R d k n) s m _ below meth c s.heap [] 0 0 h loc loc _ ⟨B.exec, B.bytes, hml, B.returns, B.notSynchronized, (name_of_methodNamed B.named B.method).1, findClass_of_methodNamed B.named, fun w hw => hts w (List.mem_cons_of_mem _ hw), htab, ⟨hW, hR.2.2.2.1.1, hR.2.2.2.1.2⟩, Nat.le_refl _, Nat.le_refl _, by show 0 + k ≤ k; omega, by show 0 + n ≤ n; omega⟩ hR (fun _ _ h9 => ⟨h9, rfl⟩) (fun _ h9 => by cases h9) (vv_en_ok as hn) trivial (ok_app (ok_fl hok) (ok_rep _))
def md_okW (y : MethodName) (cc : ByteArray) (nL : Nat) (ret : Option FieldType) (hh : List (Nat × Nat × Nat × Nat)) (na : Nat) : Prop := Cond.codeWith y cc nL ret hh ∈ g_ws ∧ Cond.initialized y.cls ∈ g_ws ∧ plainName y.cls = true ∧ (y.cls ≠ "java/lang/invoke/MethodHandle" ∧ y.cls ≠ "java/lang/invoke/VarHandle") ∧ (parseMethodDescriptor y.desc).map (fun d => d.parameters.length) = some na ∧ nL ≤ 21
theorem v_invsW {y' : MethodName} {cc' : ByteArray} {nL' na ix d' k' n' k2 n2 : Nat} {ret' : Option FieldType} {hh' : List (Nat × Nat × Nat × Nat)} {ls' : List (Option PV)} (q : Nat) (as : List PV) (hd : decode cc pc = .ok (.invokestatic ix, 3)) (hl9 : Cond.methodLink y.cls ix y' ∈ g_ws) (hm : md_okW y' cc' nL' ret' hh' na) (hs9 : Cond.static y' ∈ g_ws) (hna : as.length = na) (hls : vv_en nL' as = ls') (hfl : (vv_fl as).length ≤ nL') (hst : g_fit st = true) (hd' : d' + 1 ≤ d) (hk : k2 + k' = k) (hn : n2 + n' = n) (hq : pc + 3 = q) {stk : List PV} (hstk : as.reverse ++ st = stk)
    (K : VV G d' k' n' y' cc' nL' ret' hh' 0 ls' [] h (vv_K G d k2 n2 y cc nL ret hh pc q ls st Q)) : VV G d k n y cc nL ret hh pc ls stk h Q := by
  intro p e R s m args below meth c H locs cells slots h0 l0 loc a C hR hE hL hl hs ho
  subst hq
  subst hls
  subst hstk
  obtain ⟨oka, oks⟩ := ok_rev hs
  obtain ⟨m2, m3, m4, m5, m6, m7⟩ := id hm
  have hroom : cells + k' ≤ R.cells ∧ slots + n' ≤ R.slots := by
    have h1 := C.2.2.2.2.2.2.2.2.2.2.2.2.1
    have h2 := C.2.2.2.2.2.2.2.2.2.2.2.2.2
    omega
  have hcw : vx_CSW R s args y.cls ix y' cc' nL' ret' hh' (Cond.codeWith y' cc' nL' ret' hh' :: g_ws) (vv_R d' k' n') k' n' na := by
    obtain ⟨c1, c2, c3, c4, c5, c6, c7, c8, c9, c10, c11, c12, c13, c14⟩ := id C
    refine ⟨⟨rfl, rfl, by show d' + 1 ≤ _; omega, by show 8 + (nL' + 11) + 40 * d' ≤ _; omega, fun w hw => ?_, List.mem_cons_self⟩, c8 _ m2, c8 _ m3, m5, g_sig m6, c8 _ hl9, c8 _ hs9⟩
    rcases List.mem_cons.mp hw with rfl | hw
    · exact g_good c8 _ m2
    · exact g_good c8 _ hw
  refine vv_run (ar := (as.map (pv_c loc)).toArray) (vx_runSX (As := as.map (pv_c loc)) (rest := st.map (pv_c loc)) ⟨C.1, C.2.1, C.2.2.1, C.2.2.2.2.2.2.1, C.2.2.2.2.2.2.2.1⟩ (vv_metW (loc := loc) (as := as) m4 hfl K) hcw ⟨vv_blind, vv_pre hR C.2.2.2.2.2.2.2.2.2.1.1 oka⟩ rfl (by rw [List.length_map]; exact hna) hl.1 (by rw [List.map_append, List.map_reverse]) ?_ hd hroom) C hk hn hE hL hl oks ho (fun _ _ h9 => h9)
  rw [hp_cats, show JFrame.monitorRoom _ = 0 from rfl, Nat.mul_zero, Nat.zero_add]
  exact of_decide_eq_true hst
end VVLW
set_option maxRecDepth 20000 in
theorem cl_L_13 : Cond.classLink RL 13 "java/lang/IllegalArgumentException" ∈ g_ws := (g_at 252 (by decide +kernel) (by decide +kernel))
set_option maxRecDepth 20000 in
theorem cl_L_15 : Cond.classLink RL 15 "java/lang/IllegalStateException" ∈ g_ws := (g_at 253 (by decide +kernel) (by decide +kernel))
set_option maxRecDepth 20000 in
theorem cl_L_21 : Cond.classLink RL 21 "java/lang/IndexOutOfBoundsException" ∈ g_ws := (g_at 531 (by decide +kernel) (by decide +kernel))
set_option maxRecDepth 20000 in
theorem cl_L_23 : Cond.classLink RL 23 "java/lang/UnsupportedOperationException" ∈ g_ws := (g_at 563 (by decide +kernel) (by decide +kernel))
set_option maxRecDepth 20000 in
theorem cl_L_58 : Cond.classLink RL 58 "java/util/NoSuchElementException" ∈ g_ws := (g_at 871 (by decide +kernel) (by decide +kernel))
set_option maxRecDepth 20000 in
theorem cl_L_146 : Cond.classLink RL 146 "java/lang/ArithmeticException" ∈ g_ws := (g_at 1212 (by decide +kernel) (by decide +kernel))
set_option maxRecDepth 20000 in
theorem md_L_log : md_okW yL_log cL_log 7 (some .int) [(0, 14, 17, 13), (0, 14, 21, 15)] 6 := ⟨g_at 251 (by decide +kernel) (by decide +kernel), (g_at 37 (by decide +kernel) (by decide +kernel)), by decide, ⟨by decide, by decide⟩, by decide +kernel, by decide⟩
set_option maxRecDepth 20000 in
theorem ms_L_log : Cond.static yL_log ∈ g_ws := (g_at 250 (by decide +kernel) (by decide +kernel))
set_option maxRecDepth 20000 in
theorem lk_L_156 : Cond.methodLink RL 156 yL_log ∈ g_ws := (g_at 249 (by decide +kernel) (by decide +kernel))
set_option maxRecDepth 20000 in
theorem md_L_slice : md_okW yL_slice cL_slice 6 (some .int) [(0, 12, 15, 21), (0, 12, 19, 13), (0, 12, 23, 23)] 5 := ⟨g_at 530 (by decide +kernel) (by decide +kernel), (g_at 37 (by decide +kernel) (by decide +kernel)), by decide, ⟨by decide, by decide⟩, by decide +kernel, by decide⟩
set_option maxRecDepth 20000 in
theorem ms_L_slice : Cond.static yL_slice ∈ g_ws := (g_at 529 (by decide +kernel) (by decide +kernel))
set_option maxRecDepth 20000 in
theorem lk_L_165 : Cond.methodLink RL 165 yL_slice ∈ g_ws := (g_at 528 (by decide +kernel) (by decide +kernel))
set_option maxRecDepth 20000 in
theorem md_L_leaves : md_okW yL_leaves cL_leaves 4 (some .int) [(0, 9, 12, 21)] 3 := ⟨g_at 673 (by decide +kernel) (by decide +kernel), (g_at 37 (by decide +kernel) (by decide +kernel)), by decide, ⟨by decide, by decide⟩, by decide +kernel, by decide⟩
set_option maxRecDepth 20000 in
theorem ms_L_leaves : Cond.static yL_leaves ∈ g_ws := (g_at 672 (by decide +kernel) (by decide +kernel))
set_option maxRecDepth 20000 in
theorem lk_L_169 : Cond.methodLink RL 169 yL_leaves ∈ g_ws := (g_at 671 (by decide +kernel) (by decide +kernel))
set_option maxRecDepth 20000 in
theorem md_L_width : md_okW yL_width cL_width 5 (some .int) [(0, 10, 13, 21)] 4 := ⟨g_at 684 (by decide +kernel) (by decide +kernel), (g_at 37 (by decide +kernel) (by decide +kernel)), by decide, ⟨by decide, by decide⟩, by decide +kernel, by decide⟩
set_option maxRecDepth 20000 in
theorem ms_L_width : Cond.static yL_width ∈ g_ws := (g_at 683 (by decide +kernel) (by decide +kernel))
set_option maxRecDepth 20000 in
theorem lk_L_173 : Cond.methodLink RL 173 yL_width ∈ g_ws := (g_at 682 (by decide +kernel) (by decide +kernel))
set_option maxRecDepth 20000 in
theorem md_L_area : md_okW yL_area cL_area 5 (some .int) [(0, 10, 13, 21)] 4 := ⟨g_at 700 (by decide +kernel) (by decide +kernel), (g_at 37 (by decide +kernel) (by decide +kernel)), by decide, ⟨by decide, by decide⟩, by decide +kernel, by decide⟩
set_option maxRecDepth 20000 in
theorem ms_L_area : Cond.static yL_area ∈ g_ws := (g_at 699 (by decide +kernel) (by decide +kernel))
set_option maxRecDepth 20000 in
theorem lk_L_177 : Cond.methodLink RL 177 yL_area ∈ g_ws := (g_at 698 (by decide +kernel) (by decide +kernel))
set_option maxRecDepth 20000 in
theorem md_L_figure : md_okW yL_figure cL_figure 5 (some .int) [(0, 10, 13, 21)] 4 := ⟨g_at 707 (by decide +kernel) (by decide +kernel), (g_at 37 (by decide +kernel) (by decide +kernel)), by decide, ⟨by decide, by decide⟩, by decide +kernel, by decide⟩
set_option maxRecDepth 20000 in
theorem ms_L_figure : Cond.static yL_figure ∈ g_ws := (g_at 706 (by decide +kernel) (by decide +kernel))
set_option maxRecDepth 20000 in
theorem lk_L_180 : Cond.methodLink RL 180 yL_figure ∈ g_ws := (g_at 705 (by decide +kernel) (by decide +kernel))
set_option maxRecDepth 20000 in
theorem md_L_isUsed : md_okW yL_isUsed cL_isUsed 5 (some .int) [(0, 17, 20, 21)] 4 := ⟨g_at 718 (by decide +kernel) (by decide +kernel), (g_at 37 (by decide +kernel) (by decide +kernel)), by decide, ⟨by decide, by decide⟩, by decide +kernel, by decide⟩
set_option maxRecDepth 20000 in
theorem ms_L_isUsed : Cond.static yL_isUsed ∈ g_ws := (g_at 717 (by decide +kernel) (by decide +kernel))
set_option maxRecDepth 20000 in
theorem lk_L_183 : Cond.methodLink RL 183 yL_isUsed ∈ g_ws := (g_at 716 (by decide +kernel) (by decide +kernel))
set_option maxRecDepth 20000 in
theorem md_L_panel : md_okW yL_panel cL_panel 7 (some .int) [(0, 14, 17, 13), (0, 14, 21, 15)] 6 := ⟨g_at 725 (by decide +kernel) (by decide +kernel), (g_at 37 (by decide +kernel) (by decide +kernel)), by decide, ⟨by decide, by decide⟩, by decide +kernel, by decide⟩
set_option maxRecDepth 20000 in
theorem ms_L_panel : Cond.static yL_panel ∈ g_ws := (g_at 724 (by decide +kernel) (by decide +kernel))
set_option maxRecDepth 20000 in
theorem lk_L_186 : Cond.methodLink RL 186 yL_panel ∈ g_ws := (g_at 723 (by decide +kernel) (by decide +kernel))
set_option maxRecDepth 20000 in
theorem md_L_face : md_okW yL_face cL_face 8 (some .int) [(0, 16, 19, 21), (0, 16, 23, 13), (0, 16, 27, 23)] 7 := ⟨g_at 793 (by decide +kernel) (by decide +kernel), (g_at 37 (by decide +kernel) (by decide +kernel)), by decide, ⟨by decide, by decide⟩, by decide +kernel, by decide⟩
set_option maxRecDepth 20000 in
theorem ms_L_face : Cond.static yL_face ∈ g_ws := (g_at 792 (by decide +kernel) (by decide +kernel))
set_option maxRecDepth 20000 in
theorem lk_L_190 : Cond.methodLink RL 190 yL_face ∈ g_ws := (g_at 791 (by decide +kernel) (by decide +kernel))
set_option maxRecDepth 20000 in
theorem md_L_back : md_okW yL_back cL_back 7 (some .int) [(0, 14, 17, 21), (0, 14, 21, 13), (0, 14, 25, 23)] 6 := ⟨g_at 863 (by decide +kernel) (by decide +kernel), (g_at 37 (by decide +kernel) (by decide +kernel)), by decide, ⟨by decide, by decide⟩, by decide +kernel, by decide⟩
set_option maxRecDepth 20000 in
theorem ms_L_back : Cond.static yL_back ∈ g_ws := (g_at 862 (by decide +kernel) (by decide +kernel))
set_option maxRecDepth 20000 in
theorem lk_L_194 : Cond.methodLink RL 194 yL_back ∈ g_ws := (g_at 861 (by decide +kernel) (by decide +kernel))
set_option maxRecDepth 20000 in
theorem md_L_jump : md_okW yL_jump cL_jump 4 (some .int) [(0, 9, 12, 21), (0, 9, 15, 58)] 3 := ⟨g_at 870 (by decide +kernel) (by decide +kernel), (g_at 37 (by decide +kernel) (by decide +kernel)), by decide, ⟨by decide, by decide⟩, by decide +kernel, by decide⟩
set_option maxRecDepth 20000 in
theorem ms_L_jump : Cond.static yL_jump ∈ g_ws := (g_at 869 (by decide +kernel) (by decide +kernel))
set_option maxRecDepth 20000 in
theorem lk_L_198 : Cond.methodLink RL 198 yL_jump ∈ g_ws := (g_at 868 (by decide +kernel) (by decide +kernel))
set_option maxRecDepth 20000 in
theorem md_L_bestFirst : md_okW yL_bestFirst cL_bestFirst 7 (some .int) [(0, 14, 17, 21), (0, 14, 21, 13), (0, 14, 25, 58)] 6 := ⟨g_at 893 (by decide +kernel) (by decide +kernel), (g_at 37 (by decide +kernel) (by decide +kernel)), by decide, ⟨by decide, by decide⟩, by decide +kernel, by decide⟩
set_option maxRecDepth 20000 in
theorem ms_L_bestFirst : Cond.static yL_bestFirst ∈ g_ws := (g_at 892 (by decide +kernel) (by decide +kernel))
set_option maxRecDepth 20000 in
theorem lk_L_201 : Cond.methodLink RL 201 yL_bestFirst ∈ g_ws := (g_at 891 (by decide +kernel) (by decide +kernel))
set_option maxRecDepth 20000 in
theorem md_L_press : md_okW yL_press cL_press 7 (some .int) [(0, 14, 17, 21), (0, 14, 21, 13), (0, 14, 25, 23)] 6 := ⟨g_at 900 (by decide +kernel) (by decide +kernel), (g_at 37 (by decide +kernel) (by decide +kernel)), by decide, ⟨by decide, by decide⟩, by decide +kernel, by decide⟩
set_option maxRecDepth 20000 in
theorem ms_L_press : Cond.static yL_press ∈ g_ws := (g_at 899 (by decide +kernel) (by decide +kernel))
set_option maxRecDepth 20000 in
theorem lk_L_205 : Cond.methodLink RL 205 yL_press ∈ g_ws := (g_at 898 (by decide +kernel) (by decide +kernel))
set_option maxRecDepth 20000 in
theorem md_L_slit : md_okW yL_slit cL_slit 4 (some .int) [(0, 9, 12, 21), (0, 9, 15, 58)] 3 := ⟨g_at 907 (by decide +kernel) (by decide +kernel), (g_at 37 (by decide +kernel) (by decide +kernel)), by decide, ⟨by decide, by decide⟩, by decide +kernel, by decide⟩
set_option maxRecDepth 20000 in
theorem ms_L_slit : Cond.static yL_slit ∈ g_ws := (g_at 906 (by decide +kernel) (by decide +kernel))
set_option maxRecDepth 20000 in
theorem lk_L_208 : Cond.methodLink RL 208 yL_slit ∈ g_ws := (g_at 905 (by decide +kernel) (by decide +kernel))
set_option maxRecDepth 20000 in
theorem md_L_air : md_okW yL_air cL_air 4 (some .int) [(0, 9, 12, 13)] 3 := ⟨g_at 914 (by decide +kernel) (by decide +kernel), (g_at 37 (by decide +kernel) (by decide +kernel)), by decide, ⟨by decide, by decide⟩, by decide +kernel, by decide⟩
set_option maxRecDepth 20000 in
theorem ms_L_air : Cond.static yL_air ∈ g_ws := (g_at 913 (by decide +kernel) (by decide +kernel))
set_option maxRecDepth 20000 in
theorem lk_L_211 : Cond.methodLink RL 211 yL_air ∈ g_ws := (g_at 912 (by decide +kernel) (by decide +kernel))
set_option maxRecDepth 20000 in
theorem md_L_cup : md_okW yL_cup cL_cup 5 (some .int) [(0, 10, 13, 21), (0, 10, 17, 13), (0, 10, 21, 23)] 4 := ⟨g_at 921 (by decide +kernel) (by decide +kernel), (g_at 37 (by decide +kernel) (by decide +kernel)), by decide, ⟨by decide, by decide⟩, by decide +kernel, by decide⟩
set_option maxRecDepth 20000 in
theorem ms_L_cup : Cond.static yL_cup ∈ g_ws := (g_at 920 (by decide +kernel) (by decide +kernel))
set_option maxRecDepth 20000 in
theorem lk_L_214 : Cond.methodLink RL 214 yL_cup ∈ g_ws := (g_at 919 (by decide +kernel) (by decide +kernel))
set_option maxRecDepth 20000 in
theorem md_L_isFlat : md_okW yL_isFlat cL_isFlat 4 (some .int) [(0, 16, 19, 21), (0, 16, 22, 23)] 3 := ⟨g_at 942 (by decide +kernel) (by decide +kernel), (g_at 37 (by decide +kernel) (by decide +kernel)), by decide, ⟨by decide, by decide⟩, by decide +kernel, by decide⟩
set_option maxRecDepth 20000 in
theorem ms_L_isFlat : Cond.static yL_isFlat ∈ g_ws := (g_at 941 (by decide +kernel) (by decide +kernel))
set_option maxRecDepth 20000 in
theorem lk_L_217 : Cond.methodLink RL 217 yL_isFlat ∈ g_ws := (g_at 940 (by decide +kernel) (by decide +kernel))
set_option maxRecDepth 20000 in
theorem md_L_cupMonth : md_okW yL_cupMonth cL_cupMonth 4 (some .int) [(0, 9, 12, 21), (0, 9, 15, 23), (0, 9, 18, 58)] 3 := ⟨g_at 955 (by decide +kernel) (by decide +kernel), (g_at 37 (by decide +kernel) (by decide +kernel)), by decide, ⟨by decide, by decide⟩, by decide +kernel, by decide⟩
set_option maxRecDepth 20000 in
theorem ms_L_cupMonth : Cond.static yL_cupMonth ∈ g_ws := (g_at 954 (by decide +kernel) (by decide +kernel))
set_option maxRecDepth 20000 in
theorem lk_L_220 : Cond.methodLink RL 220 yL_cupMonth ∈ g_ws := (g_at 953 (by decide +kernel) (by decide +kernel))
set_option maxRecDepth 20000 in
theorem md_L_scrape : md_okW yL_scrape cL_scrape 5 (some .int) [(0, 10, 13, 21), (0, 10, 17, 13), (0, 10, 21, 23)] 4 := ⟨g_at 965 (by decide +kernel) (by decide +kernel), (g_at 37 (by decide +kernel) (by decide +kernel)), by decide, ⟨by decide, by decide⟩, by decide +kernel, by decide⟩
set_option maxRecDepth 20000 in
theorem ms_L_scrape : Cond.static yL_scrape ∈ g_ws := (g_at 964 (by decide +kernel) (by decide +kernel))
set_option maxRecDepth 20000 in
theorem lk_L_223 : Cond.methodLink RL 223 yL_scrape ∈ g_ws := (g_at 963 (by decide +kernel) (by decide +kernel))
set_option maxRecDepth 20000 in
theorem md_L_isThrough : md_okW yL_isThrough cL_isThrough 4 (some .int) [(0, 16, 19, 21)] 3 := ⟨g_at 976 (by decide +kernel) (by decide +kernel), (g_at 37 (by decide +kernel) (by decide +kernel)), by decide, ⟨by decide, by decide⟩, by decide +kernel, by decide⟩
set_option maxRecDepth 20000 in
theorem ms_L_isThrough : Cond.static yL_isThrough ∈ g_ws := (g_at 975 (by decide +kernel) (by decide +kernel))
set_option maxRecDepth 20000 in
theorem lk_L_226 : Cond.methodLink RL 226 yL_isThrough ∈ g_ws := (g_at 974 (by decide +kernel) (by decide +kernel))
set_option maxRecDepth 20000 in
theorem md_L_pad : md_okW yL_pad cL_pad 5 (some .int) [(0, 10, 13, 21), (0, 10, 17, 13), (0, 10, 21, 23)] 4 := ⟨g_at 983 (by decide +kernel) (by decide +kernel), (g_at 37 (by decide +kernel) (by decide +kernel)), by decide, ⟨by decide, by decide⟩, by decide +kernel, by decide⟩
set_option maxRecDepth 20000 in
theorem ms_L_pad : Cond.static yL_pad ∈ g_ws := (g_at 982 (by decide +kernel) (by decide +kernel))
set_option maxRecDepth 20000 in
theorem lk_L_229 : Cond.methodLink RL 229 yL_pad ∈ g_ws := (g_at 981 (by decide +kernel) (by decide +kernel))
set_option maxRecDepth 20000 in
theorem md_L_ghosts : md_okW yL_ghosts cL_ghosts 4 (some .int) [(0, 9, 12, 21)] 3 := ⟨g_at 996 (by decide +kernel) (by decide +kernel), (g_at 37 (by decide +kernel) (by decide +kernel)), by decide, ⟨by decide, by decide⟩, by decide +kernel, by decide⟩
set_option maxRecDepth 20000 in
theorem ms_L_ghosts : Cond.static yL_ghosts ∈ g_ws := (g_at 995 (by decide +kernel) (by decide +kernel))
set_option maxRecDepth 20000 in
theorem lk_L_236 : Cond.methodLink RL 236 yL_ghosts ∈ g_ws := (g_at 994 (by decide +kernel) (by decide +kernel))
set_option maxRecDepth 20000 in
theorem md_L_picture : md_okW yL_picture cL_picture 3 (some .int) [(0, 8, 11, 15)] 2 := ⟨g_at 1003 (by decide +kernel) (by decide +kernel), (g_at 37 (by decide +kernel) (by decide +kernel)), by decide, ⟨by decide, by decide⟩, by decide +kernel, by decide⟩
set_option maxRecDepth 20000 in
theorem ms_L_picture : Cond.static yL_picture ∈ g_ws := (g_at 1002 (by decide +kernel) (by decide +kernel))
set_option maxRecDepth 20000 in
theorem lk_L_239 : Cond.methodLink RL 239 yL_picture ∈ g_ws := (g_at 1001 (by decide +kernel) (by decide +kernel))
set_option maxRecDepth 20000 in
theorem md_L_draw : md_okW yL_draw cL_draw 8 (some .int) [(0, 16, 19, 21), (0, 16, 23, 13), (0, 16, 27, 23)] 7 := ⟨g_at 1043 (by decide +kernel) (by decide +kernel), (g_at 37 (by decide +kernel) (by decide +kernel)), by decide, ⟨by decide, by decide⟩, by decide +kernel, by decide⟩
set_option maxRecDepth 20000 in
theorem ms_L_draw : Cond.static yL_draw ∈ g_ws := (g_at 1042 (by decide +kernel) (by decide +kernel))
set_option maxRecDepth 20000 in
theorem lk_L_243 : Cond.methodLink RL 243 yL_draw ∈ g_ws := (g_at 1041 (by decide +kernel) (by decide +kernel))
set_option maxRecDepth 20000 in
theorem md_L_fieldAt : md_okW yL_fieldAt cL_fieldAt 6 (some .int) [(0, 12, 15, 21)] 5 := ⟨g_at 1087 (by decide +kernel) (by decide +kernel), (g_at 37 (by decide +kernel) (by decide +kernel)), by decide, ⟨by decide, by decide⟩, by decide +kernel, by decide⟩
set_option maxRecDepth 20000 in
theorem ms_L_fieldAt : Cond.static yL_fieldAt ∈ g_ws := (g_at 1086 (by decide +kernel) (by decide +kernel))
set_option maxRecDepth 20000 in
theorem lk_L_246 : Cond.methodLink RL 246 yL_fieldAt ∈ g_ws := (g_at 1085 (by decide +kernel) (by decide +kernel))
set_option maxRecDepth 20000 in
theorem md_L_pieces : md_okW yL_pieces cL_pieces 4 (some .int) [(0, 9, 12, 21)] 3 := ⟨g_at 1099 (by decide +kernel) (by decide +kernel), (g_at 37 (by decide +kernel) (by decide +kernel)), by decide, ⟨by decide, by decide⟩, by decide +kernel, by decide⟩
set_option maxRecDepth 20000 in
theorem ms_L_pieces : Cond.static yL_pieces ∈ g_ws := (g_at 1098 (by decide +kernel) (by decide +kernel))
set_option maxRecDepth 20000 in
theorem lk_L_250 : Cond.methodLink RL 250 yL_pieces ∈ g_ws := (g_at 1097 (by decide +kernel) (by decide +kernel))
set_option maxRecDepth 20000 in
theorem md_L_islands : md_okW yL_islands cL_islands 4 (some .int) [(0, 9, 12, 21)] 3 := ⟨g_at 1106 (by decide +kernel) (by decide +kernel), (g_at 37 (by decide +kernel) (by decide +kernel)), by decide, ⟨by decide, by decide⟩, by decide +kernel, by decide⟩
set_option maxRecDepth 20000 in
theorem ms_L_islands : Cond.static yL_islands ∈ g_ws := (g_at 1105 (by decide +kernel) (by decide +kernel))
set_option maxRecDepth 20000 in
theorem lk_L_253 : Cond.methodLink RL 253 yL_islands ∈ g_ws := (g_at 1104 (by decide +kernel) (by decide +kernel))
set_option maxRecDepth 20000 in
theorem md_L_saw : md_okW yL_saw cL_saw 7 (some .int) [(0, 14, 17, 21), (0, 14, 21, 13), (0, 14, 25, 23)] 6 := ⟨g_at 1113 (by decide +kernel) (by decide +kernel), (g_at 37 (by decide +kernel) (by decide +kernel)), by decide, ⟨by decide, by decide⟩, by decide +kernel, by decide⟩
set_option maxRecDepth 20000 in
theorem ms_L_saw : Cond.static yL_saw ∈ g_ws := (g_at 1112 (by decide +kernel) (by decide +kernel))
set_option maxRecDepth 20000 in
theorem lk_L_256 : Cond.methodLink RL 256 yL_saw ∈ g_ws := (g_at 1111 (by decide +kernel) (by decide +kernel))
set_option maxRecDepth 20000 in
theorem md_L_leafAt : md_okW yL_leafAt cL_leafAt 7 (some .int) [(0, 14, 17, 21), (0, 14, 21, 58)] 6 := ⟨g_at 1120 (by decide +kernel) (by decide +kernel), (g_at 37 (by decide +kernel) (by decide +kernel)), by decide, ⟨by decide, by decide⟩, by decide +kernel, by decide⟩
set_option maxRecDepth 20000 in
theorem ms_L_leafAt : Cond.static yL_leafAt ∈ g_ws := (g_at 1119 (by decide +kernel) (by decide +kernel))
set_option maxRecDepth 20000 in
theorem lk_L_259 : Cond.methodLink RL 259 yL_leafAt ∈ g_ws := (g_at 1118 (by decide +kernel) (by decide +kernel))
set_option maxRecDepth 20000 in
theorem md_L_contrast : md_okW yL_contrast cL_contrast 5 (some .int) [(0, 10, 13, 21), (0, 10, 17, 58)] 4 := ⟨g_at 1134 (by decide +kernel) (by decide +kernel), (g_at 37 (by decide +kernel) (by decide +kernel)), by decide, ⟨by decide, by decide⟩, by decide +kernel, by decide⟩
set_option maxRecDepth 20000 in
theorem ms_L_contrast : Cond.static yL_contrast ∈ g_ws := (g_at 1133 (by decide +kernel) (by decide +kernel))
set_option maxRecDepth 20000 in
theorem lk_L_262 : Cond.methodLink RL 262 yL_contrast ∈ g_ws := (g_at 1132 (by decide +kernel) (by decide +kernel))
set_option maxRecDepth 20000 in
theorem md_L_sand : md_okW yL_sand cL_sand 7 (some .int) [(0, 14, 17, 21), (0, 14, 21, 13), (0, 14, 25, 23)] 6 := ⟨g_at 1145 (by decide +kernel) (by decide +kernel), (g_at 37 (by decide +kernel) (by decide +kernel)), by decide, ⟨by decide, by decide⟩, by decide +kernel, by decide⟩
set_option maxRecDepth 20000 in
theorem ms_L_sand : Cond.static yL_sand ∈ g_ws := (g_at 1144 (by decide +kernel) (by decide +kernel))
set_option maxRecDepth 20000 in
theorem lk_L_265 : Cond.methodLink RL 265 yL_sand ∈ g_ws := (g_at 1143 (by decide +kernel) (by decide +kernel))
set_option maxRecDepth 20000 in
theorem md_L_burnt : md_okW yL_burnt cL_burnt 4 (some .int) [(0, 9, 12, 21)] 3 := ⟨g_at 1157 (by decide +kernel) (by decide +kernel), (g_at 37 (by decide +kernel) (by decide +kernel)), by decide, ⟨by decide, by decide⟩, by decide +kernel, by decide⟩
set_option maxRecDepth 20000 in
theorem ms_L_burnt : Cond.static yL_burnt ∈ g_ws := (g_at 1156 (by decide +kernel) (by decide +kernel))
set_option maxRecDepth 20000 in
theorem lk_L_269 : Cond.methodLink RL 269 yL_burnt ∈ g_ws := (g_at 1155 (by decide +kernel) (by decide +kernel))
set_option maxRecDepth 20000 in
theorem md_L_gap : md_okW yL_gap cL_gap 6 (some .int) [(0, 12, 15, 13)] 5 := ⟨g_at 1168 (by decide +kernel) (by decide +kernel), (g_at 37 (by decide +kernel) (by decide +kernel)), by decide, ⟨by decide, by decide⟩, by decide +kernel, by decide⟩
set_option maxRecDepth 20000 in
theorem ms_L_gap : Cond.static yL_gap ∈ g_ws := (g_at 1167 (by decide +kernel) (by decide +kernel))
set_option maxRecDepth 20000 in
theorem lk_L_272 : Cond.methodLink RL 272 yL_gap ∈ g_ws := (g_at 1166 (by decide +kernel) (by decide +kernel))
set_option maxRecDepth 20000 in
theorem md_L_takeOffcut : md_okW yL_takeOffcut cL_takeOffcut 5 (some .int) [(0, 10, 13, 13), (0, 10, 17, 58)] 4 := ⟨g_at 1177 (by decide +kernel) (by decide +kernel), (g_at 37 (by decide +kernel) (by decide +kernel)), by decide, ⟨by decide, by decide⟩, by decide +kernel, by decide⟩
set_option maxRecDepth 20000 in
theorem ms_L_takeOffcut : Cond.static yL_takeOffcut ∈ g_ws := (g_at 1176 (by decide +kernel) (by decide +kernel))
set_option maxRecDepth 20000 in
theorem lk_L_279 : Cond.methodLink RL 279 yL_takeOffcut ∈ g_ws := (g_at 1175 (by decide +kernel) (by decide +kernel))
set_option maxRecDepth 20000 in
theorem md_L_account : md_okW yL_account cL_account 4 (some .int) [(0, 9, 12, 13)] 3 := ⟨g_at 1197 (by decide +kernel) (by decide +kernel), (g_at 37 (by decide +kernel) (by decide +kernel)), by decide, ⟨by decide, by decide⟩, by decide +kernel, by decide⟩
set_option maxRecDepth 20000 in
theorem ms_L_account : Cond.static yL_account ∈ g_ws := (g_at 1196 (by decide +kernel) (by decide +kernel))
set_option maxRecDepth 20000 in
theorem lk_L_282 : Cond.methodLink RL 282 yL_account ∈ g_ws := (g_at 1195 (by decide +kernel) (by decide +kernel))
set_option maxRecDepth 20000 in
theorem md_L_price : md_okW yL_price cL_price 4 (some .int) [(0, 9, 12, 21)] 3 := ⟨g_at 1204 (by decide +kernel) (by decide +kernel), (g_at 37 (by decide +kernel) (by decide +kernel)), by decide, ⟨by decide, by decide⟩, by decide +kernel, by decide⟩
set_option maxRecDepth 20000 in
theorem ms_L_price : Cond.static yL_price ∈ g_ws := (g_at 1203 (by decide +kernel) (by decide +kernel))
set_option maxRecDepth 20000 in
theorem lk_L_286 : Cond.methodLink RL 286 yL_price ∈ g_ws := (g_at 1202 (by decide +kernel) (by decide +kernel))
set_option maxRecDepth 20000 in
theorem md_L_usedShare : md_okW yL_usedShare cL_usedShare 3 (some .int) [(0, 8, 11, 146)] 2 := ⟨g_at 1211 (by decide +kernel) (by decide +kernel), (g_at 37 (by decide +kernel) (by decide +kernel)), by decide, ⟨by decide, by decide⟩, by decide +kernel, by decide⟩
set_option maxRecDepth 20000 in
theorem ms_L_usedShare : Cond.static yL_usedShare ∈ g_ws := (g_at 1210 (by decide +kernel) (by decide +kernel))
set_option maxRecDepth 20000 in
theorem lk_L_289 : Cond.methodLink RL 289 yL_usedShare ∈ g_ws := (g_at 1209 (by decide +kernel) (by decide +kernel))
set_option maxRecDepth 20000 in
theorem md_L_meanFigure : md_okW yL_meanFigure cL_meanFigure 3 (some .int) [(0, 7, 10, 146)] 2 := ⟨g_at 1237 (by decide +kernel) (by decide +kernel), (g_at 37 (by decide +kernel) (by decide +kernel)), by decide, ⟨by decide, by decide⟩, by decide +kernel, by decide⟩
set_option maxRecDepth 20000 in
theorem ms_L_meanFigure : Cond.static yL_meanFigure ∈ g_ws := (g_at 1236 (by decide +kernel) (by decide +kernel))
set_option maxRecDepth 20000 in
theorem lk_L_293 : Cond.methodLink RL 293 yL_meanFigure ∈ g_ws := (g_at 1235 (by decide +kernel) (by decide +kernel))
