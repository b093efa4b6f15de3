set_option maxRecDepth 20000 in
theorem nw_L_8 : nw_ok RL 8 10 11 := ⟨_, rfl, (g_at 78 (by decide +kernel) (by decide +kernel)), (g_at 79 (by decide +kernel) (by decide +kernel)), (g_at 38 (by decide +kernel) (by decide +kernel))⟩
set_option maxRecDepth 20000 in
theorem mt_L_152 : mt_ok RL 152 yX6_init cX6_init 1 (none) 0 := ⟨(g_at 80 (by decide +kernel) (by decide +kernel)), md_X6_init⟩
set_option maxRecDepth 20000 in
theorem nw_L_153 : nw_ok RL 153 16 13 := ⟨_, rfl, (g_at 1242 (by decide +kernel) (by decide +kernel)), (g_at 1243 (by decide +kernel) (by decide +kernel)), (g_at 42 (by decide +kernel) (by decide +kernel))⟩
set_option maxRecDepth 20000 in
theorem mt_L_155 : mt_ok RL 155 yX12_init cX12_init 1 (none) 0 := ⟨(g_at 1244 (by decide +kernel) (by decide +kernel)), md_X12_init⟩
set_option maxRecDepth 20000 in
theorem mt_L_161 : mt_ok RL 161 yX12_log cX12_log 5 (some .int) 4 := ⟨(g_at 1294 (by decide +kernel) (by decide +kernel)), md_X12_log⟩
set_option maxRecDepth 20000 in
theorem mt_L_162 : mt_ok RL 162 yX12_thrown cX12_thrown 1 (some .int) 0 := ⟨(g_at 1290 (by decide +kernel) (by decide +kernel)), md_X12_thrown⟩
set_option maxRecDepth 20000 in
theorem mt_L_168 : mt_ok RL 168 yX12_slice cX12_slice 4 (some .int) 3 := ⟨(g_at 1358 (by decide +kernel) (by decide +kernel)), md_X12_slice⟩
set_option maxRecDepth 20000 in
theorem mt_L_172 : mt_ok RL 172 yX12_leaves cX12_leaves 2 (some .int) 1 := ⟨(g_at 1399 (by decide +kernel) (by decide +kernel)), md_X12_leaves⟩
set_option maxRecDepth 20000 in
theorem mt_L_176 : mt_ok RL 176 yX12_width cX12_width 3 (some .int) 2 := ⟨(g_at 1403 (by decide +kernel) (by decide +kernel)), md_X12_width⟩
set_option maxRecDepth 20000 in
theorem mt_L_179 : mt_ok RL 179 yX12_area cX12_area 3 (some .int) 2 := ⟨(g_at 1422 (by decide +kernel) (by decide +kernel)), md_X12_area⟩
set_option maxRecDepth 20000 in
theorem mt_L_182 : mt_ok RL 182 yX12_figure cX12_figure 3 (some .int) 2 := ⟨(g_at 1431 (by decide +kernel) (by decide +kernel)), md_X12_figure⟩
set_option maxRecDepth 20000 in
theorem mt_L_185 : mt_ok RL 185 yX12_isUsed cX12_isUsed 3 (some .boolean) 2 := ⟨(g_at 1441 (by decide +kernel) (by decide +kernel)), md_X12_isUsed⟩
set_option maxRecDepth 20000 in
theorem mt_L_189 : mt_ok RL 189 yX12_panel cX12_panel 5 (some .int) 4 := ⟨(g_at 1445 (by decide +kernel) (by decide +kernel)), md_X12_panel⟩
set_option maxRecDepth 20000 in
theorem mt_L_193 : mt_ok RL 193 yX12_face cX12_face 9 (some .int) 5 := ⟨(g_at 1524 (by decide +kernel) (by decide +kernel)), md_X12_face⟩
set_option maxRecDepth 20000 in
theorem mt_L_197 : mt_ok RL 197 yX12_back cX12_back 7 (some .int) 4 := ⟨(g_at 1575 (by decide +kernel) (by decide +kernel)), md_X12_back⟩
set_option maxRecDepth 20000 in
theorem mt_L_200 : mt_ok RL 200 yX12_jump cX12_jump 2 (some .int) 1 := ⟨(g_at 1579 (by decide +kernel) (by decide +kernel)), md_X12_jump⟩
set_option maxRecDepth 20000 in
theorem mt_L_204 : mt_ok RL 204 yX12_bestFirst cX12_bestFirst 10 (some .int) 4 := ⟨(g_at 1583 (by decide +kernel) (by decide +kernel)), md_X12_bestFirst⟩
set_option maxRecDepth 20000 in
theorem mt_L_207 : mt_ok RL 207 yX12_press cX12_press 7 (some .int) 4 := ⟨(g_at 1587 (by decide +kernel) (by decide +kernel)), md_X12_press⟩
set_option maxRecDepth 20000 in
theorem mt_L_210 : mt_ok RL 210 yX12_slit cX12_slit 2 (some .int) 1 := ⟨(g_at 1598 (by decide +kernel) (by decide +kernel)), md_X12_slit⟩
set_option maxRecDepth 20000 in
theorem mt_L_213 : mt_ok RL 213 yX12_air cX12_air 3 (some .int) 1 := ⟨(g_at 1602 (by decide +kernel) (by decide +kernel)), md_X12_air⟩
set_option maxRecDepth 20000 in
theorem mt_L_216 : mt_ok RL 216 yX12_cup cX12_cup 3 (some .int) 2 := ⟨(g_at 1607 (by decide +kernel) (by decide +kernel)), md_X12_cup⟩
set_option maxRecDepth 20000 in
theorem mt_L_219 : mt_ok RL 219 yX12_isFlat_ cX12_isFlat_ 2 (some .boolean) 1 := ⟨(g_at 1619 (by decide +kernel) (by decide +kernel)), md_X12_isFlat_⟩
set_option maxRecDepth 20000 in
theorem mt_L_222 : mt_ok RL 222 yX12_cupMonth cX12_cupMonth 5 (some .int) 1 := ⟨(g_at 1628 (by decide +kernel) (by decide +kernel)), md_X12_cupMonth⟩
set_option maxRecDepth 20000 in
theorem mt_L_225 : mt_ok RL 225 yX12_scrape cX12_scrape 3 (some .int) 2 := ⟨(g_at 1636 (by decide +kernel) (by decide +kernel)), md_X12_scrape⟩
set_option maxRecDepth 20000 in
theorem mt_L_228 : mt_ok RL 228 yX12_isThrough cX12_isThrough 2 (some .boolean) 1 := ⟨(g_at 1645 (by decide +kernel) (by decide +kernel)), md_X12_isThrough⟩
set_option maxRecDepth 20000 in
theorem mt_L_231 : mt_ok RL 231 yX12_pad cX12_pad 5 (some .int) 2 := ⟨(g_at 1649 (by decide +kernel) (by decide +kernel)), md_X12_pad⟩
set_option maxRecDepth 20000 in
theorem mt_L_232 : mt_ok RL 232 yX6_rest cX6_rest 4 (some .int) 0 := ⟨(g_at 149 (by decide +kernel) (by decide +kernel)), md_X6_rest⟩
set_option maxRecDepth 20000 in
theorem mt_L_235 : mt_ok RL 235 yX12_rest cX12_rest 4 (some .int) 0 := ⟨(g_at 1654 (by decide +kernel) (by decide +kernel)), md_X12_rest⟩
set_option maxRecDepth 20000 in
theorem mt_L_238 : mt_ok RL 238 yX12_ghosts cX12_ghosts 2 (some .int) 1 := ⟨(g_at 1711 (by decide +kernel) (by decide +kernel)), md_X12_ghosts⟩
set_option maxRecDepth 20000 in
theorem mt_L_242 : mt_ok RL 242 yX12_picture cX12_picture 1 (some .int) 0 := ⟨(g_at 1715 (by decide +kernel) (by decide +kernel)), md_X12_picture⟩
set_option maxRecDepth 20000 in
theorem mt_L_245 : mt_ok RL 245 yX12_draw cX12_draw 7 (some .int) 5 := ⟨(g_at 1737 (by decide +kernel) (by decide +kernel)), md_X12_draw⟩
set_option maxRecDepth 20000 in
theorem mt_L_249 : mt_ok RL 249 yX12_fieldAt cX12_fieldAt 4 (some .char) 3 := ⟨(g_at 1773 (by decide +kernel) (by decide +kernel)), md_X12_fieldAt⟩
set_option maxRecDepth 20000 in
theorem mt_L_252 : mt_ok RL 252 yX12_pieces cX12_pieces 2 (some .int) 1 := ⟨(g_at 1781 (by decide +kernel) (by decide +kernel)), md_X12_pieces⟩
set_option maxRecDepth 20000 in
theorem mt_L_255 : mt_ok RL 255 yX12_islands cX12_islands 11 (some .int) 1 := ⟨(g_at 1785 (by decide +kernel) (by decide +kernel)), md_X12_islands⟩
set_option maxRecDepth 20000 in
theorem mt_L_258 : mt_ok RL 258 yX12_saw cX12_saw 9 (some .int) 4 := ⟨(g_at 1790 (by decide +kernel) (by decide +kernel)), md_X12_saw⟩
set_option maxRecDepth 20000 in
theorem mt_L_261 : mt_ok RL 261 yX12_leafAt cX12_leafAt 5 (some .int) 4 := ⟨(g_at 1795 (by decide +kernel) (by decide +kernel)), md_X12_leafAt⟩
set_option maxRecDepth 20000 in
theorem mt_L_264 : mt_ok RL 264 yX12_contrast cX12_contrast 8 (some .int) 2 := ⟨(g_at 1806 (by decide +kernel) (by decide +kernel)), md_X12_contrast⟩
set_option maxRecDepth 20000 in
theorem mt_L_268 : mt_ok RL 268 yX12_sand cX12_sand 6 (some .int) 4 := ⟨(g_at 1811 (by decide +kernel) (by decide +kernel)), md_X12_sand⟩
set_option maxRecDepth 20000 in
theorem mt_L_271 : mt_ok RL 271 yX12_burnt cX12_burnt 7 (some .int) 1 := ⟨(g_at 1816 (by decide +kernel) (by decide +kernel)), md_X12_burnt⟩
set_option maxRecDepth 20000 in
theorem mt_L_274 : mt_ok RL 274 yX12_gap cX12_gap 4 (some .int) 3 := ⟨(g_at 1820 (by decide +kernel) (by decide +kernel)), md_X12_gap⟩
set_option maxRecDepth 20000 in
theorem mt_L_275 : mt_ok RL 275 yX6_offcuts cX6_offcuts 4 (some .int) 1 := ⟨(g_at 172 (by decide +kernel) (by decide +kernel)), md_X6_offcuts⟩
set_option maxRecDepth 20000 in
theorem mt_L_278 : mt_ok RL 278 yX12_offcuts cX12_offcuts 5 (some .int) 1 := ⟨(g_at 1827 (by decide +kernel) (by decide +kernel)), md_X12_offcuts⟩
set_option maxRecDepth 20000 in
theorem mt_L_281 : mt_ok RL 281 yX12_takeOffcut cX12_takeOffcut 8 (some .int) 2 := ⟨(g_at 1832 (by decide +kernel) (by decide +kernel)), md_X12_takeOffcut⟩
set_option maxRecDepth 20000 in
theorem mt_L_285 : mt_ok RL 285 yX12_account cX12_account 5 (some .int) 1 := ⟨(g_at 1845 (by decide +kernel) (by decide +kernel)), md_X12_account⟩
set_option maxRecDepth 20000 in
theorem mt_L_288 : mt_ok RL 288 yX12_price cX12_price 2 (some .int) 1 := ⟨(g_at 1854 (by decide +kernel) (by decide +kernel)), md_X12_price⟩
set_option maxRecDepth 20000 in
theorem mt_L_292 : mt_ok RL 292 yX12_usedShare cX12_usedShare 1 (some .float) 0 := ⟨(g_at 1865 (by decide +kernel) (by decide +kernel)), md_X12_usedShare⟩
set_option maxRecDepth 20000 in
theorem mt_L_295 : mt_ok RL 295 yX12_meanFigure cX12_meanFigure 5 (some .double) 0 := ⟨(g_at 1882 (by decide +kernel) (by decide +kernel)), md_X12_meanFigure⟩
set_option maxRecDepth 20000 in
theorem mt_L_296 : mt_ok RL 296 yX6_checksum cX6_checksum 4 (some .long) 0 := ⟨(g_at 177 (by decide +kernel) (by decide +kernel)), md_X6_checksum⟩
set_option maxRecDepth 20000 in
theorem mt_L_300 : mt_ok RL 300 yX12_checksum cX12_checksum 10 (some .long) 0 := ⟨(g_at 1886 (by decide +kernel) (by decide +kernel)), md_X12_checksum⟩
set_option maxRecDepth 20000 in
theorem mt_L_301 : mt_ok RL 301 yX6_isTrue cX6_isTrue 1 (some .boolean) 0 := ⟨(g_at 193 (by decide +kernel) (by decide +kernel)), md_X6_isTrue⟩
set_option maxRecDepth 20000 in
theorem mt_L_305 : mt_ok RL 305 yX12_isTrue cX12_isTrue 1 (some .boolean) 0 := ⟨(g_at 1891 (by decide +kernel) (by decide +kernel)), md_X12_isTrue⟩
section VVL3
theorem cr_ (x : Int32) : 0 ≤ (x.toUInt32 % 65536).toInt32 ∧ (x.toUInt32 % 65536).toInt32 ≤ 65535 := by
  rw [pk_char]
  have h : x.toBitVec.toNat % 65536 < 65536 := Nat.mod_lt _ (by decide)
  exact ⟨nI_pos' (by omega), nI_le (b := 65535) (by omega) (by decide)⟩
theorem nz_3 {n : Nat} (hb : n ≤ 3) (h : nI n = 0) : n = 0 := Decidable.byContradiction (fun q => nI_ne0 (by omega) (by omega) h)
theorem cmp_s (x : Int64) : lg_cmp x x = 0 := by
  unfold lg_cmp
  simp
/-- between two calls -/
def lw_I (S : SP) (N : Nat) (h : PH) : Prop := Rp1 S h ∧ Rp2 S h ∧ Iv S N ∧ J2 S ∧ fr_s h ∧ hp_ln h 80 0 = 1 ∧ hp_ln h 81 0 = 1
end VVL3
set_option maxRecDepth 20000 in
theorem W_0 {G : GW} {Q : RS → PH → Prop} {S : SP} {N j k n : Nat} {h : PH} {z6 z7 z8 : Option PV} (hL : gw_L G ≤ 3072) (hj : 6 * j + 6 ≤ gw_L G) (L9 : lw_I S N h) (hN : N ≤ 600) (K : ∀ S' h' z6 z7 z8, lw_I S' (N + 1) h' → VV G 13 k n yL_law cL_law 9 (some .boolean) [] 3031 [some (pv_O (7, 0)), some (pv_O (10, 0)), some (pv_O (40, 0)), some (pv_O (80, 0)), some (pv_O (81, 0)), some (pv_I (nI (6 * j))), z6, z7, z8] [] h' Q) : VV G 13 (k + 1150) (n + 14040) yL_law cL_law 9 (some .boolean) [] 228 [some (pv_O (7, 0)), some (pv_O (10, 0)), some (pv_O (40, 0)), some (pv_O (80, 0)), some (pv_O (81, 0)), some (pv_I (nI (6 * j))), z6, z7, z8] [] h Q := by
  obtain ⟨R1, R2, I, J, Fr, l80, l81⟩ := L9
  refine v_aload_n 229 dL_law_228 rfl rfl ?_
  refine v_aload_n 230 dL_law_229 rfl rfl ?_
  refine v_iload 232 dL_law_230 rfl rfl ?_
  refine v_iconstv (v := 1) 233 dL_law_232 (by decide) rfl ?_
  refine v_iadd 234 dL_law_233 rfl ?_
  rw [show nI (6 * j) + 1 = nI (6 * j + 1) from nI_add (6 * j) 1]
  refine VV.know (fun ho9 _ _ => ?_)
  refine v_iald 235 dL_law_234 (by first | assumption | rfl) (by rw [ho9.2.2.2.2.2.2.2.2.1]; exact in_nI (by omega) (by omega)) rfl ?_
  rw [nI_clamp (by omega), ho9.2.2.2.2.2.2.2.2.2]
  refine v_i2c 236 dL_law_235 rfl ?_
  refine v_aload_n 237 dL_law_236 rfl rfl ?_
  refine v_iload 239 dL_law_237 rfl rfl ?_
  refine v_iconstv (v := 2) 240 dL_law_239 (by decide) rfl ?_
  refine v_iadd 241 dL_law_240 rfl ?_
  rw [show nI (6 * j) + 2 = nI (6 * j + 2) from nI_add (6 * j) 2]
  refine VV.know (fun ho9 _ _ => ?_)
  refine v_iald 242 dL_law_241 (by first | assumption | rfl) (by rw [ho9.2.2.2.2.2.2.2.2.1]; exact in_nI (by omega) (by omega)) rfl ?_
  rw [nI_clamp (by omega), ho9.2.2.2.2.2.2.2.2.2]
  refine v_aload_n 243 dL_law_242 rfl rfl ?_
  refine v_iload 245 dL_law_243 rfl rfl ?_
  refine v_iconstv (v := 3) 246 dL_law_245 (by decide) rfl ?_
  refine v_iadd 247 dL_law_246 rfl ?_
  rw [show nI (6 * j) + 3 = nI (6 * j + 3) from nI_add (6 * j) 3]
  refine VV.know (fun ho9 _ _ => ?_)
  refine v_iald 248 dL_law_247 (by first | assumption | rfl) (by rw [ho9.2.2.2.2.2.2.2.2.1]; exact in_nI (by omega) (by omega)) rfl ?_
  rw [nI_clamp (by omega), ho9.2.2.2.2.2.2.2.2.2]
  refine v_aload_n 249 dL_law_248 rfl rfl ?_
  refine v_iload 251 dL_law_249 rfl rfl ?_
  refine v_iconstv (v := 4) 252 dL_law_251 (by decide) rfl ?_
  refine v_iadd 253 dL_law_252 rfl ?_
  rw [show nI (6 * j) + 4 = nI (6 * j + 4) from nI_add (6 * j) 4]
  refine VV.know (fun ho9 _ _ => ?_)
  refine v_iald 254 dL_law_253 (by first | assumption | rfl) (by rw [ho9.2.2.2.2.2.2.2.2.1]; exact in_nI (by omega) (by omega)) rfl ?_
  rw [nI_clamp (by omega), ho9.2.2.2.2.2.2.2.2.2]
  refine v_i2c 255 dL_law_254 rfl ?_
  refine v_aload_n 256 dL_law_255 rfl rfl ?_
  refine v_invsW (d' := 9) (k' := 3) (n' := 60) (k2 := k + 1147) (n2 := n + 13980) 259 [_, _, _, _, _, _] dL_law_256 lk_L_156 md_L_log ms_L_log rfl rfl (of_decide_eq_true rfl) rfl (by decide) rfl rfl rfl rfl (C_L_log R1 I (cr_ _) (cr_ _) l80 (fun h1 R1' te1 l1 b1 v1 => ?_))
  have R2' : Rp2 S h1 := R2.te (fun t ht => te1 t (by omega) (by omega))
  have Fr1 : fr_s h1 := (fun t a b => (Fr t a b).te (te1 t (by omega) (by omega)))
  have m1 : hp_ln h1 81 0 = 1 := by rw [(te1 81 (by omega) (by decide)).2.1]; exact l81
  show VV G 13 (k + 1147) (n + 13980) yL_law cL_law 9 (some .boolean) [] 259 _ _ h1 Q
  refine v_istore 261 dL_law_259 (by decide) rfl rfl ?_
  dsimp only [List.set]
  refine v_aload_n 262 dL_law_261 rfl rfl ?_
  refine v_aload_n 263 dL_law_262 rfl rfl ?_
  refine v_iload 265 dL_law_263 rfl rfl ?_
  refine v_iconstv (v := 1) 266 dL_law_265 (by decide) rfl ?_
  refine v_iadd 267 dL_law_266 rfl ?_
  rw [show nI (6 * j) + 1 = nI (6 * j + 1) from nI_add (6 * j) 1]
  refine VV.know (fun ho9 _ _ => ?_)
  refine v_iald 268 dL_law_267 (by first | assumption | rfl) (by rw [ho9.2.2.2.2.2.2.2.2.1]; exact in_nI (by omega) (by omega)) rfl ?_
  rw [nI_clamp (by omega), ho9.2.2.2.2.2.2.2.2.2]
  refine v_i2c 269 dL_law_268 rfl ?_
  refine v_aload_n 270 dL_law_269 rfl rfl ?_
  refine v_iload 272 dL_law_270 rfl rfl ?_
  refine v_iconstv (v := 2) 273 dL_law_272 (by decide) rfl ?_
  refine v_iadd 274 dL_law_273 rfl ?_
  rw [show nI (6 * j) + 2 = nI (6 * j + 2) from nI_add (6 * j) 2]
  refine VV.know (fun ho9 _ _ => ?_)
  refine v_iald 275 dL_law_274 (by first | assumption | rfl) (by rw [ho9.2.2.2.2.2.2.2.2.1]; exact in_nI (by omega) (by omega)) rfl ?_
  rw [nI_clamp (by omega), ho9.2.2.2.2.2.2.2.2.2]
  refine v_aload_n 276 dL_law_275 rfl rfl ?_
  refine v_iload 278 dL_law_276 rfl rfl ?_
  refine v_iconstv (v := 3) 279 dL_law_278 (by decide) rfl ?_
  refine v_iadd 280 dL_law_279 rfl ?_
  rw [show nI (6 * j) + 3 = nI (6 * j + 3) from nI_add (6 * j) 3]
  refine VV.know (fun ho9 _ _ => ?_)
  refine v_iald 281 dL_law_280 (by first | assumption | rfl) (by rw [ho9.2.2.2.2.2.2.2.2.1]; exact in_nI (by omega) (by omega)) rfl ?_
  rw [nI_clamp (by omega), ho9.2.2.2.2.2.2.2.2.2]
  refine v_aload_n 282 dL_law_281 rfl rfl ?_
  refine v_iload 284 dL_law_282 rfl rfl ?_
  refine v_iconstv (v := 4) 285 dL_law_284 (by decide) rfl ?_
  refine v_iadd 286 dL_law_285 rfl ?_
  rw [show nI (6 * j) + 4 = nI (6 * j + 4) from nI_add (6 * j) 4]
  refine VV.know (fun ho9 _ _ => ?_)
  refine v_iald 287 dL_law_286 (by first | assumption | rfl) (by rw [ho9.2.2.2.2.2.2.2.2.1]; exact in_nI (by omega) (by omega)) rfl ?_
  rw [nI_clamp (by omega), ho9.2.2.2.2.2.2.2.2.2]
  refine v_i2c 288 dL_law_287 rfl ?_
  refine v_invv (d' := 9) (k' := 2) (n' := 35) (k2 := (k + 1145)) (n2 := (n + 13945)) 291 [_, _, _, _] dL_law_288 mt_L_161 mi_X12_log me_X12_log (by first | assumption | rfl) (by rfl) rfl rfl (of_decide_eq_true rfl) rfl (by decide) rfl rfl rfl rfl (C_X12_log R2' I (cr_ _) (cr_ _) (fun v2 h2 e2 R2'' c2 ke2 => ?_))
  refine v_istore 293 dL_law_291 (by decide) rfl rfl ?_
  dsimp only [List.set]
  refine v_aload_n 294 dL_law_293 rfl rfl ?_
  refine v_invv (d' := 0) (k' := 0) (n' := 0) (k2 := (k + 1145)) (n2 := (n + 13945)) 297 [] dL_law_294 mt_L_162 mi_X12_thrown me_X12_thrown (by first | assumption | rfl) (by rfl) rfl rfl (of_decide_eq_true rfl) rfl (by decide) rfl rfl rfl rfl (C_X12_thrown ?_)
  rw [c2]
  refine v_iload 299 dL_law_297 rfl rfl ?_
  refine v_icmp_eq 304 302 dL_law_299 (by decide) rfl (fun c299 => ?_) (fun c299 => ?_)
  · refine v_iload 306 dL_law_304 rfl rfl ?_
    refine v_if_ne 321 309 dL_law_306 (by decide) rfl (fun c306 => ?_) (fun c306 => ?_)
    · refine v_goto 3031 dL_law_321 (by decide) ?_
      refine VV.less (Nat.le_refl _) (by omega) (by omega) (K _ _ _ _ _ ⟨R1'.te (fun t ht => ke2.1 t (by omega)), R2'', (iv_log I), (j2_log J), ke2.2 Fr1, by rw [(ke2.1 80 (by omega)).2.1]; exact l1, by rw [(ke2.1 81 (by omega)).2.1]; exact m1⟩)
    · have hc := nz_3 b1 c306
      refine v_aload_n 310 dL_law_309 rfl rfl ?_
      refine v_iconstv (v := 0) 311 dL_law_310 (by decide) rfl ?_
      refine v_lald 312 dL_law_311 (by first | assumption | rfl) (by rw [(ke2.1 80 (by omega)).2.1, l1]; exact in_nI (m := 0) (by decide) (by decide)) rfl ?_
      rw [show Int32.toNatClampNeg 0 = 0 from rfl, (ke2.1 80 (by omega)).2.2.2.2.1, v1 hc, e2 hc]
      refine v_iload 314 dL_law_312 rfl rfl ?_
      refine v_i2l 315 dL_law_314 rfl ?_
      refine v_lcmp 316 dL_law_315 rfl ?_
      rw [cmp_s]
      refine v_if_eq 321 319 dL_law_316 (by decide) rfl (fun c316 => ?_) (fun c316 => ?_)
      · refine v_goto 3031 dL_law_321 (by decide) ?_
        refine VV.less (Nat.le_refl _) (by omega) (by omega) (K _ _ _ _ _ ⟨R1'.te (fun t ht => ke2.1 t (by omega)), R2'', (iv_log I), (j2_log J), ke2.2 Fr1, by rw [(ke2.1 80 (by omega)).2.1]; exact l1, by rw [(ke2.1 81 (by omega)).2.1]; exact m1⟩)
      · exact absurd rfl c316
  · exact absurd rfl c299
set_option maxRecDepth 20000 in
theorem W_1 {G : GW} {Q : RS → PH → Prop} {S : SP} {N j k n : Nat} {h : PH} {z6 z7 z8 : Option PV} (hL : gw_L G ≤ 3072) (hj : 6 * j + 6 ≤ gw_L G) (L9 : lw_I S N h) (hN : N ≤ 600) (K : ∀ S' h' z6 z7 z8, lw_I S' (N + 1) h' → VV G 13 k n yL_law cL_law 9 (some .boolean) [] 3031 [some (pv_O (7, 0)), some (pv_O (10, 0)), some (pv_O (40, 0)), some (pv_O (80, 0)), some (pv_O (81, 0)), some (pv_I (nI (6 * j))), z6, z7, z8] [] h' Q) : VV G 13 (k + 1150) (n + 14040) yL_law cL_law 9 (some .boolean) [] 324 [some (pv_O (7, 0)), some (pv_O (10, 0)), some (pv_O (40, 0)), some (pv_O (80, 0)), some (pv_O (81, 0)), some (pv_I (nI (6 * j))), z6, z7, z8] [] h Q := by
  obtain ⟨R1, R2, I, J, Fr, l80, l81⟩ := L9
  refine v_aload_n 325 dL_law_324 rfl rfl ?_
  refine v_aload_n 326 dL_law_325 rfl rfl ?_
  refine v_iload 328 dL_law_326 rfl rfl ?_
  refine v_iconstv (v := 1) 329 dL_law_328 (by decide) rfl ?_
  refine v_iadd 330 dL_law_329 rfl ?_
  rw [show nI (6 * j) + 1 = nI (6 * j + 1) from nI_add (6 * j) 1]
  refine VV.know (fun ho9 _ _ => ?_)
  refine v_iald 331 dL_law_330 (by first | assumption | rfl) (by rw [ho9.2.2.2.2.2.2.2.2.1]; exact in_nI (by omega) (by omega)) rfl ?_
  rw [nI_clamp (by omega), ho9.2.2.2.2.2.2.2.2.2]
  refine v_aload_n 332 dL_law_331 rfl rfl ?_
  refine v_iload 334 dL_law_332 rfl rfl ?_
  refine v_iconstv (v := 2) 335 dL_law_334 (by decide) rfl ?_
  refine v_iadd 336 dL_law_335 rfl ?_
  rw [show nI (6 * j) + 2 = nI (6 * j + 2) from nI_add (6 * j) 2]
  refine VV.know (fun ho9 _ _ => ?_)
  refine v_iald 337 dL_law_336 (by first | assumption | rfl) (by rw [ho9.2.2.2.2.2.2.2.2.1]; exact in_nI (by omega) (by omega)) rfl ?_
  rw [nI_clamp (by omega), ho9.2.2.2.2.2.2.2.2.2]
  refine v_i2c 338 dL_law_337 rfl ?_
  refine v_aload_n 339 dL_law_338 rfl rfl ?_
  refine v_iload 341 dL_law_339 rfl rfl ?_
  refine v_iconstv (v := 3) 342 dL_law_341 (by decide) rfl ?_
  refine v_iadd 343 dL_law_342 rfl ?_
  rw [show nI (6 * j) + 3 = nI (6 * j + 3) from nI_add (6 * j) 3]
  refine VV.know (fun ho9 _ _ => ?_)
  refine v_iald 344 dL_law_343 (by first | assumption | rfl) (by rw [ho9.2.2.2.2.2.2.2.2.1]; exact in_nI (by omega) (by omega)) rfl ?_
  rw [nI_clamp (by omega), ho9.2.2.2.2.2.2.2.2.2]
  refine v_aload_n 345 dL_law_344 rfl rfl ?_
  refine v_invsW (d' := 9) (k' := 6) (n' := 130) (k2 := k + 1144) (n2 := n + 13910) 348 [_, _, _, _, _] dL_law_345 lk_L_165 md_L_slice ms_L_slice rfl rfl (of_decide_eq_true rfl) rfl (by decide) rfl rfl rfl rfl (C_L_slice R1 I (cr_ _) l80 (fun h1 R1' te1 l1 b1 v1 => ?_))
  have R2' : Rp2 S h1 := R2.te (fun t ht => te1 t (by omega) (by omega))
  have Fr1 : fr_s h1 := (fun t a b => (Fr t a b).te (te1 t (by omega) (by omega)))
  have m1 : hp_ln h1 81 0 = 1 := by rw [(te1 81 (by omega) (by decide)).2.1]; exact l81
  show VV G 13 (k + 1144) (n + 13910) yL_law cL_law 9 (some .boolean) [] 348 _ _ h1 Q
  refine v_istore 350 dL_law_348 (by decide) rfl rfl ?_
  dsimp only [List.set]
  refine v_aload_n 351 dL_law_350 rfl rfl ?_
  refine v_aload_n 352 dL_law_351 rfl rfl ?_
  refine v_iload 354 dL_law_352 rfl rfl ?_
  refine v_iconstv (v := 1) 355 dL_law_354 (by decide) rfl ?_
  refine v_iadd 356 dL_law_355 rfl ?_
  rw [show nI (6 * j) + 1 = nI (6 * j + 1) from nI_add (6 * j) 1]
  refine VV.know (fun ho9 _ _ => ?_)
  refine v_iald 357 dL_law_356 (by first | assumption | rfl) (by rw [ho9.2.2.2.2.2.2.2.2.1]; exact in_nI (by omega) (by omega)) rfl ?_
  rw [nI_clamp (by omega), ho9.2.2.2.2.2.2.2.2.2]
  refine v_aload_n 358 dL_law_357 rfl rfl ?_
  refine v_iload 360 dL_law_358 rfl rfl ?_
  refine v_iconstv (v := 2) 361 dL_law_360 (by decide) rfl ?_
  refine v_iadd 362 dL_law_361 rfl ?_
  rw [show nI (6 * j) + 2 = nI (6 * j + 2) from nI_add (6 * j) 2]
  refine VV.know (fun ho9 _ _ => ?_)
  refine v_iald 363 dL_law_362 (by first | assumption | rfl) (by rw [ho9.2.2.2.2.2.2.2.2.1]; exact in_nI (by omega) (by omega)) rfl ?_
  rw [nI_clamp (by omega), ho9.2.2.2.2.2.2.2.2.2]
  refine v_i2c 364 dL_law_363 rfl ?_
  refine v_aload_n 365 dL_law_364 rfl rfl ?_
  refine v_iload 367 dL_law_365 rfl rfl ?_
  refine v_iconstv (v := 3) 368 dL_law_367 (by decide) rfl ?_
  refine v_iadd 369 dL_law_368 rfl ?_
  rw [show nI (6 * j) + 3 = nI (6 * j + 3) from nI_add (6 * j) 3]
  refine VV.know (fun ho9 _ _ => ?_)
  refine v_iald 370 dL_law_369 (by first | assumption | rfl) (by rw [ho9.2.2.2.2.2.2.2.2.1]; exact in_nI (by omega) (by omega)) rfl ?_
  rw [nI_clamp (by omega), ho9.2.2.2.2.2.2.2.2.2]
  refine v_invv (d' := 9) (k' := 3) (n' := 60) (k2 := (k + 1141)) (n2 := (n + 13850)) 373 [_, _, _] dL_law_370 mt_L_168 mi_X12_slice me_X12_slice (by first | assumption | rfl) (by rfl) rfl rfl (of_decide_eq_true rfl) rfl (by decide) rfl rfl rfl rfl (C_X12_slice R2' I (cr_ _) (fun v2 h2 e2 R2'' c2 ke2 => ?_))
  refine v_istore 375 dL_law_373 (by decide) rfl rfl ?_
  dsimp only [List.set]
  refine v_aload_n 376 dL_law_375 rfl rfl ?_
  refine v_invv (d' := 0) (k' := 0) (n' := 0) (k2 := (k + 1141)) (n2 := (n + 13850)) 379 [] dL_law_376 mt_L_162 mi_X12_thrown me_X12_thrown (by first | assumption | rfl) (by rfl) rfl rfl (of_decide_eq_true rfl) rfl (by decide) rfl rfl rfl rfl (C_X12_thrown ?_)
  rw [c2]
  refine v_iload 381 dL_law_379 rfl rfl ?_
  refine v_icmp_eq 386 384 dL_law_381 (by decide) rfl (fun c381 => ?_) (fun c381 => ?_)
  · refine v_iload 388 dL_law_386 rfl rfl ?_
    refine v_if_ne 403 391 dL_law_388 (by decide) rfl (fun c388 => ?_) (fun c388 => ?_)
    · refine v_goto 3031 dL_law_403 (by decide) ?_
      refine VV.less (Nat.le_refl _) (by omega) (by omega) (K _ _ _ _ _ ⟨R1'.te (fun t ht => ke2.1 t (by omega)), R2'', (iv_slice I), (j2_slice J), ke2.2 Fr1, by rw [(ke2.1 80 (by omega)).2.1]; exact l1, by rw [(ke2.1 81 (by omega)).2.1]; exact m1⟩)
    · have hc := nz_3 b1 c388
      refine v_aload_n 392 dL_law_391 rfl rfl ?_
      refine v_iconstv (v := 0) 393 dL_law_392 (by decide) rfl ?_
      refine v_lald 394 dL_law_393 (by first | assumption | rfl) (by rw [(ke2.1 80 (by omega)).2.1, l1]; exact in_nI (m := 0) (by decide) (by decide)) rfl ?_
      rw [show Int32.toNatClampNeg 0 = 0 from rfl, (ke2.1 80 (by omega)).2.2.2.2.1, v1 hc, e2 hc]
      refine v_iload 396 dL_law_394 rfl rfl ?_
      refine v_i2l 397 dL_law_396 rfl ?_
      refine v_lcmp 398 dL_law_397 rfl ?_
      rw [cmp_s]
      refine v_if_eq 403 401 dL_law_398 (by decide) rfl (fun c398 => ?_) (fun c398 => ?_)
      · refine v_goto 3031 dL_law_403 (by decide) ?_
        refine VV.less (Nat.le_refl _) (by omega) (by omega) (K _ _ _ _ _ ⟨R1'.te (fun t ht => ke2.1 t (by omega)), R2'', (iv_slice I), (j2_slice J), ke2.2 Fr1, by rw [(ke2.1 80 (by omega)).2.1]; exact l1, by rw [(ke2.1 81 (by omega)).2.1]; exact m1⟩)
      · exact absurd rfl c398
  · exact absurd rfl c381
set_option maxRecDepth 20000 in
theorem W_2 {G : GW} {Q : RS → PH → Prop} {S : SP} {N j k n : Nat} {h : PH} {z6 z7 z8 : Option PV} (hL : gw_L G ≤ 3072) (hj : 6 * j + 6 ≤ gw_L G) (L9 : lw_I S N h) (hN : N ≤ 600) (K : ∀ S' h' z6 z7 z8, lw_I S' (N + 1) h' → VV G 13 k n yL_law cL_law 9 (some .boolean) [] 3031 [some (pv_O (7, 0)), some (pv_O (10, 0)), some (pv_O (40, 0)), some (pv_O (80, 0)), some (pv_O (81, 0)), some (pv_I (nI (6 * j))), z6, z7, z8] [] h' Q) : VV G 13 (k + 1150) (n + 14040) yL_law cL_law 9 (some .boolean) [] 406 [some (pv_O (7, 0)), some (pv_O (10, 0)), some (pv_O (40, 0)), some (pv_O (80, 0)), some (pv_O (81, 0)), some (pv_I (nI (6 * j))), z6, z7, z8] [] h Q := by
  obtain ⟨R1, R2, I, J, Fr, l80, l81⟩ := L9
  refine v_aload_n 407 dL_law_406 rfl rfl ?_
  refine v_aload_n 408 dL_law_407 rfl rfl ?_
  refine v_iload 410 dL_law_408 rfl rfl ?_
  refine v_iconstv (v := 1) 411 dL_law_410 (by decide) rfl ?_
  refine v_iadd 412 dL_law_411 rfl ?_
  rw [show nI (6 * j) + 1 = nI (6 * j + 1) from nI_add (6 * j) 1]
  refine VV.know (fun ho9 _ _ => ?_)
  refine v_iald 413 dL_law_412 (by first | assumption | rfl) (by rw [ho9.2.2.2.2.2.2.2.2.1]; exact in_nI (by omega) (by omega)) rfl ?_
  rw [nI_clamp (by omega), ho9.2.2.2.2.2.2.2.2.2]
  refine v_aload_n 414 dL_law_413 rfl rfl ?_
  refine v_invsW (d' := 8) (k' := 1) (n' := 6) (k2 := k + 1149) (n2 := n + 14034) 417 [_, _, _] dL_law_414 lk_L_169 md_L_leaves ms_L_leaves rfl rfl (of_decide_eq_true rfl) rfl (by decide) rfl rfl rfl rfl (C_L_leaves R1 I  l80 (fun h1 R1' te1 l1 b1 v1 => ?_))
  have R2' : Rp2 S h1 := R2.te (fun t ht => te1 t (by omega) (by omega))
  have Fr1 : fr_s h1 := (fun t a b => (Fr t a b).te (te1 t (by omega) (by omega)))
  have m1 : hp_ln h1 81 0 = 1 := by rw [(te1 81 (by omega) (by decide)).2.1]; exact l81
  show VV G 13 (k + 1149) (n + 14034) yL_law cL_law 9 (some .boolean) [] 417 _ _ h1 Q
  refine v_istore 419 dL_law_417 (by decide) rfl rfl ?_
  dsimp only [List.set]
  refine v_aload_n 420 dL_law_419 rfl rfl ?_
  refine v_aload_n 421 dL_law_420 rfl rfl ?_
  refine v_iload 423 dL_law_421 rfl rfl ?_
  refine v_iconstv (v := 1) 424 dL_law_423 (by decide) rfl ?_
  refine v_iadd 425 dL_law_424 rfl ?_
  rw [show nI (6 * j) + 1 = nI (6 * j + 1) from nI_add (6 * j) 1]
  refine VV.know (fun ho9 _ _ => ?_)
  refine v_iald 426 dL_law_425 (by first | assumption | rfl) (by rw [ho9.2.2.2.2.2.2.2.2.1]; exact in_nI (by omega) (by omega)) rfl ?_
  rw [nI_clamp (by omega), ho9.2.2.2.2.2.2.2.2.2]
  refine v_invv (d' := 9) (k' := 0) (n' := 0) (k2 := (k + 1149)) (n2 := (n + 14034)) 429 [_] dL_law_426 mt_L_172 mi_X12_leaves me_X12_leaves (by first | assumption | rfl) (by rfl) rfl rfl (of_decide_eq_true rfl) rfl (by decide) rfl rfl rfl rfl (C_X12_leaves R2' I  (fun v2 h2 e2 R2'' c2 ke2 => ?_))
  refine v_istore 431 dL_law_429 (by decide) rfl rfl ?_
  dsimp only [List.set]
  refine v_aload_n 432 dL_law_431 rfl rfl ?_
  refine v_invv (d' := 0) (k' := 0) (n' := 0) (k2 := (k + 1149)) (n2 := (n + 14034)) 435 [] dL_law_432 mt_L_162 mi_X12_thrown me_X12_thrown (by first | assumption | rfl) (by rfl) rfl rfl (of_decide_eq_true rfl) rfl (by decide) rfl rfl rfl rfl (C_X12_thrown ?_)
  rw [c2]
  refine v_iload 437 dL_law_435 rfl rfl ?_
  refine v_icmp_eq 442 440 dL_law_437 (by decide) rfl (fun c437 => ?_) (fun c437 => ?_)
  · refine v_iload 444 dL_law_442 rfl rfl ?_
    refine v_if_ne 459 447 dL_law_444 (by decide) rfl (fun c444 => ?_) (fun c444 => ?_)
    · refine v_goto 3031 dL_law_459 (by decide) ?_
      refine VV.less (Nat.le_refl _) (by omega) (by omega) (K _ _ _ _ _ ⟨R1'.te (fun t ht => ke2.1 t (by omega)), R2'', (I.m (Nat.le_succ N)), J, ke2.2 Fr1, by rw [(ke2.1 80 (by omega)).2.1]; exact l1, by rw [(ke2.1 81 (by omega)).2.1]; exact m1⟩)
    · have hc := nz_3 b1 c444
      refine v_aload_n 448 dL_law_447 rfl rfl ?_
      refine v_iconstv (v := 0) 449 dL_law_448 (by decide) rfl ?_
      refine v_lald 450 dL_law_449 (by first | assumption | rfl) (by rw [(ke2.1 80 (by omega)).2.1, l1]; exact in_nI (m := 0) (by decide) (by decide)) rfl ?_
      rw [show Int32.toNatClampNeg 0 = 0 from rfl, (ke2.1 80 (by omega)).2.2.2.2.1, v1 hc, e2 hc]
      refine v_iload 452 dL_law_450 rfl rfl ?_
      refine v_i2l 453 dL_law_452 rfl ?_
      refine v_lcmp 454 dL_law_453 rfl ?_
      rw [cmp_s]
      refine v_if_eq 459 457 dL_law_454 (by decide) rfl (fun c454 => ?_) (fun c454 => ?_)
      · refine v_goto 3031 dL_law_459 (by decide) ?_
        refine VV.less (Nat.le_refl _) (by omega) (by omega) (K _ _ _ _ _ ⟨R1'.te (fun t ht => ke2.1 t (by omega)), R2'', (I.m (Nat.le_succ N)), J, ke2.2 Fr1, by rw [(ke2.1 80 (by omega)).2.1]; exact l1, by rw [(ke2.1 81 (by omega)).2.1]; exact m1⟩)
      · exact absurd rfl c454
  · exact absurd rfl c437
set_option maxRecDepth 20000 in
theorem W_3 {G : GW} {Q : RS → PH → Prop} {S : SP} {N j k n : Nat} {h : PH} {z6 z7 z8 : Option PV} (hL : gw_L G ≤ 3072) (hj : 6 * j + 6 ≤ gw_L G) (L9 : lw_I S N h) (hN : N ≤ 600) (K : ∀ S' h' z6 z7 z8, lw_I S' (N + 1) h' → VV G 13 k n yL_law cL_law 9 (some .boolean) [] 3031 [some (pv_O (7, 0)), some (pv_O (10, 0)), some (pv_O (40, 0)), some (pv_O (80, 0)), some (pv_O (81, 0)), some (pv_I (nI (6 * j))), z6, z7, z8] [] h' Q) : VV G 13 (k + 1150) (n + 14040) yL_law cL_law 9 (some .boolean) [] 462 [some (pv_O (7, 0)), some (pv_O (10, 0)), some (pv_O (40, 0)), some (pv_O (80, 0)), some (pv_O (81, 0)), some (pv_I (nI (6 * j))), z6, z7, z8] [] h Q := by
  obtain ⟨R1, R2, I, J, Fr, l80, l81⟩ := L9
  refine v_aload_n 463 dL_law_462 rfl rfl ?_
  refine v_aload_n 464 dL_law_463 rfl rfl ?_
  refine v_iload 466 dL_law_464 rfl rfl ?_
  refine v_iconstv (v := 1) 467 dL_law_466 (by decide) rfl ?_
  refine v_iadd 468 dL_law_467 rfl ?_
  rw [show nI (6 * j) + 1 = nI (6 * j + 1) from nI_add (6 * j) 1]
  refine VV.know (fun ho9 _ _ => ?_)
  refine v_iald 469 dL_law_468 (by first | assumption | rfl) (by rw [ho9.2.2.2.2.2.2.2.2.1]; exact in_nI (by omega) (by omega)) rfl ?_
  rw [nI_clamp (by omega), ho9.2.2.2.2.2.2.2.2.2]
  refine v_aload_n 470 dL_law_469 rfl rfl ?_
  refine v_iload 472 dL_law_470 rfl rfl ?_
  refine v_iconstv (v := 2) 473 dL_law_472 (by decide) rfl ?_
  refine v_iadd 474 dL_law_473 rfl ?_
  rw [show nI (6 * j) + 2 = nI (6 * j + 2) from nI_add (6 * j) 2]
  refine VV.know (fun ho9 _ _ => ?_)
  refine v_iald 475 dL_law_474 (by first | assumption | rfl) (by rw [ho9.2.2.2.2.2.2.2.2.1]; exact in_nI (by omega) (by omega)) rfl ?_
  rw [nI_clamp (by omega), ho9.2.2.2.2.2.2.2.2.2]
  refine v_aload_n 476 dL_law_475 rfl rfl ?_
  refine v_invsW (d' := 10) (k' := 2) (n' := 12) (k2 := k + 1148) (n2 := n + 14028) 479 [_, _, _, _] dL_law_476 lk_L_173 md_L_width ms_L_width rfl rfl (of_decide_eq_true rfl) rfl (by decide) rfl rfl rfl rfl (C_L_width R1 I  l80 (fun h1 R1' te1 l1 b1 v1 => ?_))
  have R2' : Rp2 S h1 := R2.te (fun t ht => te1 t (by omega) (by omega))
  have Fr1 : fr_s h1 := (fun t a b => (Fr t a b).te (te1 t (by omega) (by omega)))
  have m1 : hp_ln h1 81 0 = 1 := by rw [(te1 81 (by omega) (by decide)).2.1]; exact l81
  show VV G 13 (k + 1148) (n + 14028) yL_law cL_law 9 (some .boolean) [] 479 _ _ h1 Q
  refine v_istore 481 dL_law_479 (by decide) rfl rfl ?_
  dsimp only [List.set]
  refine v_aload_n 482 dL_law_481 rfl rfl ?_
  refine v_aload_n 483 dL_law_482 rfl rfl ?_
  refine v_iload 485 dL_law_483 rfl rfl ?_
  refine v_iconstv (v := 1) 486 dL_law_485 (by decide) rfl ?_
  refine v_iadd 487 dL_law_486 rfl ?_
  rw [show nI (6 * j) + 1 = nI (6 * j + 1) from nI_add (6 * j) 1]
  refine VV.know (fun ho9 _ _ => ?_)
  refine v_iald 488 dL_law_487 (by first | assumption | rfl) (by rw [ho9.2.2.2.2.2.2.2.2.1]; exact in_nI (by omega) (by omega)) rfl ?_
  rw [nI_clamp (by omega), ho9.2.2.2.2.2.2.2.2.2]
  refine v_aload_n 489 dL_law_488 rfl rfl ?_
  refine v_iload 491 dL_law_489 rfl rfl ?_
  refine v_iconstv (v := 2) 492 dL_law_491 (by decide) rfl ?_
  refine v_iadd 493 dL_law_492 rfl ?_
  rw [show nI (6 * j) + 2 = nI (6 * j + 2) from nI_add (6 * j) 2]
  refine VV.know (fun ho9 _ _ => ?_)
  refine v_iald 494 dL_law_493 (by first | assumption | rfl) (by rw [ho9.2.2.2.2.2.2.2.2.1]; exact in_nI (by omega) (by omega)) rfl ?_
  rw [nI_clamp (by omega), ho9.2.2.2.2.2.2.2.2.2]
  refine v_invv (d' := 9) (k' := 0) (n' := 0) (k2 := (k + 1148)) (n2 := (n + 14028)) 497 [_, _] dL_law_494 mt_L_176 mi_X12_width me_X12_width (by first | assumption | rfl) (by rfl) rfl rfl (of_decide_eq_true rfl) rfl (by decide) rfl rfl rfl rfl (C_X12_width R2' I  (fun v2 h2 e2 R2'' c2 ke2 => ?_))
  refine v_istore 499 dL_law_497 (by decide) rfl rfl ?_
  dsimp only [List.set]
  refine v_aload_n 500 dL_law_499 rfl rfl ?_
  refine v_invv (d' := 0) (k' := 0) (n' := 0) (k2 := (k + 1148)) (n2 := (n + 14028)) 503 [] dL_law_500 mt_L_162 mi_X12_thrown me_X12_thrown (by first | assumption | rfl) (by rfl) rfl rfl (of_decide_eq_true rfl) rfl (by decide) rfl rfl rfl rfl (C_X12_thrown ?_)
  rw [c2]
  refine v_iload 505 dL_law_503 rfl rfl ?_
  refine v_icmp_eq 510 508 dL_law_505 (by decide) rfl (fun c505 => ?_) (fun c505 => ?_)
  · refine v_iload 512 dL_law_510 rfl rfl ?_
    refine v_if_ne 527 515 dL_law_512 (by decide) rfl (fun c512 => ?_) (fun c512 => ?_)
    · refine v_goto 3031 dL_law_527 (by decide) ?_
      refine VV.less (Nat.le_refl _) (by omega) (by omega) (K _ _ _ _ _ ⟨R1'.te (fun t ht => ke2.1 t (by omega)), R2'', (I.m (Nat.le_succ N)), J, ke2.2 Fr1, by rw [(ke2.1 80 (by omega)).2.1]; exact l1, by rw [(ke2.1 81 (by omega)).2.1]; exact m1⟩)
    · have hc := nz_3 b1 c512
      refine v_aload_n 516 dL_law_515 rfl rfl ?_
      refine v_iconstv (v := 0) 517 dL_law_516 (by decide) rfl ?_
      refine v_lald 518 dL_law_517 (by first | assumption | rfl) (by rw [(ke2.1 80 (by omega)).2.1, l1]; exact in_nI (m := 0) (by decide) (by decide)) rfl ?_
      rw [show Int32.toNatClampNeg 0 = 0 from rfl, (ke2.1 80 (by omega)).2.2.2.2.1, v1 hc, e2 hc]
      refine v_iload 520 dL_law_518 rfl rfl ?_
      refine v_i2l 521 dL_law_520 rfl ?_
      refine v_lcmp 522 dL_law_521 rfl ?_
      rw [cmp_s]
      refine v_if_eq 527 525 dL_law_522 (by decide) rfl (fun c522 => ?_) (fun c522 => ?_)
      · refine v_goto 3031 dL_law_527 (by decide) ?_
        refine VV.less (Nat.le_refl _) (by omega) (by omega) (K _ _ _ _ _ ⟨R1'.te (fun t ht => ke2.1 t (by omega)), R2'', (I.m (Nat.le_succ N)), J, ke2.2 Fr1, by rw [(ke2.1 80 (by omega)).2.1]; exact l1, by rw [(ke2.1 81 (by omega)).2.1]; exact m1⟩)
      · exact absurd rfl c522
  · exact absurd rfl c505
set_option maxRecDepth 20000 in
theorem W_4 {G : GW} {Q : RS → PH → Prop} {S : SP} {N j k n : Nat} {h : PH} {z6 z7 z8 : Option PV} (hL : gw_L G ≤ 3072) (hj : 6 * j + 6 ≤ gw_L G) (L9 : lw_I S N h) (hN : N ≤ 600) (K : ∀ S' h' z6 z7 z8, lw_I S' (N + 1) h' → VV G 13 k n yL_law cL_law 9 (some .boolean) [] 3031 [some (pv_O (7, 0)), some (pv_O (10, 0)), some (pv_O (40, 0)), some (pv_O (80, 0)), some (pv_O (81, 0)), some (pv_I (nI (6 * j))), z6, z7, z8] [] h' Q) : VV G 13 (k + 1150) (n + 14040) yL_law cL_law 9 (some .boolean) [] 530 [some (pv_O (7, 0)), some (pv_O (10, 0)), some (pv_O (40, 0)), some (pv_O (80, 0)), some (pv_O (81, 0)), some (pv_I (nI (6 * j))), z6, z7, z8] [] h Q := by
  obtain ⟨R1, R2, I, J, Fr, l80, l81⟩ := L9
  refine v_aload_n 531 dL_law_530 rfl rfl ?_
  refine v_aload_n 532 dL_law_531 rfl rfl ?_
  refine v_iload 534 dL_law_532 rfl rfl ?_
  refine v_iconstv (v := 1) 535 dL_law_534 (by decide) rfl ?_
  refine v_iadd 536 dL_law_535 rfl ?_
  rw [show nI (6 * j) + 1 = nI (6 * j + 1) from nI_add (6 * j) 1]
  refine VV.know (fun ho9 _ _ => ?_)
  refine v_iald 537 dL_law_536 (by first | assumption | rfl) (by rw [ho9.2.2.2.2.2.2.2.2.1]; exact in_nI (by omega) (by omega)) rfl ?_
  rw [nI_clamp (by omega), ho9.2.2.2.2.2.2.2.2.2]
  refine v_aload_n 538 dL_law_537 rfl rfl ?_
  refine v_iload 540 dL_law_538 rfl rfl ?_
  refine v_iconstv (v := 2) 541 dL_law_540 (by decide) rfl ?_
  refine v_iadd 542 dL_law_541 rfl ?_
  rw [show nI (6 * j) + 2 = nI (6 * j + 2) from nI_add (6 * j) 2]
  refine VV.know (fun ho9 _ _ => ?_)
  refine v_iald 543 dL_law_542 (by first | assumption | rfl) (by rw [ho9.2.2.2.2.2.2.2.2.1]; exact in_nI (by omega) (by omega)) rfl ?_
  rw [nI_clamp (by omega), ho9.2.2.2.2.2.2.2.2.2]
  refine v_aload_n 544 dL_law_543 rfl rfl ?_
  refine v_invsW (d' := 10) (k' := 2) (n' := 12) (k2 := k + 1148) (n2 := n + 14028) 547 [_, _, _, _] dL_law_544 lk_L_177 md_L_area ms_L_area rfl rfl (of_decide_eq_true rfl) rfl (by decide) rfl rfl rfl rfl (C_L_area R1 I  l80 (fun h1 R1' te1 l1 b1 v1 => ?_))
  have R2' : Rp2 S h1 := R2.te (fun t ht => te1 t (by omega) (by omega))
  have Fr1 : fr_s h1 := (fun t a b => (Fr t a b).te (te1 t (by omega) (by omega)))
  have m1 : hp_ln h1 81 0 = 1 := by rw [(te1 81 (by omega) (by decide)).2.1]; exact l81
  show VV G 13 (k + 1148) (n + 14028) yL_law cL_law 9 (some .boolean) [] 547 _ _ h1 Q
  refine v_istore 549 dL_law_547 (by decide) rfl rfl ?_
  dsimp only [List.set]
  refine v_aload_n 550 dL_law_549 rfl rfl ?_
  refine v_aload_n 551 dL_law_550 rfl rfl ?_
  refine v_iload 553 dL_law_551 rfl rfl ?_
  refine v_iconstv (v := 1) 554 dL_law_553 (by decide) rfl ?_
  refine v_iadd 555 dL_law_554 rfl ?_
  rw [show nI (6 * j) + 1 = nI (6 * j + 1) from nI_add (6 * j) 1]
  refine VV.know (fun ho9 _ _ => ?_)
  refine v_iald 556 dL_law_555 (by first | assumption | rfl) (by rw [ho9.2.2.2.2.2.2.2.2.1]; exact in_nI (by omega) (by omega)) rfl ?_
  rw [nI_clamp (by omega), ho9.2.2.2.2.2.2.2.2.2]
  refine v_aload_n 557 dL_law_556 rfl rfl ?_
  refine v_iload 559 dL_law_557 rfl rfl ?_
  refine v_iconstv (v := 2) 560 dL_law_559 (by decide) rfl ?_
  refine v_iadd 561 dL_law_560 rfl ?_
  rw [show nI (6 * j) + 2 = nI (6 * j + 2) from nI_add (6 * j) 2]
  refine VV.know (fun ho9 _ _ => ?_)
  refine v_iald 562 dL_law_561 (by first | assumption | rfl) (by rw [ho9.2.2.2.2.2.2.2.2.1]; exact in_nI (by omega) (by omega)) rfl ?_
  rw [nI_clamp (by omega), ho9.2.2.2.2.2.2.2.2.2]
  refine v_invv (d' := 9) (k' := 0) (n' := 0) (k2 := (k + 1148)) (n2 := (n + 14028)) 565 [_, _] dL_law_562 mt_L_179 mi_X12_area me_X12_area (by first | assumption | rfl) (by rfl) rfl rfl (of_decide_eq_true rfl) rfl (by decide) rfl rfl rfl rfl (C_X12_area R2' I  (fun v2 h2 e2 R2'' c2 ke2 => ?_))
  refine v_istore 567 dL_law_565 (by decide) rfl rfl ?_
  dsimp only [List.set]
  refine v_aload_n 568 dL_law_567 rfl rfl ?_
  refine v_invv (d' := 0) (k' := 0) (n' := 0) (k2 := (k + 1148)) (n2 := (n + 14028)) 571 [] dL_law_568 mt_L_162 mi_X12_thrown me_X12_thrown (by first | assumption | rfl) (by rfl) rfl rfl (of_decide_eq_true rfl) rfl (by decide) rfl rfl rfl rfl (C_X12_thrown ?_)
  rw [c2]
  refine v_iload 573 dL_law_571 rfl rfl ?_
  refine v_icmp_eq 578 576 dL_law_573 (by decide) rfl (fun c573 => ?_) (fun c573 => ?_)
  · refine v_iload 580 dL_law_578 rfl rfl ?_
    refine v_if_ne 595 583 dL_law_580 (by decide) rfl (fun c580 => ?_) (fun c580 => ?_)
    · refine v_goto 3031 dL_law_595 (by decide) ?_
      refine VV.less (Nat.le_refl _) (by omega) (by omega) (K _ _ _ _ _ ⟨R1'.te (fun t ht => ke2.1 t (by omega)), R2'', (I.m (Nat.le_succ N)), J, ke2.2 Fr1, by rw [(ke2.1 80 (by omega)).2.1]; exact l1, by rw [(ke2.1 81 (by omega)).2.1]; exact m1⟩)
    · have hc := nz_3 b1 c580
      refine v_aload_n 584 dL_law_583 rfl rfl ?_
      refine v_iconstv (v := 0) 585 dL_law_584 (by decide) rfl ?_
      refine v_lald 586 dL_law_585 (by first | assumption | rfl) (by rw [(ke2.1 80 (by omega)).2.1, l1]; exact in_nI (m := 0) (by decide) (by decide)) rfl ?_
      rw [show Int32.toNatClampNeg 0 = 0 from rfl, (ke2.1 80 (by omega)).2.2.2.2.1, v1 hc, e2 hc]
      refine v_iload 588 dL_law_586 rfl rfl ?_
      refine v_i2l 589 dL_law_588 rfl ?_
      refine v_lcmp 590 dL_law_589 rfl ?_
      rw [cmp_s]
      refine v_if_eq 595 593 dL_law_590 (by decide) rfl (fun c590 => ?_) (fun c590 => ?_)
      · refine v_goto 3031 dL_law_595 (by decide) ?_
        refine VV.less (Nat.le_refl _) (by omega) (by omega) (K _ _ _ _ _ ⟨R1'.te (fun t ht => ke2.1 t (by omega)), R2'', (I.m (Nat.le_succ N)), J, ke2.2 Fr1, by rw [(ke2.1 80 (by omega)).2.1]; exact l1, by rw [(ke2.1 81 (by omega)).2.1]; exact m1⟩)
      · exact absurd rfl c590
  · exact absurd rfl c573
set_option maxRecDepth 20000 in
theorem W_5 {G : GW} {Q : RS → PH → Prop} {S : SP} {N j k n : Nat} {h : PH} {z6 z7 z8 : Option PV} (hL : gw_L G ≤ 3072) (hj : 6 * j + 6 ≤ gw_L G) (L9 : lw_I S N h) (hN : N ≤ 600) (K : ∀ S' h' z6 z7 z8, lw_I S' (N + 1) h' → VV G 13 k n yL_law cL_law 9 (some .boolean) [] 3031 [some (pv_O (7, 0)), some (pv_O (10, 0)), some (pv_O (40, 0)), some (pv_O (80, 0)), some (pv_O (81, 0)), some (pv_I (nI (6 * j))), z6, z7, z8] [] h' Q) : VV G 13 (k + 1150) (n + 14040) yL_law cL_law 9 (some .boolean) [] 598 [some (pv_O (7, 0)), some (pv_O (10, 0)), some (pv_O (40, 0)), some (pv_O (80, 0)), some (pv_O (81, 0)), some (pv_I (nI (6 * j))), z6, z7, z8] [] h Q := by
  obtain ⟨R1, R2, I, J, Fr, l80, l81⟩ := L9
  refine v_aload_n 599 dL_law_598 rfl rfl ?_
  refine v_aload_n 600 dL_law_599 rfl rfl ?_
  refine v_iload 602 dL_law_600 rfl rfl ?_
  refine v_iconstv (v := 1) 603 dL_law_602 (by decide) rfl ?_
  refine v_iadd 604 dL_law_603 rfl ?_
  rw [show nI (6 * j) + 1 = nI (6 * j + 1) from nI_add (6 * j) 1]
  refine VV.know (fun ho9 _ _ => ?_)
  refine v_iald 605 dL_law_604 (by first | assumption | rfl) (by rw [ho9.2.2.2.2.2.2.2.2.1]; exact in_nI (by omega) (by omega)) rfl ?_
  rw [nI_clamp (by omega), ho9.2.2.2.2.2.2.2.2.2]
  refine v_aload_n 606 dL_law_605 rfl rfl ?_
  refine v_iload 608 dL_law_606 rfl rfl ?_
  refine v_iconstv (v := 2) 609 dL_law_608 (by decide) rfl ?_
  refine v_iadd 610 dL_law_609 rfl ?_
  rw [show nI (6 * j) + 2 = nI (6 * j + 2) from nI_add (6 * j) 2]
  refine VV.know (fun ho9 _ _ => ?_)
  refine v_iald 611 dL_law_610 (by first | assumption | rfl) (by rw [ho9.2.2.2.2.2.2.2.2.1]; exact in_nI (by omega) (by omega)) rfl ?_
  rw [nI_clamp (by omega), ho9.2.2.2.2.2.2.2.2.2]
  refine v_aload_n 612 dL_law_611 rfl rfl ?_
  refine v_invsW (d' := 10) (k' := 2) (n' := 12) (k2 := k + 1148) (n2 := n + 14028) 615 [_, _, _, _] dL_law_612 lk_L_180 md_L_figure ms_L_figure rfl rfl (of_decide_eq_true rfl) rfl (by decide) rfl rfl rfl rfl (C_L_figure R1 I  l80 (fun h1 R1' te1 l1 b1 v1 => ?_))
  have R2' : Rp2 S h1 := R2.te (fun t ht => te1 t (by omega) (by omega))
  have Fr1 : fr_s h1 := (fun t a b => (Fr t a b).te (te1 t (by omega) (by omega)))
  have m1 : hp_ln h1 81 0 = 1 := by rw [(te1 81 (by omega) (by decide)).2.1]; exact l81
  show VV G 13 (k + 1148) (n + 14028) yL_law cL_law 9 (some .boolean) [] 615 _ _ h1 Q
  refine v_istore 617 dL_law_615 (by decide) rfl rfl ?_
  dsimp only [List.set]
  refine v_aload_n 618 dL_law_617 rfl rfl ?_
  refine v_aload_n 619 dL_law_618 rfl rfl ?_
  refine v_iload 621 dL_law_619 rfl rfl ?_
  refine v_iconstv (v := 1) 622 dL_law_621 (by decide) rfl ?_
  refine v_iadd 623 dL_law_622 rfl ?_
  rw [show nI (6 * j) + 1 = nI (6 * j + 1) from nI_add (6 * j) 1]
  refine VV.know (fun ho9 _ _ => ?_)
  refine v_iald 624 dL_law_623 (by first | assumption | rfl) (by rw [ho9.2.2.2.2.2.2.2.2.1]; exact in_nI (by omega) (by omega)) rfl ?_
  rw [nI_clamp (by omega), ho9.2.2.2.2.2.2.2.2.2]
  refine v_aload_n 625 dL_law_624 rfl rfl ?_
  refine v_iload 627 dL_law_625 rfl rfl ?_
  refine v_iconstv (v := 2) 628 dL_law_627 (by decide) rfl ?_
  refine v_iadd 629 dL_law_628 rfl ?_
  rw [show nI (6 * j) + 2 = nI (6 * j + 2) from nI_add (6 * j) 2]
  refine VV.know (fun ho9 _ _ => ?_)
  refine v_iald 630 dL_law_629 (by first | assumption | rfl) (by rw [ho9.2.2.2.2.2.2.2.2.1]; exact in_nI (by omega) (by omega)) rfl ?_
  rw [nI_clamp (by omega), ho9.2.2.2.2.2.2.2.2.2]
  refine v_invv (d' := 9) (k' := 0) (n' := 0) (k2 := (k + 1148)) (n2 := (n + 14028)) 633 [_, _] dL_law_630 mt_L_182 mi_X12_figure me_X12_figure (by first | assumption | rfl) (by rfl) rfl rfl (of_decide_eq_true rfl) rfl (by decide) rfl rfl rfl rfl (C_X12_figure R2' I  (fun v2 h2 e2 R2'' c2 ke2 => ?_))
  refine v_istore 635 dL_law_633 (by decide) rfl rfl ?_
  dsimp only [List.set]
  refine v_aload_n 636 dL_law_635 rfl rfl ?_
  refine v_invv (d' := 0) (k' := 0) (n' := 0) (k2 := (k + 1148)) (n2 := (n + 14028)) 639 [] dL_law_636 mt_L_162 mi_X12_thrown me_X12_thrown (by first | assumption | rfl) (by rfl) rfl rfl (of_decide_eq_true rfl) rfl (by decide) rfl rfl rfl rfl (C_X12_thrown ?_)
  rw [c2]
  refine v_iload 641 dL_law_639 rfl rfl ?_
  refine v_icmp_eq 646 644 dL_law_641 (by decide) rfl (fun c641 => ?_) (fun c641 => ?_)
  · refine v_iload 648 dL_law_646 rfl rfl ?_
    refine v_if_ne 663 651 dL_law_648 (by decide) rfl (fun c648 => ?_) (fun c648 => ?_)
    · refine v_goto 3031 dL_law_663 (by decide) ?_
      refine VV.less (Nat.le_refl _) (by omega) (by omega) (K _ _ _ _ _ ⟨R1'.te (fun t ht => ke2.1 t (by omega)), R2'', (I.m (Nat.le_succ N)), J, ke2.2 Fr1, by rw [(ke2.1 80 (by omega)).2.1]; exact l1, by rw [(ke2.1 81 (by omega)).2.1]; exact m1⟩)
    · have hc := nz_3 b1 c648
      refine v_aload_n 652 dL_law_651 rfl rfl ?_
      refine v_iconstv (v := 0) 653 dL_law_652 (by decide) rfl ?_
      refine v_lald 654 dL_law_653 (by first | assumption | rfl) (by rw [(ke2.1 80 (by omega)).2.1, l1]; exact in_nI (m := 0) (by decide) (by decide)) rfl ?_
      rw [show Int32.toNatClampNeg 0 = 0 from rfl, (ke2.1 80 (by omega)).2.2.2.2.1, v1 hc, e2 hc]
      refine v_iload 656 dL_law_654 rfl rfl ?_
      refine v_i2l 657 dL_law_656 rfl ?_
      refine v_lcmp 658 dL_law_657 rfl ?_
      rw [cmp_s]
      refine v_if_eq 663 661 dL_law_658 (by decide) rfl (fun c658 => ?_) (fun c658 => ?_)
      · refine v_goto 3031 dL_law_663 (by decide) ?_
        refine VV.less (Nat.le_refl _) (by omega) (by omega) (K _ _ _ _ _ ⟨R1'.te (fun t ht => ke2.1 t (by omega)), R2'', (I.m (Nat.le_succ N)), J, ke2.2 Fr1, by rw [(ke2.1 80 (by omega)).2.1]; exact l1, by rw [(ke2.1 81 (by omega)).2.1]; exact m1⟩)
      · exact absurd rfl c658
  · exact absurd rfl c641
set_option maxRecDepth 20000 in
theorem W_6 {G : GW} {Q : RS → PH → Prop} {S : SP} {N j k n : Nat} {h : PH} {z6 z7 z8 : Option PV} (hL : gw_L G ≤ 3072) (hj : 6 * j + 6 ≤ gw_L G) (L9 : lw_I S N h) (hN : N ≤ 600) (K : ∀ S' h' z6 z7 z8, lw_I S' (N + 1) h' → VV G 13 k n yL_law cL_law 9 (some .boolean) [] 3031 [some (pv_O (7, 0)), some (pv_O (10, 0)), some (pv_O (40, 0)), some (pv_O (80, 0)), some (pv_O (81, 0)), some (pv_I (nI (6 * j))), z6, z7, z8] [] h' Q) : VV G 13 (k + 1150) (n + 14040) yL_law cL_law 9 (some .boolean) [] 666 [some (pv_O (7, 0)), some (pv_O (10, 0)), some (pv_O (40, 0)), some (pv_O (80, 0)), some (pv_O (81, 0)), some (pv_I (nI (6 * j))), z6, z7, z8] [] h Q := by
  obtain ⟨R1, R2, I, J, Fr, l80, l81⟩ := L9
  refine v_aload_n 667 dL_law_666 rfl rfl ?_
  refine v_aload_n 668 dL_law_667 rfl rfl ?_
  refine v_iload 670 dL_law_668 rfl rfl ?_
  refine v_iconstv (v := 1) 671 dL_law_670 (by decide) rfl ?_
  refine v_iadd 672 dL_law_671 rfl ?_
  rw [show nI (6 * j) + 1 = nI (6 * j + 1) from nI_add (6 * j) 1]
  refine VV.know (fun ho9 _ _ => ?_)
  refine v_iald 673 dL_law_672 (by first | assumption | rfl) (by rw [ho9.2.2.2.2.2.2.2.2.1]; exact in_nI (by omega) (by omega)) rfl ?_
  rw [nI_clamp (by omega), ho9.2.2.2.2.2.2.2.2.2]
  refine v_aload_n 674 dL_law_673 rfl rfl ?_
  refine v_iload 676 dL_law_674 rfl rfl ?_
  refine v_iconstv (v := 2) 677 dL_law_676 (by decide) rfl ?_
  refine v_iadd 678 dL_law_677 rfl ?_
  rw [show nI (6 * j) + 2 = nI (6 * j + 2) from nI_add (6 * j) 2]
  refine VV.know (fun ho9 _ _ => ?_)
  refine v_iald 679 dL_law_678 (by first | assumption | rfl) (by rw [ho9.2.2.2.2.2.2.2.2.1]; exact in_nI (by omega) (by omega)) rfl ?_
  rw [nI_clamp (by omega), ho9.2.2.2.2.2.2.2.2.2]
  refine v_aload_n 680 dL_law_679 rfl rfl ?_
  refine v_invsW (d' := 10) (k' := 2) (n' := 12) (k2 := k + 1148) (n2 := n + 14028) 683 [_, _, _, _] dL_law_680 lk_L_183 md_L_isUsed ms_L_isUsed rfl rfl (of_decide_eq_true rfl) rfl (by decide) rfl rfl rfl rfl (C_L_isUsed R1 I  l80 (fun h1 R1' te1 l1 b1 v1 => ?_))
  have R2' : Rp2 S h1 := R2.te (fun t ht => te1 t (by omega) (by omega))
  have Fr1 : fr_s h1 := (fun t a b => (Fr t a b).te (te1 t (by omega) (by omega)))
  have m1 : hp_ln h1 81 0 = 1 := by rw [(te1 81 (by omega) (by decide)).2.1]; exact l81
  show VV G 13 (k + 1148) (n + 14028) yL_law cL_law 9 (some .boolean) [] 683 _ _ h1 Q
  refine v_istore 685 dL_law_683 (by decide) rfl rfl ?_
  dsimp only [List.set]
  refine v_aload_n 686 dL_law_685 rfl rfl ?_
  refine v_aload_n 687 dL_law_686 rfl rfl ?_
  refine v_iload 689 dL_law_687 rfl rfl ?_
  refine v_iconstv (v := 1) 690 dL_law_689 (by decide) rfl ?_
  refine v_iadd 691 dL_law_690 rfl ?_
  rw [show nI (6 * j) + 1 = nI (6 * j + 1) from nI_add (6 * j) 1]
  refine VV.know (fun ho9 _ _ => ?_)
  refine v_iald 692 dL_law_691 (by first | assumption | rfl) (by rw [ho9.2.2.2.2.2.2.2.2.1]; exact in_nI (by omega) (by omega)) rfl ?_
  rw [nI_clamp (by omega), ho9.2.2.2.2.2.2.2.2.2]
  refine v_aload_n 693 dL_law_692 rfl rfl ?_
  refine v_iload 695 dL_law_693 rfl rfl ?_
  refine v_iconstv (v := 2) 696 dL_law_695 (by decide) rfl ?_
  refine v_iadd 697 dL_law_696 rfl ?_
  rw [show nI (6 * j) + 2 = nI (6 * j + 2) from nI_add (6 * j) 2]
  refine VV.know (fun ho9 _ _ => ?_)
  refine v_iald 698 dL_law_697 (by first | assumption | rfl) (by rw [ho9.2.2.2.2.2.2.2.2.1]; exact in_nI (by omega) (by omega)) rfl ?_
  rw [nI_clamp (by omega), ho9.2.2.2.2.2.2.2.2.2]
  refine v_invv (d' := 9) (k' := 0) (n' := 0) (k2 := (k + 1148)) (n2 := (n + 14028)) 701 [_, _] dL_law_698 mt_L_185 mi_X12_isUsed me_X12_isUsed (by first | assumption | rfl) (by rfl) rfl rfl (of_decide_eq_true rfl) rfl (by decide) rfl rfl rfl rfl (C_X12_isUsed R2' I  (fun v2 h2 e2 R2'' c2 ke2 => ?_))
  refine v_istore 703 dL_law_701 (by decide) rfl rfl ?_
  dsimp only [List.set]
  refine v_aload_n 704 dL_law_703 rfl rfl ?_
  refine v_invv (d' := 0) (k' := 0) (n' := 0) (k2 := (k + 1148)) (n2 := (n + 14028)) 707 [] dL_law_704 mt_L_162 mi_X12_thrown me_X12_thrown (by first | assumption | rfl) (by rfl) rfl rfl (of_decide_eq_true rfl) rfl (by decide) rfl rfl rfl rfl (C_X12_thrown ?_)
  rw [c2]
  refine v_iload 709 dL_law_707 rfl rfl ?_
  refine v_icmp_eq 714 712 dL_law_709 (by decide) rfl (fun c709 => ?_) (fun c709 => ?_)
  · refine v_iload 716 dL_law_714 rfl rfl ?_
    refine v_if_ne 738 719 dL_law_716 (by decide) rfl (fun c716 => ?_) (fun c716 => ?_)
    · refine v_goto 3031 dL_law_738 (by decide) ?_
      refine VV.less (Nat.le_refl _) (by omega) (by omega) (K _ _ _ _ _ ⟨R1'.te (fun t ht => ke2.1 t (by omega)), R2'', (I.m (Nat.le_succ N)), J, ke2.2 Fr1, by rw [(ke2.1 80 (by omega)).2.1]; exact l1, by rw [(ke2.1 81 (by omega)).2.1]; exact m1⟩)
    · have hc := nz_3 b1 c716
      refine v_aload_n 720 dL_law_719 rfl rfl ?_
      refine v_iconstv (v := 0) 721 dL_law_720 (by decide) rfl ?_
      refine v_lald 722 dL_law_721 (by first | assumption | rfl) (by rw [(ke2.1 80 (by omega)).2.1, l1]; exact in_nI (m := 0) (by decide) (by decide)) rfl ?_
      rw [show Int32.toNatClampNeg 0 = 0 from rfl, (ke2.1 80 (by omega)).2.2.2.2.1, v1 hc, e2 hc]
      refine v_iload 724 dL_law_722 rfl rfl ?_
      refine v_if_eq 731 727 dL_law_724 (by decide) rfl (fun c724 => ?_) (fun c724 => ?_)
      · rw [if_pos c724]
        refine v_lconst (v := 0) 732 dL_law_731 (by decide) rfl ?_
        refine v_lcmp 733 dL_law_732 rfl ?_
        rw [cmp_s]
        refine v_if_eq 738 736 dL_law_733 (by decide) rfl (fun c733 => ?_) (fun c733 => ?_)
        · refine v_goto 3031 dL_law_738 (by decide) ?_
          refine VV.less (Nat.le_refl _) (by omega) (by omega) (K _ _ _ _ _ ⟨R1'.te (fun t ht => ke2.1 t (by omega)), R2'', (I.m (Nat.le_succ N)), J, ke2.2 Fr1, by rw [(ke2.1 80 (by omega)).2.1]; exact l1, by rw [(ke2.1 81 (by omega)).2.1]; exact m1⟩)
        · exact absurd rfl c733
      · rw [if_neg c724]
        refine v_lconst (v := 1) 728 dL_law_727 (by decide) rfl ?_
        refine v_goto 732 dL_law_728 (by decide) ?_
        refine v_lcmp 733 dL_law_732 rfl ?_
        rw [cmp_s]
        refine v_if_eq 738 736 dL_law_733 (by decide) rfl (fun c733 => ?_) (fun c733 => ?_)
        · refine v_goto 3031 dL_law_738 (by decide) ?_
          refine VV.less (Nat.le_refl _) (by omega) (by omega) (K _ _ _ _ _ ⟨R1'.te (fun t ht => ke2.1 t (by omega)), R2'', (I.m (Nat.le_succ N)), J, ke2.2 Fr1, by rw [(ke2.1 80 (by omega)).2.1]; exact l1, by rw [(ke2.1 81 (by omega)).2.1]; exact m1⟩)
        · exact absurd rfl c733
  · exact absurd rfl c709
set_option maxRecDepth 20000 in
theorem W_7 {G : GW} {Q : RS → PH → Prop} {S : SP} {N j k n : Nat} {h : PH} {z6 z7 z8 : Option PV} (hL : gw_L G ≤ 3072) (hj : 6 * j + 6 ≤ gw_L G) (L9 : lw_I S N h) (hN : N ≤ 600) (K : ∀ S' h' z6 z7 z8, lw_I S' (N + 1) h' → VV G 13 k n yL_law cL_law 9 (some .boolean) [] 3031 [some (pv_O (7, 0)), some (pv_O (10, 0)), some (pv_O (40, 0)), some (pv_O (80, 0)), some (pv_O (81, 0)), some (pv_I (nI (6 * j))), z6, z7, z8] [] h' Q) : VV G 13 (k + 1150) (n + 14040) yL_law cL_law 9 (some .boolean) [] 741 [some (pv_O (7, 0)), some (pv_O (10, 0)), some (pv_O (40, 0)), some (pv_O (80, 0)), some (pv_O (81, 0)), some (pv_I (nI (6 * j))), z6, z7, z8] [] h Q := by
  obtain ⟨R1, R2, I, J, Fr, l80, l81⟩ := L9
  refine v_aload_n 742 dL_law_741 rfl rfl ?_
  refine v_aload_n 743 dL_law_742 rfl rfl ?_
  refine v_iload 745 dL_law_743 rfl rfl ?_
  refine v_iconstv (v := 1) 746 dL_law_745 (by decide) rfl ?_
  refine v_iadd 747 dL_law_746 rfl ?_
  rw [show nI (6 * j) + 1 = nI (6 * j + 1) from nI_add (6 * j) 1]
  refine VV.know (fun ho9 _ _ => ?_)
  refine v_iald 748 dL_law_747 (by first | assumption | rfl) (by rw [ho9.2.2.2.2.2.2.2.2.1]; exact in_nI (by omega) (by omega)) rfl ?_
  rw [nI_clamp (by omega), ho9.2.2.2.2.2.2.2.2.2]
  refine v_aload_n 749 dL_law_748 rfl rfl ?_
  refine v_iload 751 dL_law_749 rfl rfl ?_
  refine v_iconstv (v := 2) 752 dL_law_751 (by decide) rfl ?_
  refine v_iadd 753 dL_law_752 rfl ?_
  rw [show nI (6 * j) + 2 = nI (6 * j + 2) from nI_add (6 * j) 2]
  refine VV.know (fun ho9 _ _ => ?_)
  refine v_iald 754 dL_law_753 (by first | assumption | rfl) (by rw [ho9.2.2.2.2.2.2.2.2.1]; exact in_nI (by omega) (by omega)) rfl ?_
  rw [nI_clamp (by omega), ho9.2.2.2.2.2.2.2.2.2]
  refine v_aload_n 755 dL_law_754 rfl rfl ?_
  refine v_iload 757 dL_law_755 rfl rfl ?_
  refine v_iconstv (v := 3) 758 dL_law_757 (by decide) rfl ?_
  refine v_iadd 759 dL_law_758 rfl ?_
  rw [show nI (6 * j) + 3 = nI (6 * j + 3) from nI_add (6 * j) 3]
  refine VV.know (fun ho9 _ _ => ?_)
  refine v_iald 760 dL_law_759 (by first | assumption | rfl) (by rw [ho9.2.2.2.2.2.2.2.2.1]; exact in_nI (by omega) (by omega)) rfl ?_
  rw [nI_clamp (by omega), ho9.2.2.2.2.2.2.2.2.2]
  refine v_i2c 761 dL_law_760 rfl ?_
  refine v_aload_n 762 dL_law_761 rfl rfl ?_
  refine v_iload 764 dL_law_762 rfl rfl ?_
  refine v_iconstv (v := 4) 765 dL_law_764 (by decide) rfl ?_
  refine v_iadd 766 dL_law_765 rfl ?_
  rw [show nI (6 * j) + 4 = nI (6 * j + 4) from nI_add (6 * j) 4]
  refine VV.know (fun ho9 _ _ => ?_)
  refine v_iald 767 dL_law_766 (by first | assumption | rfl) (by rw [ho9.2.2.2.2.2.2.2.2.1]; exact in_nI (by omega) (by omega)) rfl ?_
  rw [nI_clamp (by omega), ho9.2.2.2.2.2.2.2.2.2]
  refine v_aload_n 768 dL_law_767 rfl rfl ?_
  refine v_invsW (d' := 9) (k' := 3) (n' := 60) (k2 := k + 1147) (n2 := n + 13980) 771 [_, _, _, _, _, _] dL_law_768 lk_L_186 md_L_panel ms_L_panel rfl rfl (of_decide_eq_true rfl) rfl (by decide) rfl rfl rfl rfl (C_L_panel R1 I (cr_ _) l80 (fun h1 R1' te1 l1 b1 v1 => ?_))
  have R2' : Rp2 S h1 := R2.te (fun t ht => te1 t (by omega) (by omega))
  have Fr1 : fr_s h1 := (fun t a b => (Fr t a b).te (te1 t (by omega) (by omega)))
  have m1 : hp_ln h1 81 0 = 1 := by rw [(te1 81 (by omega) (by decide)).2.1]; exact l81
  show VV G 13 (k + 1147) (n + 13980) yL_law cL_law 9 (some .boolean) [] 771 _ _ h1 Q
  refine v_istore 773 dL_law_771 (by decide) rfl rfl ?_
  dsimp only [List.set]
  refine v_aload_n 774 dL_law_773 rfl rfl ?_
  refine v_aload_n 775 dL_law_774 rfl rfl ?_
  refine v_iload 777 dL_law_775 rfl rfl ?_
  refine v_iconstv (v := 1) 778 dL_law_777 (by decide) rfl ?_
  refine v_iadd 779 dL_law_778 rfl ?_
  rw [show nI (6 * j) + 1 = nI (6 * j + 1) from nI_add (6 * j) 1]
  refine VV.know (fun ho9 _ _ => ?_)
  refine v_iald 780 dL_law_779 (by first | assumption | rfl) (by rw [ho9.2.2.2.2.2.2.2.2.1]; exact in_nI (by omega) (by omega)) rfl ?_
  rw [nI_clamp (by omega), ho9.2.2.2.2.2.2.2.2.2]
  refine v_aload_n 781 dL_law_780 rfl rfl ?_
  refine v_iload 783 dL_law_781 rfl rfl ?_
  refine v_iconstv (v := 2) 784 dL_law_783 (by decide) rfl ?_
  refine v_iadd 785 dL_law_784 rfl ?_
  rw [show nI (6 * j) + 2 = nI (6 * j + 2) from nI_add (6 * j) 2]
  refine VV.know (fun ho9 _ _ => ?_)
  refine v_iald 786 dL_law_785 (by first | assumption | rfl) (by rw [ho9.2.2.2.2.2.2.2.2.1]; exact in_nI (by omega) (by omega)) rfl ?_
  rw [nI_clamp (by omega), ho9.2.2.2.2.2.2.2.2.2]
  refine v_aload_n 787 dL_law_786 rfl rfl ?_
  refine v_iload 789 dL_law_787 rfl rfl ?_
  refine v_iconstv (v := 3) 790 dL_law_789 (by decide) rfl ?_
  refine v_iadd 791 dL_law_790 rfl ?_
  rw [show nI (6 * j) + 3 = nI (6 * j + 3) from nI_add (6 * j) 3]
  refine VV.know (fun ho9 _ _ => ?_)
  refine v_iald 792 dL_law_791 (by first | assumption | rfl) (by rw [ho9.2.2.2.2.2.2.2.2.1]; exact in_nI (by omega) (by omega)) rfl ?_
  rw [nI_clamp (by omega), ho9.2.2.2.2.2.2.2.2.2]
  refine v_i2c 793 dL_law_792 rfl ?_
  refine v_aload_n 794 dL_law_793 rfl rfl ?_
  refine v_iload 796 dL_law_794 rfl rfl ?_
  refine v_iconstv (v := 4) 797 dL_law_796 (by decide) rfl ?_
  refine v_iadd 798 dL_law_797 rfl ?_
  rw [show nI (6 * j) + 4 = nI (6 * j + 4) from nI_add (6 * j) 4]
  refine VV.know (fun ho9 _ _ => ?_)
  refine v_iald 799 dL_law_798 (by first | assumption | rfl) (by rw [ho9.2.2.2.2.2.2.2.2.1]; exact in_nI (by omega) (by omega)) rfl ?_
  rw [nI_clamp (by omega), ho9.2.2.2.2.2.2.2.2.2]
  refine v_invv (d' := 9) (k' := 3) (n' := 75) (k2 := (k + 1144)) (n2 := (n + 13905)) 802 [_, _, _, _] dL_law_799 mt_L_189 mi_X12_panel me_X12_panel (by first | assumption | rfl) (by rfl) rfl rfl (of_decide_eq_true rfl) rfl (by decide) rfl rfl rfl rfl (C_X12_panel R2' I (cr_ _) (fun v2 h2 e2 R2'' c2 ke2 => ?_))
  refine v_istore 804 dL_law_802 (by decide) rfl rfl ?_
  dsimp only [List.set]
  refine v_aload_n 805 dL_law_804 rfl rfl ?_
  refine v_invv (d' := 0) (k' := 0) (n' := 0) (k2 := (k + 1144)) (n2 := (n + 13905)) 808 [] dL_law_805 mt_L_162 mi_X12_thrown me_X12_thrown (by first | assumption | rfl) (by rfl) rfl rfl (of_decide_eq_true rfl) rfl (by decide) rfl rfl rfl rfl (C_X12_thrown ?_)
  rw [c2]
  refine v_iload 810 dL_law_808 rfl rfl ?_
  refine v_icmp_eq 815 813 dL_law_810 (by decide) rfl (fun c810 => ?_) (fun c810 => ?_)
  · refine v_iload 817 dL_law_815 rfl rfl ?_
    refine v_if_ne 832 820 dL_law_817 (by decide) rfl (fun c817 => ?_) (fun c817 => ?_)
    · refine v_goto 3031 dL_law_832 (by decide) ?_
      refine VV.less (Nat.le_refl _) (by omega) (by omega) (K _ _ _ _ _ ⟨R1'.te (fun t ht => ke2.1 t (by omega)), R2'', (iv_panel I), (j2_panel J I.cs.2.2.1), ke2.2 Fr1, by rw [(ke2.1 80 (by omega)).2.1]; exact l1, by rw [(ke2.1 81 (by omega)).2.1]; exact m1⟩)
    · have hc := nz_3 b1 c817
      refine v_aload_n 821 dL_law_820 rfl rfl ?_
      refine v_iconstv (v := 0) 822 dL_law_821 (by decide) rfl ?_
      refine v_lald 823 dL_law_822 (by first | assumption | rfl) (by rw [(ke2.1 80 (by omega)).2.1, l1]; exact in_nI (m := 0) (by decide) (by decide)) rfl ?_
      rw [show Int32.toNatClampNeg 0 = 0 from rfl, (ke2.1 80 (by omega)).2.2.2.2.1, v1 hc, e2 hc]
      refine v_iload 825 dL_law_823 rfl rfl ?_
      refine v_i2l 826 dL_law_825 rfl ?_
      refine v_lcmp 827 dL_law_826 rfl ?_
      rw [cmp_s]
      refine v_if_eq 832 830 dL_law_827 (by decide) rfl (fun c827 => ?_) (fun c827 => ?_)
      · refine v_goto 3031 dL_law_832 (by decide) ?_
        refine VV.less (Nat.le_refl _) (by omega) (by omega) (K _ _ _ _ _ ⟨R1'.te (fun t ht => ke2.1 t (by omega)), R2'', (iv_panel I), (j2_panel J I.cs.2.2.1), ke2.2 Fr1, by rw [(ke2.1 80 (by omega)).2.1]; exact l1, by rw [(ke2.1 81 (by omega)).2.1]; exact m1⟩)
      · exact absurd rfl c827
  · exact absurd rfl c810
set_option maxRecDepth 20000 in
theorem W_8 {G : GW} {Q : RS → PH → Prop} {S : SP} {N j k n : Nat} {h : PH} {z6 z7 z8 : Option PV} (hL : gw_L G ≤ 3072) (hj : 6 * j + 6 ≤ gw_L G) (L9 : lw_I S N h) (hN : N ≤ 600) (K : ∀ S' h' z6 z7 z8, lw_I S' (N + 1) h' → VV G 13 k n yL_law cL_law 9 (some .boolean) [] 3031 [some (pv_O (7, 0)), some (pv_O (10, 0)), some (pv_O (40, 0)), some (pv_O (80, 0)), some (pv_O (81, 0)), some (pv_I (nI (6 * j))), z6, z7, z8] [] h' Q) : VV G 13 (k + 1150) (n + 14040) yL_law cL_law 9 (some .boolean) [] 835 [some (pv_O (7, 0)), some (pv_O (10, 0)), some (pv_O (40, 0)), some (pv_O (80, 0)), some (pv_O (81, 0)), some (pv_I (nI (6 * j))), z6, z7, z8] [] h Q := by
  obtain ⟨R1, R2, I, J, Fr, l80, l81⟩ := L9
  refine v_aload_n 836 dL_law_835 rfl rfl ?_
  refine v_aload_n 837 dL_law_836 rfl rfl ?_
  refine v_iload 839 dL_law_837 rfl rfl ?_
  refine v_iconstv (v := 1) 840 dL_law_839 (by decide) rfl ?_
  refine v_iadd 841 dL_law_840 rfl ?_
  rw [show nI (6 * j) + 1 = nI (6 * j + 1) from nI_add (6 * j) 1]
  refine VV.know (fun ho9 _ _ => ?_)
  refine v_iald 842 dL_law_841 (by first | assumption | rfl) (by rw [ho9.2.2.2.2.2.2.2.2.1]; exact in_nI (by omega) (by omega)) rfl ?_
  rw [nI_clamp (by omega), ho9.2.2.2.2.2.2.2.2.2]
  refine v_aload_n 843 dL_law_842 rfl rfl ?_
  refine v_iload 845 dL_law_843 rfl rfl ?_
  refine v_iconstv (v := 2) 846 dL_law_845 (by decide) rfl ?_
  refine v_iadd 847 dL_law_846 rfl ?_
  rw [show nI (6 * j) + 2 = nI (6 * j + 2) from nI_add (6 * j) 2]
  refine VV.know (fun ho9 _ _ => ?_)
  refine v_iald 848 dL_law_847 (by first | assumption | rfl) (by rw [ho9.2.2.2.2.2.2.2.2.1]; exact in_nI (by omega) (by omega)) rfl ?_
  rw [nI_clamp (by omega), ho9.2.2.2.2.2.2.2.2.2]
  refine v_aload_n 849 dL_law_848 rfl rfl ?_
  refine v_iload 851 dL_law_849 rfl rfl ?_
  refine v_iconstv (v := 3) 852 dL_law_851 (by decide) rfl ?_
  refine v_iadd 853 dL_law_852 rfl ?_
  rw [show nI (6 * j) + 3 = nI (6 * j + 3) from nI_add (6 * j) 3]
  refine VV.know (fun ho9 _ _ => ?_)
  refine v_iald 854 dL_law_853 (by first | assumption | rfl) (by rw [ho9.2.2.2.2.2.2.2.2.1]; exact in_nI (by omega) (by omega)) rfl ?_
  rw [nI_clamp (by omega), ho9.2.2.2.2.2.2.2.2.2]
  refine v_aload_n 855 dL_law_854 rfl rfl ?_
  refine v_iload 857 dL_law_855 rfl rfl ?_
  refine v_iconstv (v := 4) 858 dL_law_857 (by decide) rfl ?_
  refine v_iadd 859 dL_law_858 rfl ?_
  rw [show nI (6 * j) + 4 = nI (6 * j + 4) from nI_add (6 * j) 4]
  refine VV.know (fun ho9 _ _ => ?_)
  refine v_iald 860 dL_law_859 (by first | assumption | rfl) (by rw [ho9.2.2.2.2.2.2.2.2.1]; exact in_nI (by omega) (by omega)) rfl ?_
  rw [nI_clamp (by omega), ho9.2.2.2.2.2.2.2.2.2]
  refine v_aload_n 861 dL_law_860 rfl rfl ?_
  refine v_iload 863 dL_law_861 rfl rfl ?_
  refine v_iconstv (v := 5) 864 dL_law_863 (by decide) rfl ?_
  refine v_iadd 865 dL_law_864 rfl ?_
  rw [show nI (6 * j) + 5 = nI (6 * j + 5) from nI_add (6 * j) 5]
  refine VV.know (fun ho9 _ _ => ?_)
  refine v_iald 866 dL_law_865 (by first | assumption | rfl) (by rw [ho9.2.2.2.2.2.2.2.2.1]; exact in_nI (by omega) (by omega)) rfl ?_
  rw [nI_clamp (by omega), ho9.2.2.2.2.2.2.2.2.2]
  refine v_i2c 867 dL_law_866 rfl ?_
  refine v_aload_n 868 dL_law_867 rfl rfl ?_
  refine v_invsW (d' := 12) (k' := 26) (n' := 2060) (k2 := k + 1124) (n2 := n + 11980) 871 [_, _, _, _, _, _, _] dL_law_868 lk_L_190 md_L_face ms_L_face rfl rfl (of_decide_eq_true rfl) rfl (by decide) rfl rfl rfl rfl (C_L_face R1 I (cr_ _) l80 (fun h1 R1' te1 l1 b1 v1 => ?_))
  have R2' : Rp2 S h1 := R2.te (fun t ht => te1 t (by omega) (by omega))
  have Fr1 : fr_s h1 := (fun t a b => (Fr t a b).te (te1 t (by omega) (by omega)))
  have m1 : hp_ln h1 81 0 = 1 := by rw [(te1 81 (by omega) (by decide)).2.1]; exact l81
  show VV G 13 (k + 1124) (n + 11980) yL_law cL_law 9 (some .boolean) [] 871 _ _ h1 Q
  refine v_istore 873 dL_law_871 (by decide) rfl rfl ?_
  dsimp only [List.set]
  refine v_aload_n 874 dL_law_873 rfl rfl ?_
  refine v_aload_n 875 dL_law_874 rfl rfl ?_
  refine v_iload 877 dL_law_875 rfl rfl ?_
  refine v_iconstv (v := 1) 878 dL_law_877 (by decide) rfl ?_
  refine v_iadd 879 dL_law_878 rfl ?_
  rw [show nI (6 * j) + 1 = nI (6 * j + 1) from nI_add (6 * j) 1]
  refine VV.know (fun ho9 _ _ => ?_)
  refine v_iald 880 dL_law_879 (by first | assumption | rfl) (by rw [ho9.2.2.2.2.2.2.2.2.1]; exact in_nI (by omega) (by omega)) rfl ?_
  rw [nI_clamp (by omega), ho9.2.2.2.2.2.2.2.2.2]
  refine v_aload_n 881 dL_law_880 rfl rfl ?_
  refine v_iload 883 dL_law_881 rfl rfl ?_
  refine v_iconstv (v := 2) 884 dL_law_883 (by decide) rfl ?_
  refine v_iadd 885 dL_law_884 rfl ?_
  rw [show nI (6 * j) + 2 = nI (6 * j + 2) from nI_add (6 * j) 2]
  refine VV.know (fun ho9 _ _ => ?_)
  refine v_iald 886 dL_law_885 (by first | assumption | rfl) (by rw [ho9.2.2.2.2.2.2.2.2.1]; exact in_nI (by omega) (by omega)) rfl ?_
  rw [nI_clamp (by omega), ho9.2.2.2.2.2.2.2.2.2]
  refine v_aload_n 887 dL_law_886 rfl rfl ?_
  refine v_iload 889 dL_law_887 rfl rfl ?_
  refine v_iconstv (v := 3) 890 dL_law_889 (by decide) rfl ?_
  refine v_iadd 891 dL_law_890 rfl ?_
  rw [show nI (6 * j) + 3 = nI (6 * j + 3) from nI_add (6 * j) 3]
  refine VV.know (fun ho9 _ _ => ?_)
  refine v_iald 892 dL_law_891 (by first | assumption | rfl) (by rw [ho9.2.2.2.2.2.2.2.2.1]; exact in_nI (by omega) (by omega)) rfl ?_
  rw [nI_clamp (by omega), ho9.2.2.2.2.2.2.2.2.2]
  refine v_aload_n 893 dL_law_892 rfl rfl ?_
  refine v_iload 895 dL_law_893 rfl rfl ?_
  refine v_iconstv (v := 4) 896 dL_law_895 (by decide) rfl ?_
  refine v_iadd 897 dL_law_896 rfl ?_
  rw [show nI (6 * j) + 4 = nI (6 * j + 4) from nI_add (6 * j) 4]
  refine VV.know (fun ho9 _ _ => ?_)
  refine v_iald 898 dL_law_897 (by first | assumption | rfl) (by rw [ho9.2.2.2.2.2.2.2.2.1]; exact in_nI (by omega) (by omega)) rfl ?_
  rw [nI_clamp (by omega), ho9.2.2.2.2.2.2.2.2.2]
  refine v_aload_n 899 dL_law_898 rfl rfl ?_
  refine v_iload 901 dL_law_899 rfl rfl ?_
  refine v_iconstv (v := 5) 902 dL_law_901 (by decide) rfl ?_
  refine v_iadd 903 dL_law_902 rfl ?_
  rw [show nI (6 * j) + 5 = nI (6 * j + 5) from nI_add (6 * j) 5]
  refine VV.know (fun ho9 _ _ => ?_)
  refine v_iald 904 dL_law_903 (by first | assumption | rfl) (by rw [ho9.2.2.2.2.2.2.2.2.1]; exact in_nI (by omega) (by omega)) rfl ?_
  rw [nI_clamp (by omega), ho9.2.2.2.2.2.2.2.2.2]
  refine v_i2c 905 dL_law_904 rfl ?_
  refine v_invv (d' := 10) (k' := 30) (n' := 2100) (k2 := (k + 1094)) (n2 := (n + 9880)) 908 [_, _, _, _, _] dL_law_905 mt_L_193 mi_X12_face me_X12_face (by first | assumption | rfl) (by rfl) rfl rfl (of_decide_eq_true rfl) rfl (by decide) rfl rfl rfl rfl (C_X12_face R2' I Fr1 (cr_ _) (fun v2 h2 e2 R2'' c2 ke2 => ?_))
  refine v_istore 910 dL_law_908 (by decide) rfl rfl ?_
  dsimp only [List.set]
  refine v_aload_n 911 dL_law_910 rfl rfl ?_
  refine v_invv (d' := 0) (k' := 0) (n' := 0) (k2 := (k + 1094)) (n2 := (n + 9880)) 914 [] dL_law_911 mt_L_162 mi_X12_thrown me_X12_thrown (by first | assumption | rfl) (by rfl) rfl rfl (of_decide_eq_true rfl) rfl (by decide) rfl rfl rfl rfl (C_X12_thrown ?_)
  rw [c2]
  refine v_iload 916 dL_law_914 rfl rfl ?_
  refine v_icmp_eq 921 919 dL_law_916 (by decide) rfl (fun c916 => ?_) (fun c916 => ?_)
  · refine v_iload 923 dL_law_921 rfl rfl ?_
    refine v_if_ne 938 926 dL_law_923 (by decide) rfl (fun c923 => ?_) (fun c923 => ?_)
    · refine v_goto 3031 dL_law_938 (by decide) ?_
      refine VV.less (Nat.le_refl _) (by omega) (by omega) (K _ _ _ _ _ ⟨R1'.te (fun t ht => ke2.1 t (by omega)), R2'', (iv_face I J).1, (iv_face I J).2, ke2.2 Fr1, by rw [(ke2.1 80 (by omega)).2.1]; exact l1, by rw [(ke2.1 81 (by omega)).2.1]; exact m1⟩)
    · have hc := nz_3 b1 c923
      refine v_aload_n 927 dL_law_926 rfl rfl ?_
      refine v_iconstv (v := 0) 928 dL_law_927 (by decide) rfl ?_
      refine v_lald 929 dL_law_928 (by first | assumption | rfl) (by rw [(ke2.1 80 (by omega)).2.1, l1]; exact in_nI (m := 0) (by decide) (by decide)) rfl ?_
      rw [show Int32.toNatClampNeg 0 = 0 from rfl, (ke2.1 80 (by omega)).2.2.2.2.1, v1 hc, e2 hc]
      refine v_iload 931 dL_law_929 rfl rfl ?_
      refine v_i2l 932 dL_law_931 rfl ?_
      refine v_lcmp 933 dL_law_932 rfl ?_
      rw [cmp_s]
      refine v_if_eq 938 936 dL_law_933 (by decide) rfl (fun c933 => ?_) (fun c933 => ?_)
      · refine v_goto 3031 dL_law_938 (by decide) ?_
        refine VV.less (Nat.le_refl _) (by omega) (by omega) (K _ _ _ _ _ ⟨R1'.te (fun t ht => ke2.1 t (by omega)), R2'', (iv_face I J).1, (iv_face I J).2, ke2.2 Fr1, by rw [(ke2.1 80 (by omega)).2.1]; exact l1, by rw [(ke2.1 81 (by omega)).2.1]; exact m1⟩)
      · exact absurd rfl c933
  · exact absurd rfl c916
set_option maxRecDepth 20000 in
theorem W_9 {G : GW} {Q : RS → PH → Prop} {S : SP} {N j k n : Nat} {h : PH} {z6 z7 z8 : Option PV} (hL : gw_L G ≤ 3072) (hj : 6 * j + 6 ≤ gw_L G) (L9 : lw_I S N h) (hN : N ≤ 600) (K : ∀ S' h' z6 z7 z8, lw_I S' (N + 1) h' → VV G 13 k n yL_law cL_law 9 (some .boolean) [] 3031 [some (pv_O (7, 0)), some (pv_O (10, 0)), some (pv_O (40, 0)), some (pv_O (80, 0)), some (pv_O (81, 0)), some (pv_I (nI (6 * j))), z6, z7, z8] [] h' Q) : VV G 13 (k + 1150) (n + 14040) yL_law cL_law 9 (some .boolean) [] 941 [some (pv_O (7, 0)), some (pv_O (10, 0)), some (pv_O (40, 0)), some (pv_O (80, 0)), some (pv_O (81, 0)), some (pv_I (nI (6 * j))), z6, z7, z8] [] h Q := by
  obtain ⟨R1, R2, I, J, Fr, l80, l81⟩ := L9
  refine v_aload_n 942 dL_law_941 rfl rfl ?_
  refine v_aload_n 943 dL_law_942 rfl rfl ?_
  refine v_iload 945 dL_law_943 rfl rfl ?_
  refine v_iconstv (v := 1) 946 dL_law_945 (by decide) rfl ?_
  refine v_iadd 947 dL_law_946 rfl ?_
  rw [show nI (6 * j) + 1 = nI (6 * j + 1) from nI_add (6 * j) 1]
  refine VV.know (fun ho9 _ _ => ?_)
  refine v_iald 948 dL_law_947 (by first | assumption | rfl) (by rw [ho9.2.2.2.2.2.2.2.2.1]; exact in_nI (by omega) (by omega)) rfl ?_
  rw [nI_clamp (by omega), ho9.2.2.2.2.2.2.2.2.2]
  refine v_aload_n 949 dL_law_948 rfl rfl ?_
  refine v_iload 951 dL_law_949 rfl rfl ?_
  refine v_iconstv (v := 2) 952 dL_law_951 (by decide) rfl ?_
  refine v_iadd 953 dL_law_952 rfl ?_
  rw [show nI (6 * j) + 2 = nI (6 * j + 2) from nI_add (6 * j) 2]
  refine VV.know (fun ho9 _ _ => ?_)
  refine v_iald 954 dL_law_953 (by first | assumption | rfl) (by rw [ho9.2.2.2.2.2.2.2.2.1]; exact in_nI (by omega) (by omega)) rfl ?_
  rw [nI_clamp (by omega), ho9.2.2.2.2.2.2.2.2.2]
  refine v_aload_n 955 dL_law_954 rfl rfl ?_
  refine v_iload 957 dL_law_955 rfl rfl ?_
  refine v_iconstv (v := 3) 958 dL_law_957 (by decide) rfl ?_
  refine v_iadd 959 dL_law_958 rfl ?_
  rw [show nI (6 * j) + 3 = nI (6 * j + 3) from nI_add (6 * j) 3]
  refine VV.know (fun ho9 _ _ => ?_)
  refine v_iald 960 dL_law_959 (by first | assumption | rfl) (by rw [ho9.2.2.2.2.2.2.2.2.1]; exact in_nI (by omega) (by omega)) rfl ?_
  rw [nI_clamp (by omega), ho9.2.2.2.2.2.2.2.2.2]
  refine v_aload_n 961 dL_law_960 rfl rfl ?_
  refine v_iload 963 dL_law_961 rfl rfl ?_
  refine v_iconstv (v := 4) 964 dL_law_963 (by decide) rfl ?_
  refine v_iadd 965 dL_law_964 rfl ?_
  rw [show nI (6 * j) + 4 = nI (6 * j + 4) from nI_add (6 * j) 4]
  refine VV.know (fun ho9 _ _ => ?_)
  refine v_iald 966 dL_law_965 (by first | assumption | rfl) (by rw [ho9.2.2.2.2.2.2.2.2.1]; exact in_nI (by omega) (by omega)) rfl ?_
  rw [nI_clamp (by omega), ho9.2.2.2.2.2.2.2.2.2]
  refine v_aload_n 967 dL_law_966 rfl rfl ?_
  refine v_invsW (d' := 12) (k' := 26) (n' := 2060) (k2 := k + 1124) (n2 := n + 11980) 970 [_, _, _, _, _, _] dL_law_967 lk_L_194 md_L_back ms_L_back rfl rfl (of_decide_eq_true rfl) rfl (by decide) rfl rfl rfl rfl (C_L_back R1 I  l80 (fun h1 R1' te1 l1 b1 v1 => ?_))
  have R2' : Rp2 S h1 := R2.te (fun t ht => te1 t (by omega) (by omega))
  have Fr1 : fr_s h1 := (fun t a b => (Fr t a b).te (te1 t (by omega) (by omega)))
  have m1 : hp_ln h1 81 0 = 1 := by rw [(te1 81 (by omega) (by decide)).2.1]; exact l81
  show VV G 13 (k + 1124) (n + 11980) yL_law cL_law 9 (some .boolean) [] 970 _ _ h1 Q
  refine v_istore 972 dL_law_970 (by decide) rfl rfl ?_
  dsimp only [List.set]
  refine v_aload_n 973 dL_law_972 rfl rfl ?_
  refine v_aload_n 974 dL_law_973 rfl rfl ?_
  refine v_iload 976 dL_law_974 rfl rfl ?_
  refine v_iconstv (v := 1) 977 dL_law_976 (by decide) rfl ?_
  refine v_iadd 978 dL_law_977 rfl ?_
  rw [show nI (6 * j) + 1 = nI (6 * j + 1) from nI_add (6 * j) 1]
  refine VV.know (fun ho9 _ _ => ?_)
  refine v_iald 979 dL_law_978 (by first | assumption | rfl) (by rw [ho9.2.2.2.2.2.2.2.2.1]; exact in_nI (by omega) (by omega)) rfl ?_
  rw [nI_clamp (by omega), ho9.2.2.2.2.2.2.2.2.2]
  refine v_aload_n 980 dL_law_979 rfl rfl ?_
  refine v_iload 982 dL_law_980 rfl rfl ?_
  refine v_iconstv (v := 2) 983 dL_law_982 (by decide) rfl ?_
  refine v_iadd 984 dL_law_983 rfl ?_
  rw [show nI (6 * j) + 2 = nI (6 * j + 2) from nI_add (6 * j) 2]
  refine VV.know (fun ho9 _ _ => ?_)
  refine v_iald 985 dL_law_984 (by first | assumption | rfl) (by rw [ho9.2.2.2.2.2.2.2.2.1]; exact in_nI (by omega) (by omega)) rfl ?_
  rw [nI_clamp (by omega), ho9.2.2.2.2.2.2.2.2.2]
  refine v_aload_n 986 dL_law_985 rfl rfl ?_
  refine v_iload 988 dL_law_986 rfl rfl ?_
  refine v_iconstv (v := 3) 989 dL_law_988 (by decide) rfl ?_
  refine v_iadd 990 dL_law_989 rfl ?_
  rw [show nI (6 * j) + 3 = nI (6 * j + 3) from nI_add (6 * j) 3]
  refine VV.know (fun ho9 _ _ => ?_)
  refine v_iald 991 dL_law_990 (by first | assumption | rfl) (by rw [ho9.2.2.2.2.2.2.2.2.1]; exact in_nI (by omega) (by omega)) rfl ?_
  rw [nI_clamp (by omega), ho9.2.2.2.2.2.2.2.2.2]
  refine v_aload_n 992 dL_law_991 rfl rfl ?_
  refine v_iload 994 dL_law_992 rfl rfl ?_
  refine v_iconstv (v := 4) 995 dL_law_994 (by decide) rfl ?_
  refine v_iadd 996 dL_law_995 rfl ?_
  rw [show nI (6 * j) + 4 = nI (6 * j + 4) from nI_add (6 * j) 4]
  refine VV.know (fun ho9 _ _ => ?_)
  refine v_iald 997 dL_law_996 (by first | assumption | rfl) (by rw [ho9.2.2.2.2.2.2.2.2.1]; exact in_nI (by omega) (by omega)) rfl ?_
  rw [nI_clamp (by omega), ho9.2.2.2.2.2.2.2.2.2]
  refine v_invv (d' := 10) (k' := 30) (n' := 2100) (k2 := (k + 1094)) (n2 := (n + 9880)) 1000 [_, _, _, _] dL_law_997 mt_L_197 mi_X12_back me_X12_back (by first | assumption | rfl) (by rfl) rfl rfl (of_decide_eq_true rfl) rfl (by decide) rfl rfl rfl rfl (C_X12_back R2' I Fr1 (fun v2 h2 e2 R2'' c2 ke2 => ?_))
  refine v_istore 1002 dL_law_1000 (by decide) rfl rfl ?_
  dsimp only [List.set]
  refine v_aload_n 1003 dL_law_1002 rfl rfl ?_
  refine v_invv (d' := 0) (k' := 0) (n' := 0) (k2 := (k + 1094)) (n2 := (n + 9880)) 1006 [] dL_law_1003 mt_L_162 mi_X12_thrown me_X12_thrown (by first | assumption | rfl) (by rfl) rfl rfl (of_decide_eq_true rfl) rfl (by decide) rfl rfl rfl rfl (C_X12_thrown ?_)
  rw [c2]
  refine v_iload 1008 dL_law_1006 rfl rfl ?_
  refine v_icmp_eq 1013 1011 dL_law_1008 (by decide) rfl (fun c1008 => ?_) (fun c1008 => ?_)
  · refine v_iload 1015 dL_law_1013 rfl rfl ?_
    refine v_if_ne 1030 1018 dL_law_1015 (by decide) rfl (fun c1015 => ?_) (fun c1015 => ?_)
    · refine v_goto 3031 dL_law_1030 (by decide) ?_
      refine VV.less (Nat.le_refl _) (by omega) (by omega) (K _ _ _ _ _ ⟨R1'.te (fun t ht => ke2.1 t (by omega)), R2'', (iv_back I J).1, (iv_back I J).2, ke2.2 Fr1, by rw [(ke2.1 80 (by omega)).2.1]; exact l1, by rw [(ke2.1 81 (by omega)).2.1]; exact m1⟩)
    · have hc := nz_3 b1 c1015
      refine v_aload_n 1019 dL_law_1018 rfl rfl ?_
      refine v_iconstv (v := 0) 1020 dL_law_1019 (by decide) rfl ?_
      refine v_lald 1021 dL_law_1020 (by first | assumption | rfl) (by rw [(ke2.1 80 (by omega)).2.1, l1]; exact in_nI (m := 0) (by decide) (by decide)) rfl ?_
      rw [show Int32.toNatClampNeg 0 = 0 from rfl, (ke2.1 80 (by omega)).2.2.2.2.1, v1 hc, e2 hc]
      refine v_iload 1023 dL_law_1021 rfl rfl ?_
      refine v_i2l 1024 dL_law_1023 rfl ?_
      refine v_lcmp 1025 dL_law_1024 rfl ?_
      rw [cmp_s]
      refine v_if_eq 1030 1028 dL_law_1025 (by decide) rfl (fun c1025 => ?_) (fun c1025 => ?_)
      · refine v_goto 3031 dL_law_1030 (by decide) ?_
        refine VV.less (Nat.le_refl _) (by omega) (by omega) (K _ _ _ _ _ ⟨R1'.te (fun t ht => ke2.1 t (by omega)), R2'', (iv_back I J).1, (iv_back I J).2, ke2.2 Fr1, by rw [(ke2.1 80 (by omega)).2.1]; exact l1, by rw [(ke2.1 81 (by omega)).2.1]; exact m1⟩)
      · exact absurd rfl c1025
  · exact absurd rfl c1008
set_option maxRecDepth 20000 in
theorem W_10 {G : GW} {Q : RS → PH → Prop} {S : SP} {N j k n : Nat} {h : PH} {z6 z7 z8 : Option PV} (hL : gw_L G ≤ 3072) (hj : 6 * j + 6 ≤ gw_L G) (L9 : lw_I S N h) (hN : N ≤ 600) (K : ∀ S' h' z6 z7 z8, lw_I S' (N + 1) h' → VV G 13 k n yL_law cL_law 9 (some .boolean) [] 3031 [some (pv_O (7, 0)), some (pv_O (10, 0)), some (pv_O (40, 0)), some (pv_O (80, 0)), some (pv_O (81, 0)), some (pv_I (nI (6 * j))), z6, z7, z8] [] h' Q) : VV G 13 (k + 1150) (n + 14040) yL_law cL_law 9 (some .boolean) [] 1033 [some (pv_O (7, 0)), some (pv_O (10, 0)), some (pv_O (40, 0)), some (pv_O (80, 0)), some (pv_O (81, 0)), some (pv_I (nI (6 * j))), z6, z7, z8] [] h Q := by
  obtain ⟨R1, R2, I, J, Fr, l80, l81⟩ := L9
  refine v_aload_n 1034 dL_law_1033 rfl rfl ?_
  refine v_aload_n 1035 dL_law_1034 rfl rfl ?_
  refine v_iload 1037 dL_law_1035 rfl rfl ?_
  refine v_iconstv (v := 1) 1038 dL_law_1037 (by decide) rfl ?_
  refine v_iadd 1039 dL_law_1038 rfl ?_
  rw [show nI (6 * j) + 1 = nI (6 * j + 1) from nI_add (6 * j) 1]
  refine VV.know (fun ho9 _ _ => ?_)
  refine v_iald 1040 dL_law_1039 (by first | assumption | rfl) (by rw [ho9.2.2.2.2.2.2.2.2.1]; exact in_nI (by omega) (by omega)) rfl ?_
  rw [nI_clamp (by omega), ho9.2.2.2.2.2.2.2.2.2]
  refine v_aload_n 1041 dL_law_1040 rfl rfl ?_
  refine v_invsW (d' := 8) (k' := 2) (n' := 12) (k2 := k + 1148) (n2 := n + 14028) 1044 [_, _, _] dL_law_1041 lk_L_198 md_L_jump ms_L_jump rfl rfl (of_decide_eq_true rfl) rfl (by decide) rfl rfl rfl rfl (C_L_jump R1 I  l80 (fun h1 R1' te1 l1 b1 v1 => ?_))
  have R2' : Rp2 S h1 := R2.te (fun t ht => te1 t (by omega) (by omega))
  have Fr1 : fr_s h1 := (fun t a b => (Fr t a b).te (te1 t (by omega) (by omega)))
  have m1 : hp_ln h1 81 0 = 1 := by rw [(te1 81 (by omega) (by decide)).2.1]; exact l81
  show VV G 13 (k + 1148) (n + 14028) yL_law cL_law 9 (some .boolean) [] 1044 _ _ h1 Q
  refine v_istore 1046 dL_law_1044 (by decide) rfl rfl ?_
  dsimp only [List.set]
  refine v_aload_n 1047 dL_law_1046 rfl rfl ?_
  refine v_aload_n 1048 dL_law_1047 rfl rfl ?_
  refine v_iload 1050 dL_law_1048 rfl rfl ?_
  refine v_iconstv (v := 1) 1051 dL_law_1050 (by decide) rfl ?_
  refine v_iadd 1052 dL_law_1051 rfl ?_
  rw [show nI (6 * j) + 1 = nI (6 * j + 1) from nI_add (6 * j) 1]
  refine VV.know (fun ho9 _ _ => ?_)
  refine v_iald 1053 dL_law_1052 (by first | assumption | rfl) (by rw [ho9.2.2.2.2.2.2.2.2.1]; exact in_nI (by omega) (by omega)) rfl ?_
  rw [nI_clamp (by omega), ho9.2.2.2.2.2.2.2.2.2]
  refine v_invv (d' := 9) (k' := 0) (n' := 0) (k2 := (k + 1148)) (n2 := (n + 14028)) 1056 [_] dL_law_1053 mt_L_200 mi_X12_jump me_X12_jump (by first | assumption | rfl) (by rfl) rfl rfl (of_decide_eq_true rfl) rfl (by decide) rfl rfl rfl rfl (C_X12_jump R2' I  (fun v2 h2 e2 R2'' c2 ke2 => ?_))
  refine v_istore 1058 dL_law_1056 (by decide) rfl rfl ?_
  dsimp only [List.set]
  refine v_aload_n 1059 dL_law_1058 rfl rfl ?_
  refine v_invv (d' := 0) (k' := 0) (n' := 0) (k2 := (k + 1148)) (n2 := (n + 14028)) 1062 [] dL_law_1059 mt_L_162 mi_X12_thrown me_X12_thrown (by first | assumption | rfl) (by rfl) rfl rfl (of_decide_eq_true rfl) rfl (by decide) rfl rfl rfl rfl (C_X12_thrown ?_)
  rw [c2]
  refine v_iload 1064 dL_law_1062 rfl rfl ?_
  refine v_icmp_eq 1069 1067 dL_law_1064 (by decide) rfl (fun c1064 => ?_) (fun c1064 => ?_)
  · refine v_iload 1071 dL_law_1069 rfl rfl ?_
    refine v_if_ne 1086 1074 dL_law_1071 (by decide) rfl (fun c1071 => ?_) (fun c1071 => ?_)
    · refine v_goto 3031 dL_law_1086 (by decide) ?_
      refine VV.less (Nat.le_refl _) (by omega) (by omega) (K _ _ _ _ _ ⟨R1'.te (fun t ht => ke2.1 t (by omega)), R2'', (I.m (Nat.le_succ N)), J, ke2.2 Fr1, by rw [(ke2.1 80 (by omega)).2.1]; exact l1, by rw [(ke2.1 81 (by omega)).2.1]; exact m1⟩)
    · have hc := nz_3 b1 c1071
      refine v_aload_n 1075 dL_law_1074 rfl rfl ?_
      refine v_iconstv (v := 0) 1076 dL_law_1075 (by decide) rfl ?_
      refine v_lald 1077 dL_law_1076 (by first | assumption | rfl) (by rw [(ke2.1 80 (by omega)).2.1, l1]; exact in_nI (m := 0) (by decide) (by decide)) rfl ?_
      rw [show Int32.toNatClampNeg 0 = 0 from rfl, (ke2.1 80 (by omega)).2.2.2.2.1, v1 hc, e2 hc]
      refine v_iload 1079 dL_law_1077 rfl rfl ?_
      refine v_i2l 1080 dL_law_1079 rfl ?_
      refine v_lcmp 1081 dL_law_1080 rfl ?_
      rw [cmp_s]
      refine v_if_eq 1086 1084 dL_law_1081 (by decide) rfl (fun c1081 => ?_) (fun c1081 => ?_)
      · refine v_goto 3031 dL_law_1086 (by decide) ?_
        refine VV.less (Nat.le_refl _) (by omega) (by omega) (K _ _ _ _ _ ⟨R1'.te (fun t ht => ke2.1 t (by omega)), R2'', (I.m (Nat.le_succ N)), J, ke2.2 Fr1, by rw [(ke2.1 80 (by omega)).2.1]; exact l1, by rw [(ke2.1 81 (by omega)).2.1]; exact m1⟩)
      · exact absurd rfl c1081
  · exact absurd rfl c1064
set_option maxRecDepth 20000 in
theorem W_11 {G : GW} {Q : RS → PH → Prop} {S : SP} {N j k n : Nat} {h : PH} {z6 z7 z8 : Option PV} (hL : gw_L G ≤ 3072) (hj : 6 * j + 6 ≤ gw_L G) (L9 : lw_I S N h) (hN : N ≤ 600) (K : ∀ S' h' z6 z7 z8, lw_I S' (N + 1) h' → VV G 13 k n yL_law cL_law 9 (some .boolean) [] 3031 [some (pv_O (7, 0)), some (pv_O (10, 0)), some (pv_O (40, 0)), some (pv_O (80, 0)), some (pv_O (81, 0)), some (pv_I (nI (6 * j))), z6, z7, z8] [] h' Q) : VV G 13 (k + 1150) (n + 14040) yL_law cL_law 9 (some .boolean) [] 1089 [some (pv_O (7, 0)), some (pv_O (10, 0)), some (pv_O (40, 0)), some (pv_O (80, 0)), some (pv_O (81, 0)), some (pv_I (nI (6 * j))), z6, z7, z8] [] h Q := by
  obtain ⟨R1, R2, I, J, Fr, l80, l81⟩ := L9
  refine v_aload_n 1090 dL_law_1089 rfl rfl ?_
  refine v_aload_n 1091 dL_law_1090 rfl rfl ?_
  refine v_iload 1093 dL_law_1091 rfl rfl ?_
  refine v_iconstv (v := 1) 1094 dL_law_1093 (by decide) rfl ?_
  refine v_iadd 1095 dL_law_1094 rfl ?_
  rw [show nI (6 * j) + 1 = nI (6 * j + 1) from nI_add (6 * j) 1]
  refine VV.know (fun ho9 _ _ => ?_)
  refine v_iald 1096 dL_law_1095 (by first | assumption | rfl) (by rw [ho9.2.2.2.2.2.2.2.2.1]; exact in_nI (by omega) (by omega)) rfl ?_
  rw [nI_clamp (by omega), ho9.2.2.2.2.2.2.2.2.2]
  refine v_aload_n 1097 dL_law_1096 rfl rfl ?_
  refine v_iload 1099 dL_law_1097 rfl rfl ?_
  refine v_iconstv (v := 2) 1100 dL_law_1099 (by decide) rfl ?_
  refine v_iadd 1101 dL_law_1100 rfl ?_
  rw [show nI (6 * j) + 2 = nI (6 * j + 2) from nI_add (6 * j) 2]
  refine VV.know (fun ho9 _ _ => ?_)
  refine v_iald 1102 dL_law_1101 (by first | assumption | rfl) (by rw [ho9.2.2.2.2.2.2.2.2.1]; exact in_nI (by omega) (by omega)) rfl ?_
  rw [nI_clamp (by omega), ho9.2.2.2.2.2.2.2.2.2]
  refine v_aload_n 1103 dL_law_1102 rfl rfl ?_
  refine v_iload 1105 dL_law_1103 rfl rfl ?_
  refine v_iconstv (v := 3) 1106 dL_law_1105 (by decide) rfl ?_
  refine v_iadd 1107 dL_law_1106 rfl ?_
  rw [show nI (6 * j) + 3 = nI (6 * j + 3) from nI_add (6 * j) 3]
  refine VV.know (fun ho9 _ _ => ?_)
  refine v_iald 1108 dL_law_1107 (by first | assumption | rfl) (by rw [ho9.2.2.2.2.2.2.2.2.1]; exact in_nI (by omega) (by omega)) rfl ?_
  rw [nI_clamp (by omega), ho9.2.2.2.2.2.2.2.2.2]
  refine v_aload_n 1109 dL_law_1108 rfl rfl ?_
  refine v_iload 1111 dL_law_1109 rfl rfl ?_
  refine v_iconstv (v := 4) 1112 dL_law_1111 (by decide) rfl ?_
  refine v_iadd 1113 dL_law_1112 rfl ?_
  rw [show nI (6 * j) + 4 = nI (6 * j + 4) from nI_add (6 * j) 4]
  refine VV.know (fun ho9 _ _ => ?_)
  refine v_iald 1114 dL_law_1113 (by first | assumption | rfl) (by rw [ho9.2.2.2.2.2.2.2.2.1]; exact in_nI (by omega) (by omega)) rfl ?_
  rw [nI_clamp (by omega), ho9.2.2.2.2.2.2.2.2.2]
  refine v_i2c 1115 dL_law_1114 rfl ?_
  refine v_aload_n 1116 dL_law_1115 rfl rfl ?_
  refine v_invsW (d' := 9) (k' := 4) (n' := 24) (k2 := k + 1146) (n2 := n + 14016) 1119 [_, _, _, _, _, _] dL_law_1116 lk_L_201 md_L_bestFirst ms_L_bestFirst rfl rfl (of_decide_eq_true rfl) rfl (by decide) rfl rfl rfl rfl (C_L_bestFirst R1 I (cr_ _) l80 (fun h1 R1' te1 l1 b1 v1 => ?_))
  have R2' : Rp2 S h1 := R2.te (fun t ht => te1 t (by omega) (by omega))
  have Fr1 : fr_s h1 := (fun t a b => (Fr t a b).te (te1 t (by omega) (by omega)))
  have m1 : hp_ln h1 81 0 = 1 := by rw [(te1 81 (by omega) (by decide)).2.1]; exact l81
  show VV G 13 (k + 1146) (n + 14016) yL_law cL_law 9 (some .boolean) [] 1119 _ _ h1 Q
  refine v_istore 1121 dL_law_1119 (by decide) rfl rfl ?_
  dsimp only [List.set]
  refine v_aload_n 1122 dL_law_1121 rfl rfl ?_
  refine v_aload_n 1123 dL_law_1122 rfl rfl ?_
  refine v_iload 1125 dL_law_1123 rfl rfl ?_
  refine v_iconstv (v := 1) 1126 dL_law_1125 (by decide) rfl ?_
  refine v_iadd 1127 dL_law_1126 rfl ?_
  rw [show nI (6 * j) + 1 = nI (6 * j + 1) from nI_add (6 * j) 1]
  refine VV.know (fun ho9 _ _ => ?_)
  refine v_iald 1128 dL_law_1127 (by first | assumption | rfl) (by rw [ho9.2.2.2.2.2.2.2.2.1]; exact in_nI (by omega) (by omega)) rfl ?_
  rw [nI_clamp (by omega), ho9.2.2.2.2.2.2.2.2.2]
  refine v_aload_n 1129 dL_law_1128 rfl rfl ?_
  refine v_iload 1131 dL_law_1129 rfl rfl ?_
  refine v_iconstv (v := 2) 1132 dL_law_1131 (by decide) rfl ?_
  refine v_iadd 1133 dL_law_1132 rfl ?_
  rw [show nI (6 * j) + 2 = nI (6 * j + 2) from nI_add (6 * j) 2]
  refine VV.know (fun ho9 _ _ => ?_)
  refine v_iald 1134 dL_law_1133 (by first | assumption | rfl) (by rw [ho9.2.2.2.2.2.2.2.2.1]; exact in_nI (by omega) (by omega)) rfl ?_
  rw [nI_clamp (by omega), ho9.2.2.2.2.2.2.2.2.2]
  refine v_aload_n 1135 dL_law_1134 rfl rfl ?_
  refine v_iload 1137 dL_law_1135 rfl rfl ?_
  refine v_iconstv (v := 3) 1138 dL_law_1137 (by decide) rfl ?_
  refine v_iadd 1139 dL_law_1138 rfl ?_
  rw [show nI (6 * j) + 3 = nI (6 * j + 3) from nI_add (6 * j) 3]
  refine VV.know (fun ho9 _ _ => ?_)
  refine v_iald 1140 dL_law_1139 (by first | assumption | rfl) (by rw [ho9.2.2.2.2.2.2.2.2.1]; exact in_nI (by omega) (by omega)) rfl ?_
  rw [nI_clamp (by omega), ho9.2.2.2.2.2.2.2.2.2]
  refine v_aload_n 1141 dL_law_1140 rfl rfl ?_
  refine v_iload 1143 dL_law_1141 rfl rfl ?_
  refine v_iconstv (v := 4) 1144 dL_law_1143 (by decide) rfl ?_
  refine v_iadd 1145 dL_law_1144 rfl ?_
  rw [show nI (6 * j) + 4 = nI (6 * j + 4) from nI_add (6 * j) 4]
  refine VV.know (fun ho9 _ _ => ?_)
  refine v_iald 1146 dL_law_1145 (by first | assumption | rfl) (by rw [ho9.2.2.2.2.2.2.2.2.1]; exact in_nI (by omega) (by omega)) rfl ?_
  rw [nI_clamp (by omega), ho9.2.2.2.2.2.2.2.2.2]
  refine v_i2c 1147 dL_law_1146 rfl ?_
  refine v_invv (d' := 10) (k' := 32) (n' := 96) (k2 := (k + 1114)) (n2 := (n + 13920)) 1150 [_, _, _, _] dL_law_1147 mt_L_204 mi_X12_bestFirst me_X12_bestFirst (by first | assumption | rfl) (by rfl) rfl rfl (of_decide_eq_true rfl) rfl (by decide) rfl rfl rfl rfl (C_X12_bestFirst R2' I Fr1 (cr_ _) (fun v2 h2 e2 R2'' c2 ke2 => ?_))
  refine v_istore 1152 dL_law_1150 (by decide) rfl rfl ?_
  dsimp only [List.set]
  refine v_aload_n 1153 dL_law_1152 rfl rfl ?_
  refine v_invv (d' := 0) (k' := 0) (n' := 0) (k2 := (k + 1114)) (n2 := (n + 13920)) 1156 [] dL_law_1153 mt_L_162 mi_X12_thrown me_X12_thrown (by first | assumption | rfl) (by rfl) rfl rfl (of_decide_eq_true rfl) rfl (by decide) rfl rfl rfl rfl (C_X12_thrown ?_)
  rw [c2]
  refine v_iload 1158 dL_law_1156 rfl rfl ?_
  refine v_icmp_eq 1163 1161 dL_law_1158 (by decide) rfl (fun c1158 => ?_) (fun c1158 => ?_)
  · refine v_iload 1165 dL_law_1163 rfl rfl ?_
    refine v_if_ne 1180 1168 dL_law_1165 (by decide) rfl (fun c1165 => ?_) (fun c1165 => ?_)
    · refine v_goto 3031 dL_law_1180 (by decide) ?_
      refine VV.less (Nat.le_refl _) (by omega) (by omega) (K _ _ _ _ _ ⟨R1'.te (fun t ht => ke2.1 t (by omega)), R2'', (I.m (Nat.le_succ N)), J, ke2.2 Fr1, by rw [(ke2.1 80 (by omega)).2.1]; exact l1, by rw [(ke2.1 81 (by omega)).2.1]; exact m1⟩)
    · have hc := nz_3 b1 c1165
      refine v_aload_n 1169 dL_law_1168 rfl rfl ?_
      refine v_iconstv (v := 0) 1170 dL_law_1169 (by decide) rfl ?_
      refine v_lald 1171 dL_law_1170 (by first | assumption | rfl) (by rw [(ke2.1 80 (by omega)).2.1, l1]; exact in_nI (m := 0) (by decide) (by decide)) rfl ?_
      rw [show Int32.toNatClampNeg 0 = 0 from rfl, (ke2.1 80 (by omega)).2.2.2.2.1, v1 hc, e2 hc]
      refine v_iload 1173 dL_law_1171 rfl rfl ?_
      refine v_i2l 1174 dL_law_1173 rfl ?_
      refine v_lcmp 1175 dL_law_1174 rfl ?_
      rw [cmp_s]
      refine v_if_eq 1180 1178 dL_law_1175 (by decide) rfl (fun c1175 => ?_) (fun c1175 => ?_)
      · refine v_goto 3031 dL_law_1180 (by decide) ?_
        refine VV.less (Nat.le_refl _) (by omega) (by omega) (K _ _ _ _ _ ⟨R1'.te (fun t ht => ke2.1 t (by omega)), R2'', (I.m (Nat.le_succ N)), J, ke2.2 Fr1, by rw [(ke2.1 80 (by omega)).2.1]; exact l1, by rw [(ke2.1 81 (by omega)).2.1]; exact m1⟩)
      · exact absurd rfl c1175
  · exact absurd rfl c1158
set_option maxRecDepth 20000 in
theorem W_12 {G : GW} {Q : RS → PH → Prop} {S : SP} {N j k n : Nat} {h : PH} {z6 z7 z8 : Option PV} (hL : gw_L G ≤ 3072) (hj : 6 * j + 6 ≤ gw_L G) (L9 : lw_I S N h) (hN : N ≤ 600) (K : ∀ S' h' z6 z7 z8, lw_I S' (N + 1) h' → VV G 13 k n yL_law cL_law 9 (some .boolean) [] 3031 [some (pv_O (7, 0)), some (pv_O (10, 0)), some (pv_O (40, 0)), some (pv_O (80, 0)), some (pv_O (81, 0)), some (pv_I (nI (6 * j))), z6, z7, z8] [] h' Q) : VV G 13 (k + 1150) (n + 14040) yL_law cL_law 9 (some .boolean) [] 1183 [some (pv_O (7, 0)), some (pv_O (10, 0)), some (pv_O (40, 0)), some (pv_O (80, 0)), some (pv_O (81, 0)), some (pv_I (nI (6 * j))), z6, z7, z8] [] h Q := by
  obtain ⟨R1, R2, I, J, Fr, l80, l81⟩ := L9
  refine v_aload_n 1184 dL_law_1183 rfl rfl ?_
  refine v_aload_n 1185 dL_law_1184 rfl rfl ?_
  refine v_iload 1187 dL_law_1185 rfl rfl ?_
  refine v_iconstv (v := 1) 1188 dL_law_1187 (by decide) rfl ?_
  refine v_iadd 1189 dL_law_1188 rfl ?_
  rw [show nI (6 * j) + 1 = nI (6 * j + 1) from nI_add (6 * j) 1]
  refine VV.know (fun ho9 _ _ => ?_)
  refine v_iald 1190 dL_law_1189 (by first | assumption | rfl) (by rw [ho9.2.2.2.2.2.2.2.2.1]; exact in_nI (by omega) (by omega)) rfl ?_
  rw [nI_clamp (by omega), ho9.2.2.2.2.2.2.2.2.2]
  refine v_aload_n 1191 dL_law_1190 rfl rfl ?_
  refine v_iload 1193 dL_law_1191 rfl rfl ?_
  refine v_iconstv (v := 2) 1194 dL_law_1193 (by decide) rfl ?_
  refine v_iadd 1195 dL_law_1194 rfl ?_
  rw [show nI (6 * j) + 2 = nI (6 * j + 2) from nI_add (6 * j) 2]
  refine VV.know (fun ho9 _ _ => ?_)
  refine v_iald 1196 dL_law_1195 (by first | assumption | rfl) (by rw [ho9.2.2.2.2.2.2.2.2.1]; exact in_nI (by omega) (by omega)) rfl ?_
  rw [nI_clamp (by omega), ho9.2.2.2.2.2.2.2.2.2]
  refine v_aload_n 1197 dL_law_1196 rfl rfl ?_
  refine v_iload 1199 dL_law_1197 rfl rfl ?_
  refine v_iconstv (v := 3) 1200 dL_law_1199 (by decide) rfl ?_
  refine v_iadd 1201 dL_law_1200 rfl ?_
  rw [show nI (6 * j) + 3 = nI (6 * j + 3) from nI_add (6 * j) 3]
  refine VV.know (fun ho9 _ _ => ?_)
  refine v_iald 1202 dL_law_1201 (by first | assumption | rfl) (by rw [ho9.2.2.2.2.2.2.2.2.1]; exact in_nI (by omega) (by omega)) rfl ?_
  rw [nI_clamp (by omega), ho9.2.2.2.2.2.2.2.2.2]
  refine v_aload_n 1203 dL_law_1202 rfl rfl ?_
  refine v_iload 1205 dL_law_1203 rfl rfl ?_
  refine v_iconstv (v := 4) 1206 dL_law_1205 (by decide) rfl ?_
  refine v_iadd 1207 dL_law_1206 rfl ?_
  rw [show nI (6 * j) + 4 = nI (6 * j + 4) from nI_add (6 * j) 4]
  refine VV.know (fun ho9 _ _ => ?_)
  refine v_iald 1208 dL_law_1207 (by first | assumption | rfl) (by rw [ho9.2.2.2.2.2.2.2.2.1]; exact in_nI (by omega) (by omega)) rfl ?_
  rw [nI_clamp (by omega), ho9.2.2.2.2.2.2.2.2.2]
  refine v_aload_n 1209 dL_law_1208 rfl rfl ?_
  refine v_invsW (d' := 8) (k' := 2) (n' := 12) (k2 := k + 1148) (n2 := n + 14028) 1212 [_, _, _, _, _, _] dL_law_1209 lk_L_205 md_L_press ms_L_press rfl rfl (of_decide_eq_true rfl) rfl (by decide) rfl rfl rfl rfl (C_L_press R1 I  l80 (fun h1 R1' te1 l1 b1 v1 => ?_))
  have R2' : Rp2 S h1 := R2.te (fun t ht => te1 t (by omega) (by omega))
  have Fr1 : fr_s h1 := (fun t a b => (Fr t a b).te (te1 t (by omega) (by omega)))
  have m1 : hp_ln h1 81 0 = 1 := by rw [(te1 81 (by omega) (by decide)).2.1]; exact l81
  show VV G 13 (k + 1148) (n + 14028) yL_law cL_law 9 (some .boolean) [] 1212 _ _ h1 Q
  refine v_istore 1214 dL_law_1212 (by decide) rfl rfl ?_
  dsimp only [List.set]
  refine v_aload_n 1215 dL_law_1214 rfl rfl ?_
  refine v_aload_n 1216 dL_law_1215 rfl rfl ?_
  refine v_iload 1218 dL_law_1216 rfl rfl ?_
  refine v_iconstv (v := 1) 1219 dL_law_1218 (by decide) rfl ?_
  refine v_iadd 1220 dL_law_1219 rfl ?_
  rw [show nI (6 * j) + 1 = nI (6 * j + 1) from nI_add (6 * j) 1]
  refine VV.know (fun ho9 _ _ => ?_)
  refine v_iald 1221 dL_law_1220 (by first | assumption | rfl) (by rw [ho9.2.2.2.2.2.2.2.2.1]; exact in_nI (by omega) (by omega)) rfl ?_
  rw [nI_clamp (by omega), ho9.2.2.2.2.2.2.2.2.2]
  refine v_aload_n 1222 dL_law_1221 rfl rfl ?_
  refine v_iload 1224 dL_law_1222 rfl rfl ?_
  refine v_iconstv (v := 2) 1225 dL_law_1224 (by decide) rfl ?_
  refine v_iadd 1226 dL_law_1225 rfl ?_
  rw [show nI (6 * j) + 2 = nI (6 * j + 2) from nI_add (6 * j) 2]
  refine VV.know (fun ho9 _ _ => ?_)
  refine v_iald 1227 dL_law_1226 (by first | assumption | rfl) (by rw [ho9.2.2.2.2.2.2.2.2.1]; exact in_nI (by omega) (by omega)) rfl ?_
  rw [nI_clamp (by omega), ho9.2.2.2.2.2.2.2.2.2]
  refine v_aload_n 1228 dL_law_1227 rfl rfl ?_
  refine v_iload 1230 dL_law_1228 rfl rfl ?_
  refine v_iconstv (v := 3) 1231 dL_law_1230 (by decide) rfl ?_
  refine v_iadd 1232 dL_law_1231 rfl ?_
  rw [show nI (6 * j) + 3 = nI (6 * j + 3) from nI_add (6 * j) 3]
  refine VV.know (fun ho9 _ _ => ?_)
  refine v_iald 1233 dL_law_1232 (by first | assumption | rfl) (by rw [ho9.2.2.2.2.2.2.2.2.1]; exact in_nI (by omega) (by omega)) rfl ?_
  rw [nI_clamp (by omega), ho9.2.2.2.2.2.2.2.2.2]
  refine v_aload_n 1234 dL_law_1233 rfl rfl ?_
  refine v_iload 1236 dL_law_1234 rfl rfl ?_
  refine v_iconstv (v := 4) 1237 dL_law_1236 (by decide) rfl ?_
  refine v_iadd 1238 dL_law_1237 rfl ?_
  rw [show nI (6 * j) + 4 = nI (6 * j + 4) from nI_add (6 * j) 4]
  refine VV.know (fun ho9 _ _ => ?_)
  refine v_iald 1239 dL_law_1238 (by first | assumption | rfl) (by rw [ho9.2.2.2.2.2.2.2.2.1]; exact in_nI (by omega) (by omega)) rfl ?_
  rw [nI_clamp (by omega), ho9.2.2.2.2.2.2.2.2.2]
  refine v_invv (d' := 9) (k' := 0) (n' := 0) (k2 := (k + 1148)) (n2 := (n + 14028)) 1242 [_, _, _, _] dL_law_1239 mt_L_207 mi_X12_press me_X12_press (by first | assumption | rfl) (by rfl) rfl rfl (of_decide_eq_true rfl) rfl (by decide) rfl rfl rfl rfl (C_X12_press R2' I  (fun v2 h2 e2 R2'' c2 ke2 => ?_))
  refine v_istore 1244 dL_law_1242 (by decide) rfl rfl ?_
  dsimp only [List.set]
  refine v_aload_n 1245 dL_law_1244 rfl rfl ?_
  refine v_invv (d' := 0) (k' := 0) (n' := 0) (k2 := (k + 1148)) (n2 := (n + 14028)) 1248 [] dL_law_1245 mt_L_162 mi_X12_thrown me_X12_thrown (by first | assumption | rfl) (by rfl) rfl rfl (of_decide_eq_true rfl) rfl (by decide) rfl rfl rfl rfl (C_X12_thrown ?_)
  rw [c2]
  refine v_iload 1250 dL_law_1248 rfl rfl ?_
  refine v_icmp_eq 1255 1253 dL_law_1250 (by decide) rfl (fun c1250 => ?_) (fun c1250 => ?_)
  · refine v_iload 1257 dL_law_1255 rfl rfl ?_
    refine v_if_ne 1272 1260 dL_law_1257 (by decide) rfl (fun c1257 => ?_) (fun c1257 => ?_)
    · refine v_goto 3031 dL_law_1272 (by decide) ?_
      refine VV.less (Nat.le_refl _) (by omega) (by omega) (K _ _ _ _ _ ⟨R1'.te (fun t ht => ke2.1 t (by omega)), R2'', (iv_press I), (j2_press J), ke2.2 Fr1, by rw [(ke2.1 80 (by omega)).2.1]; exact l1, by rw [(ke2.1 81 (by omega)).2.1]; exact m1⟩)
    · have hc := nz_3 b1 c1257
      refine v_aload_n 1261 dL_law_1260 rfl rfl ?_
      refine v_iconstv (v := 0) 1262 dL_law_1261 (by decide) rfl ?_
      refine v_lald 1263 dL_law_1262 (by first | assumption | rfl) (by rw [(ke2.1 80 (by omega)).2.1, l1]; exact in_nI (m := 0) (by decide) (by decide)) rfl ?_
      rw [show Int32.toNatClampNeg 0 = 0 from rfl, (ke2.1 80 (by omega)).2.2.2.2.1, v1 hc, e2 hc]
      refine v_iload 1265 dL_law_1263 rfl rfl ?_
      refine v_i2l 1266 dL_law_1265 rfl ?_
      refine v_lcmp 1267 dL_law_1266 rfl ?_
      rw [cmp_s]
      refine v_if_eq 1272 1270 dL_law_1267 (by decide) rfl (fun c1267 => ?_) (fun c1267 => ?_)
      · refine v_goto 3031 dL_law_1272 (by decide) ?_
        refine VV.less (Nat.le_refl _) (by omega) (by omega) (K _ _ _ _ _ ⟨R1'.te (fun t ht => ke2.1 t (by omega)), R2'', (iv_press I), (j2_press J), ke2.2 Fr1, by rw [(ke2.1 80 (by omega)).2.1]; exact l1, by rw [(ke2.1 81 (by omega)).2.1]; exact m1⟩)
      · exact absurd rfl c1267
  · exact absurd rfl c1250
set_option maxRecDepth 20000 in
theorem W_13 {G : GW} {Q : RS → PH → Prop} {S : SP} {N j k n : Nat} {h : PH} {z6 z7 z8 : Option PV} (hL : gw_L G ≤ 3072) (hj : 6 * j + 6 ≤ gw_L G) (L9 : lw_I S N h) (hN : N ≤ 600) (K : ∀ S' h' z6 z7 z8, lw_I S' (N + 1) h' → VV G 13 k n yL_law cL_law 9 (some .boolean) [] 3031 [some (pv_O (7, 0)), some (pv_O (10, 0)), some (pv_O (40, 0)), some (pv_O (80, 0)), some (pv_O (81, 0)), some (pv_I (nI (6 * j))), z6, z7, z8] [] h' Q) : VV G 13 (k + 1150) (n + 14040) yL_law cL_law 9 (some .boolean) [] 1275 [some (pv_O (7, 0)), some (pv_O (10, 0)), some (pv_O (40, 0)), some (pv_O (80, 0)), some (pv_O (81, 0)), some (pv_I (nI (6 * j))), z6, z7, z8] [] h Q := by
  obtain ⟨R1, R2, I, J, Fr, l80, l81⟩ := L9
  refine v_aload_n 1276 dL_law_1275 rfl rfl ?_
  refine v_aload_n 1277 dL_law_1276 rfl rfl ?_
  refine v_iload 1279 dL_law_1277 rfl rfl ?_
  refine v_iconstv (v := 1) 1280 dL_law_1279 (by decide) rfl ?_
  refine v_iadd 1281 dL_law_1280 rfl ?_
  rw [show nI (6 * j) + 1 = nI (6 * j + 1) from nI_add (6 * j) 1]
  refine VV.know (fun ho9 _ _ => ?_)
  refine v_iald 1282 dL_law_1281 (by first | assumption | rfl) (by rw [ho9.2.2.2.2.2.2.2.2.1]; exact in_nI (by omega) (by omega)) rfl ?_
  rw [nI_clamp (by omega), ho9.2.2.2.2.2.2.2.2.2]
  refine v_aload_n 1283 dL_law_1282 rfl rfl ?_
  refine v_invsW (d' := 8) (k' := 2) (n' := 12) (k2 := k + 1148) (n2 := n + 14028) 1286 [_, _, _] dL_law_1283 lk_L_208 md_L_slit ms_L_slit rfl rfl (of_decide_eq_true rfl) rfl (by decide) rfl rfl rfl rfl (C_L_slit R1 I  l80 (fun h1 R1' te1 l1 b1 v1 => ?_))
  have R2' : Rp2 S h1 := R2.te (fun t ht => te1 t (by omega) (by omega))
  have Fr1 : fr_s h1 := (fun t a b => (Fr t a b).te (te1 t (by omega) (by omega)))
  have m1 : hp_ln h1 81 0 = 1 := by rw [(te1 81 (by omega) (by decide)).2.1]; exact l81
  show VV G 13 (k + 1148) (n + 14028) yL_law cL_law 9 (some .boolean) [] 1286 _ _ h1 Q
  refine v_istore 1288 dL_law_1286 (by decide) rfl rfl ?_
  dsimp only [List.set]
  refine v_aload_n 1289 dL_law_1288 rfl rfl ?_
  refine v_aload_n 1290 dL_law_1289 rfl rfl ?_
  refine v_iload 1292 dL_law_1290 rfl rfl ?_
  refine v_iconstv (v := 1) 1293 dL_law_1292 (by decide) rfl ?_
  refine v_iadd 1294 dL_law_1293 rfl ?_
  rw [show nI (6 * j) + 1 = nI (6 * j + 1) from nI_add (6 * j) 1]
  refine VV.know (fun ho9 _ _ => ?_)
  refine v_iald 1295 dL_law_1294 (by first | assumption | rfl) (by rw [ho9.2.2.2.2.2.2.2.2.1]; exact in_nI (by omega) (by omega)) rfl ?_
  rw [nI_clamp (by omega), ho9.2.2.2.2.2.2.2.2.2]
  refine v_invv (d' := 9) (k' := 0) (n' := 0) (k2 := (k + 1148)) (n2 := (n + 14028)) 1298 [_] dL_law_1295 mt_L_210 mi_X12_slit me_X12_slit (by first | assumption | rfl) (by rfl) rfl rfl (of_decide_eq_true rfl) rfl (by decide) rfl rfl rfl rfl (C_X12_slit R2' I  (fun v2 h2 e2 R2'' c2 ke2 => ?_))
  refine v_istore 1300 dL_law_1298 (by decide) rfl rfl ?_
  dsimp only [List.set]
  refine v_aload_n 1301 dL_law_1300 rfl rfl ?_
  refine v_invv (d' := 0) (k' := 0) (n' := 0) (k2 := (k + 1148)) (n2 := (n + 14028)) 1304 [] dL_law_1301 mt_L_162 mi_X12_thrown me_X12_thrown (by first | assumption | rfl) (by rfl) rfl rfl (of_decide_eq_true rfl) rfl (by decide) rfl rfl rfl rfl (C_X12_thrown ?_)
  rw [c2]
  refine v_iload 1306 dL_law_1304 rfl rfl ?_
  refine v_icmp_eq 1311 1309 dL_law_1306 (by decide) rfl (fun c1306 => ?_) (fun c1306 => ?_)
  · refine v_iload 1313 dL_law_1311 rfl rfl ?_
    refine v_if_ne 1328 1316 dL_law_1313 (by decide) rfl (fun c1313 => ?_) (fun c1313 => ?_)
    · refine v_goto 3031 dL_law_1328 (by decide) ?_
      refine VV.less (Nat.le_refl _) (by omega) (by omega) (K _ _ _ _ _ ⟨R1'.te (fun t ht => ke2.1 t (by omega)), R2'', (iv_slit I), (j2_slit J), ke2.2 Fr1, by rw [(ke2.1 80 (by omega)).2.1]; exact l1, by rw [(ke2.1 81 (by omega)).2.1]; exact m1⟩)
    · have hc := nz_3 b1 c1313
      refine v_aload_n 1317 dL_law_1316 rfl rfl ?_
      refine v_iconstv (v := 0) 1318 dL_law_1317 (by decide) rfl ?_
      refine v_lald 1319 dL_law_1318 (by first | assumption | rfl) (by rw [(ke2.1 80 (by omega)).2.1, l1]; exact in_nI (m := 0) (by decide) (by decide)) rfl ?_
      rw [show Int32.toNatClampNeg 0 = 0 from rfl, (ke2.1 80 (by omega)).2.2.2.2.1, v1 hc, e2 hc]
      refine v_iload 1321 dL_law_1319 rfl rfl ?_
      refine v_i2l 1322 dL_law_1321 rfl ?_
      refine v_lcmp 1323 dL_law_1322 rfl ?_
      rw [cmp_s]
      refine v_if_eq 1328 1326 dL_law_1323 (by decide) rfl (fun c1323 => ?_) (fun c1323 => ?_)
      · refine v_goto 3031 dL_law_1328 (by decide) ?_
        refine VV.less (Nat.le_refl _) (by omega) (by omega) (K _ _ _ _ _ ⟨R1'.te (fun t ht => ke2.1 t (by omega)), R2'', (iv_slit I), (j2_slit J), ke2.2 Fr1, by rw [(ke2.1 80 (by omega)).2.1]; exact l1, by rw [(ke2.1 81 (by omega)).2.1]; exact m1⟩)
      · exact absurd rfl c1323
  · exact absurd rfl c1306
set_option maxRecDepth 20000 in
theorem W_14 {G : GW} {Q : RS → PH → Prop} {S : SP} {N j k n : Nat} {h : PH} {z6 z7 z8 : Option PV} (hL : gw_L G ≤ 3072) (hj : 6 * j + 6 ≤ gw_L G) (L9 : lw_I S N h) (hN : N ≤ 600) (K : ∀ S' h' z6 z7 z8, lw_I S' (N + 1) h' → VV G 13 k n yL_law cL_law 9 (some .boolean) [] 3031 [some (pv_O (7, 0)), some (pv_O (10, 0)), some (pv_O (40, 0)), some (pv_O (80, 0)), some (pv_O (81, 0)), some (pv_I (nI (6 * j))), z6, z7, z8] [] h' Q) : VV G 13 (k + 1150) (n + 14040) yL_law cL_law 9 (some .boolean) [] 1331 [some (pv_O (7, 0)), some (pv_O (10, 0)), some (pv_O (40, 0)), some (pv_O (80, 0)), some (pv_O (81, 0)), some (pv_I (nI (6 * j))), z6, z7, z8] [] h Q := by
  obtain ⟨R1, R2, I, J, Fr, l80, l81⟩ := L9
  refine v_aload_n 1332 dL_law_1331 rfl rfl ?_
  refine v_aload_n 1333 dL_law_1332 rfl rfl ?_
  refine v_iload 1335 dL_law_1333 rfl rfl ?_
  refine v_iconstv (v := 1) 1336 dL_law_1335 (by decide) rfl ?_
  refine v_iadd 1337 dL_law_1336 rfl ?_
  rw [show nI (6 * j) + 1 = nI (6 * j + 1) from nI_add (6 * j) 1]
  refine VV.know (fun ho9 _ _ => ?_)
  refine v_iald 1338 dL_law_1337 (by first | assumption | rfl) (by rw [ho9.2.2.2.2.2.2.2.2.1]; exact in_nI (by omega) (by omega)) rfl ?_
  rw [nI_clamp (by omega), ho9.2.2.2.2.2.2.2.2.2]
  refine v_aload_n 1339 dL_law_1338 rfl rfl ?_
  refine v_invsW (d' := 7) (k' := 1) (n' := 6) (k2 := k + 1149) (n2 := n + 14034) 1342 [_, _, _] dL_law_1339 lk_L_211 md_L_air ms_L_air rfl rfl (of_decide_eq_true rfl) rfl (by decide) rfl rfl rfl rfl (C_L_air R1 I  l80 (fun h1 R1' te1 l1 b1 v1 => ?_))
  have R2' : Rp2 S h1 := R2.te (fun t ht => te1 t (by omega) (by omega))
  have Fr1 : fr_s h1 := (fun t a b => (Fr t a b).te (te1 t (by omega) (by omega)))
  have m1 : hp_ln h1 81 0 = 1 := by rw [(te1 81 (by omega) (by decide)).2.1]; exact l81
  show VV G 13 (k + 1149) (n + 14034) yL_law cL_law 9 (some .boolean) [] 1342 _ _ h1 Q
  refine v_istore 1344 dL_law_1342 (by decide) rfl rfl ?_
  dsimp only [List.set]
  refine v_aload_n 1345 dL_law_1344 rfl rfl ?_
  refine v_aload_n 1346 dL_law_1345 rfl rfl ?_
  refine v_iload 1348 dL_law_1346 rfl rfl ?_
  refine v_iconstv (v := 1) 1349 dL_law_1348 (by decide) rfl ?_
  refine v_iadd 1350 dL_law_1349 rfl ?_
  rw [show nI (6 * j) + 1 = nI (6 * j + 1) from nI_add (6 * j) 1]
  refine VV.know (fun ho9 _ _ => ?_)
  refine v_iald 1351 dL_law_1350 (by first | assumption | rfl) (by rw [ho9.2.2.2.2.2.2.2.2.1]; exact in_nI (by omega) (by omega)) rfl ?_
  rw [nI_clamp (by omega), ho9.2.2.2.2.2.2.2.2.2]
  refine v_invv (d' := 9) (k' := 0) (n' := 0) (k2 := (k + 1149)) (n2 := (n + 14034)) 1354 [_] dL_law_1351 mt_L_213 mi_X12_air me_X12_air (by first | assumption | rfl) (by rfl) rfl rfl (of_decide_eq_true rfl) rfl (by decide) rfl rfl rfl rfl (C_X12_air R2' I  (fun v2 h2 e2 R2'' c2 ke2 => ?_))
  refine v_istore 1356 dL_law_1354 (by decide) rfl rfl ?_
  dsimp only [List.set]
  refine v_aload_n 1357 dL_law_1356 rfl rfl ?_
  refine v_invv (d' := 0) (k' := 0) (n' := 0) (k2 := (k + 1149)) (n2 := (n + 14034)) 1360 [] dL_law_1357 mt_L_162 mi_X12_thrown me_X12_thrown (by first | assumption | rfl) (by rfl) rfl rfl (of_decide_eq_true rfl) rfl (by decide) rfl rfl rfl rfl (C_X12_thrown ?_)
  rw [c2]
  refine v_iload 1362 dL_law_1360 rfl rfl ?_
  refine v_icmp_eq 1367 1365 dL_law_1362 (by decide) rfl (fun c1362 => ?_) (fun c1362 => ?_)
  · refine v_iload 1369 dL_law_1367 rfl rfl ?_
    refine v_if_ne 1384 1372 dL_law_1369 (by decide) rfl (fun c1369 => ?_) (fun c1369 => ?_)
    · refine v_goto 3031 dL_law_1384 (by decide) ?_
      refine VV.less (Nat.le_refl _) (by omega) (by omega) (K _ _ _ _ _ ⟨R1'.te (fun t ht => ke2.1 t (by omega)), R2'', (iv_air I), (j2_air J), ke2.2 Fr1, by rw [(ke2.1 80 (by omega)).2.1]; exact l1, by rw [(ke2.1 81 (by omega)).2.1]; exact m1⟩)
    · have hc := nz_3 b1 c1369
      refine v_aload_n 1373 dL_law_1372 rfl rfl ?_
      refine v_iconstv (v := 0) 1374 dL_law_1373 (by decide) rfl ?_
      refine v_lald 1375 dL_law_1374 (by first | assumption | rfl) (by rw [(ke2.1 80 (by omega)).2.1, l1]; exact in_nI (m := 0) (by decide) (by decide)) rfl ?_
      rw [show Int32.toNatClampNeg 0 = 0 from rfl, (ke2.1 80 (by omega)).2.2.2.2.1, v1 hc, e2 hc]
      refine v_iload 1377 dL_law_1375 rfl rfl ?_
      refine v_i2l 1378 dL_law_1377 rfl ?_
      refine v_lcmp 1379 dL_law_1378 rfl ?_
      rw [cmp_s]
      refine v_if_eq 1384 1382 dL_law_1379 (by decide) rfl (fun c1379 => ?_) (fun c1379 => ?_)
      · refine v_goto 3031 dL_law_1384 (by decide) ?_
        refine VV.less (Nat.le_refl _) (by omega) (by omega) (K _ _ _ _ _ ⟨R1'.te (fun t ht => ke2.1 t (by omega)), R2'', (iv_air I), (j2_air J), ke2.2 Fr1, by rw [(ke2.1 80 (by omega)).2.1]; exact l1, by rw [(ke2.1 81 (by omega)).2.1]; exact m1⟩)
      · exact absurd rfl c1379
  · exact absurd rfl c1362
set_option maxRecDepth 20000 in
theorem W_15 {G : GW} {Q : RS → PH → Prop} {S : SP} {N j k n : Nat} {h : PH} {z6 z7 z8 : Option PV} (hL : gw_L G ≤ 3072) (hj : 6 * j + 6 ≤ gw_L G) (L9 : lw_I S N h) (hN : N ≤ 600) (K : ∀ S' h' z6 z7 z8, lw_I S' (N + 1) h' → VV G 13 k n yL_law cL_law 9 (some .boolean) [] 3031 [some (pv_O (7, 0)), some (pv_O (10, 0)), some (pv_O (40, 0)), some (pv_O (80, 0)), some (pv_O (81, 0)), some (pv_I (nI (6 * j))), z6, z7, z8] [] h' Q) : VV G 13 (k + 1150) (n + 14040) yL_law cL_law 9 (some .boolean) [] 1387 [some (pv_O (7, 0)), some (pv_O (10, 0)), some (pv_O (40, 0)), some (pv_O (80, 0)), some (pv_O (81, 0)), some (pv_I (nI (6 * j))), z6, z7, z8] [] h Q := by
  obtain ⟨R1, R2, I, J, Fr, l80, l81⟩ := L9
  refine v_aload_n 1388 dL_law_1387 rfl rfl ?_
  refine v_aload_n 1389 dL_law_1388 rfl rfl ?_
  refine v_iload 1391 dL_law_1389 rfl rfl ?_
  refine v_iconstv (v := 1) 1392 dL_law_1391 (by decide) rfl ?_
  refine v_iadd 1393 dL_law_1392 rfl ?_
  rw [show nI (6 * j) + 1 = nI (6 * j + 1) from nI_add (6 * j) 1]
  refine VV.know (fun ho9 _ _ => ?_)
  refine v_iald 1394 dL_law_1393 (by first | assumption | rfl) (by rw [ho9.2.2.2.2.2.2.2.2.1]; exact in_nI (by omega) (by omega)) rfl ?_
  rw [nI_clamp (by omega), ho9.2.2.2.2.2.2.2.2.2]
  refine v_aload_n 1395 dL_law_1394 rfl rfl ?_
  refine v_iload 1397 dL_law_1395 rfl rfl ?_
  refine v_iconstv (v := 2) 1398 dL_law_1397 (by decide) rfl ?_
  refine v_iadd 1399 dL_law_1398 rfl ?_
  rw [show nI (6 * j) + 2 = nI (6 * j + 2) from nI_add (6 * j) 2]
  refine VV.know (fun ho9 _ _ => ?_)
  refine v_iald 1400 dL_law_1399 (by first | assumption | rfl) (by rw [ho9.2.2.2.2.2.2.2.2.1]; exact in_nI (by omega) (by omega)) rfl ?_
  rw [nI_clamp (by omega), ho9.2.2.2.2.2.2.2.2.2]
  refine v_aload_n 1401 dL_law_1400 rfl rfl ?_
  refine v_invsW (d' := 8) (k' := 3) (n' := 18) (k2 := k + 1147) (n2 := n + 14022) 1404 [_, _, _, _] dL_law_1401 lk_L_214 md_L_cup ms_L_cup rfl rfl (of_decide_eq_true rfl) rfl (by decide) rfl rfl rfl rfl (C_L_cup R1 I  l80 (fun h1 R1' te1 l1 b1 v1 => ?_))
  have R2' : Rp2 S h1 := R2.te (fun t ht => te1 t (by omega) (by omega))
  have Fr1 : fr_s h1 := (fun t a b => (Fr t a b).te (te1 t (by omega) (by omega)))
  have m1 : hp_ln h1 81 0 = 1 := by rw [(te1 81 (by omega) (by decide)).2.1]; exact l81
  show VV G 13 (k + 1147) (n + 14022) yL_law cL_law 9 (some .boolean) [] 1404 _ _ h1 Q
  refine v_istore 1406 dL_law_1404 (by decide) rfl rfl ?_
  dsimp only [List.set]
  refine v_aload_n 1407 dL_law_1406 rfl rfl ?_
  refine v_aload_n 1408 dL_law_1407 rfl rfl ?_
  refine v_iload 1410 dL_law_1408 rfl rfl ?_
  refine v_iconstv (v := 1) 1411 dL_law_1410 (by decide) rfl ?_
  refine v_iadd 1412 dL_law_1411 rfl ?_
  rw [show nI (6 * j) + 1 = nI (6 * j + 1) from nI_add (6 * j) 1]
  refine VV.know (fun ho9 _ _ => ?_)
  refine v_iald 1413 dL_law_1412 (by first | assumption | rfl) (by rw [ho9.2.2.2.2.2.2.2.2.1]; exact in_nI (by omega) (by omega)) rfl ?_
  rw [nI_clamp (by omega), ho9.2.2.2.2.2.2.2.2.2]
  refine v_aload_n 1414 dL_law_1413 rfl rfl ?_
  refine v_iload 1416 dL_law_1414 rfl rfl ?_
  refine v_iconstv (v := 2) 1417 dL_law_1416 (by decide) rfl ?_
  refine v_iadd 1418 dL_law_1417 rfl ?_
  rw [show nI (6 * j) + 2 = nI (6 * j + 2) from nI_add (6 * j) 2]
  refine VV.know (fun ho9 _ _ => ?_)
  refine v_iald 1419 dL_law_1418 (by first | assumption | rfl) (by rw [ho9.2.2.2.2.2.2.2.2.1]; exact in_nI (by omega) (by omega)) rfl ?_
  rw [nI_clamp (by omega), ho9.2.2.2.2.2.2.2.2.2]
  refine v_invv (d' := 9) (k' := 0) (n' := 0) (k2 := (k + 1147)) (n2 := (n + 14022)) 1422 [_, _] dL_law_1419 mt_L_216 mi_X12_cup me_X12_cup (by first | assumption | rfl) (by rfl) rfl rfl (of_decide_eq_true rfl) rfl (by decide) rfl rfl rfl rfl (C_X12_cup R2' I  (fun v2 h2 e2 R2'' c2 ke2 => ?_))
  refine v_istore 1424 dL_law_1422 (by decide) rfl rfl ?_
  dsimp only [List.set]
  refine v_aload_n 1425 dL_law_1424 rfl rfl ?_
  refine v_invv (d' := 0) (k' := 0) (n' := 0) (k2 := (k + 1147)) (n2 := (n + 14022)) 1428 [] dL_law_1425 mt_L_162 mi_X12_thrown me_X12_thrown (by first | assumption | rfl) (by rfl) rfl rfl (of_decide_eq_true rfl) rfl (by decide) rfl rfl rfl rfl (C_X12_thrown ?_)
  rw [c2]
  refine v_iload 1430 dL_law_1428 rfl rfl ?_
  refine v_icmp_eq 1435 1433 dL_law_1430 (by decide) rfl (fun c1430 => ?_) (fun c1430 => ?_)
  · refine v_iload 1437 dL_law_1435 rfl rfl ?_
    refine v_if_ne 1452 1440 dL_law_1437 (by decide) rfl (fun c1437 => ?_) (fun c1437 => ?_)
    · refine v_goto 3031 dL_law_1452 (by decide) ?_
      refine VV.less (Nat.le_refl _) (by omega) (by omega) (K _ _ _ _ _ ⟨R1'.te (fun t ht => ke2.1 t (by omega)), R2'', (I.m (Nat.le_succ N)), J, ke2.2 Fr1, by rw [(ke2.1 80 (by omega)).2.1]; exact l1, by rw [(ke2.1 81 (by omega)).2.1]; exact m1⟩)
    · have hc := nz_3 b1 c1437
      refine v_aload_n 1441 dL_law_1440 rfl rfl ?_
      refine v_iconstv (v := 0) 1442 dL_law_1441 (by decide) rfl ?_
      refine v_lald 1443 dL_law_1442 (by first | assumption | rfl) (by rw [(ke2.1 80 (by omega)).2.1, l1]; exact in_nI (m := 0) (by decide) (by decide)) rfl ?_
      rw [show Int32.toNatClampNeg 0 = 0 from rfl, (ke2.1 80 (by omega)).2.2.2.2.1, v1 hc, e2 hc]
      refine v_iload 1445 dL_law_1443 rfl rfl ?_
      refine v_i2l 1446 dL_law_1445 rfl ?_
      refine v_lcmp 1447 dL_law_1446 rfl ?_
      rw [cmp_s]
      refine v_if_eq 1452 1450 dL_law_1447 (by decide) rfl (fun c1447 => ?_) (fun c1447 => ?_)
      · refine v_goto 3031 dL_law_1452 (by decide) ?_
        refine VV.less (Nat.le_refl _) (by omega) (by omega) (K _ _ _ _ _ ⟨R1'.te (fun t ht => ke2.1 t (by omega)), R2'', (I.m (Nat.le_succ N)), J, ke2.2 Fr1, by rw [(ke2.1 80 (by omega)).2.1]; exact l1, by rw [(ke2.1 81 (by omega)).2.1]; exact m1⟩)
      · exact absurd rfl c1447
  · exact absurd rfl c1430
set_option maxRecDepth 20000 in
theorem W_16 {G : GW} {Q : RS → PH → Prop} {S : SP} {N j k n : Nat} {h : PH} {z6 z7 z8 : Option PV} (hL : gw_L G ≤ 3072) (hj : 6 * j + 6 ≤ gw_L G) (L9 : lw_I S N h) (hN : N ≤ 600) (K : ∀ S' h' z6 z7 z8, lw_I S' (N + 1) h' → VV G 13 k n yL_law cL_law 9 (some .boolean) [] 3031 [some (pv_O (7, 0)), some (pv_O (10, 0)), some (pv_O (40, 0)), some (pv_O (80, 0)), some (pv_O (81, 0)), some (pv_I (nI (6 * j))), z6, z7, z8] [] h' Q) : VV G 13 (k + 1150) (n + 14040) yL_law cL_law 9 (some .boolean) [] 1455 [some (pv_O (7, 0)), some (pv_O (10, 0)), some (pv_O (40, 0)), some (pv_O (80, 0)), some (pv_O (81, 0)), some (pv_I (nI (6 * j))), z6, z7, z8] [] h Q := by
  obtain ⟨R1, R2, I, J, Fr, l80, l81⟩ := L9
  refine v_aload_n 1456 dL_law_1455 rfl rfl ?_
  refine v_aload_n 1457 dL_law_1456 rfl rfl ?_
  refine v_iload 1459 dL_law_1457 rfl rfl ?_
  refine v_iconstv (v := 1) 1460 dL_law_1459 (by decide) rfl ?_
  refine v_iadd 1461 dL_law_1460 rfl ?_
  rw [show nI (6 * j) + 1 = nI (6 * j + 1) from nI_add (6 * j) 1]
  refine VV.know (fun ho9 _ _ => ?_)
  refine v_iald 1462 dL_law_1461 (by first | assumption | rfl) (by rw [ho9.2.2.2.2.2.2.2.2.1]; exact in_nI (by omega) (by omega)) rfl ?_
  rw [nI_clamp (by omega), ho9.2.2.2.2.2.2.2.2.2]
  refine v_aload_n 1463 dL_law_1462 rfl rfl ?_
  refine v_invsW (d' := 8) (k' := 2) (n' := 12) (k2 := k + 1148) (n2 := n + 14028) 1466 [_, _, _] dL_law_1463 lk_L_217 md_L_isFlat ms_L_isFlat rfl rfl (of_decide_eq_true rfl) rfl (by decide) rfl rfl rfl rfl (C_L_isFlat R1 I  l80 (fun h1 R1' te1 l1 b1 v1 => ?_))
  have R2' : Rp2 S h1 := R2.te (fun t ht => te1 t (by omega) (by omega))
  have Fr1 : fr_s h1 := (fun t a b => (Fr t a b).te (te1 t (by omega) (by omega)))
  have m1 : hp_ln h1 81 0 = 1 := by rw [(te1 81 (by omega) (by decide)).2.1]; exact l81
  show VV G 13 (k + 1148) (n + 14028) yL_law cL_law 9 (some .boolean) [] 1466 _ _ h1 Q
  refine v_istore 1468 dL_law_1466 (by decide) rfl rfl ?_
  dsimp only [List.set]
  refine v_aload_n 1469 dL_law_1468 rfl rfl ?_
  refine v_aload_n 1470 dL_law_1469 rfl rfl ?_
  refine v_iload 1472 dL_law_1470 rfl rfl ?_
  refine v_iconstv (v := 1) 1473 dL_law_1472 (by decide) rfl ?_
  refine v_iadd 1474 dL_law_1473 rfl ?_
  rw [show nI (6 * j) + 1 = nI (6 * j + 1) from nI_add (6 * j) 1]
  refine VV.know (fun ho9 _ _ => ?_)
  refine v_iald 1475 dL_law_1474 (by first | assumption | rfl) (by rw [ho9.2.2.2.2.2.2.2.2.1]; exact in_nI (by omega) (by omega)) rfl ?_
  rw [nI_clamp (by omega), ho9.2.2.2.2.2.2.2.2.2]
  refine v_invv (d' := 9) (k' := 0) (n' := 0) (k2 := (k + 1148)) (n2 := (n + 14028)) 1478 [_] dL_law_1475 mt_L_219 mi_X12_isFlat_ me_X12_isFlat_ (by first | assumption | rfl) (by rfl) rfl rfl (of_decide_eq_true rfl) rfl (by decide) rfl rfl rfl rfl (C_X12_isFlat_ R2' I  (fun v2 h2 e2 R2'' c2 ke2 => ?_))
  refine v_istore 1480 dL_law_1478 (by decide) rfl rfl ?_
  dsimp only [List.set]
  refine v_aload_n 1481 dL_law_1480 rfl rfl ?_
  refine v_invv (d' := 0) (k' := 0) (n' := 0) (k2 := (k + 1148)) (n2 := (n + 14028)) 1484 [] dL_law_1481 mt_L_162 mi_X12_thrown me_X12_thrown (by first | assumption | rfl) (by rfl) rfl rfl (of_decide_eq_true rfl) rfl (by decide) rfl rfl rfl rfl (C_X12_thrown ?_)
  rw [c2]
  refine v_iload 1486 dL_law_1484 rfl rfl ?_
  refine v_icmp_eq 1491 1489 dL_law_1486 (by decide) rfl (fun c1486 => ?_) (fun c1486 => ?_)
  · refine v_iload 1493 dL_law_1491 rfl rfl ?_
    refine v_if_ne 1515 1496 dL_law_1493 (by decide) rfl (fun c1493 => ?_) (fun c1493 => ?_)
    · refine v_goto 3031 dL_law_1515 (by decide) ?_
      refine VV.less (Nat.le_refl _) (by omega) (by omega) (K _ _ _ _ _ ⟨R1'.te (fun t ht => ke2.1 t (by omega)), R2'', (I.m (Nat.le_succ N)), J, ke2.2 Fr1, by rw [(ke2.1 80 (by omega)).2.1]; exact l1, by rw [(ke2.1 81 (by omega)).2.1]; exact m1⟩)
    · have hc := nz_3 b1 c1493
      refine v_aload_n 1497 dL_law_1496 rfl rfl ?_
      refine v_iconstv (v := 0) 1498 dL_law_1497 (by decide) rfl ?_
      refine v_lald 1499 dL_law_1498 (by first | assumption | rfl) (by rw [(ke2.1 80 (by omega)).2.1, l1]; exact in_nI (m := 0) (by decide) (by decide)) rfl ?_
      rw [show Int32.toNatClampNeg 0 = 0 from rfl, (ke2.1 80 (by omega)).2.2.2.2.1, v1 hc, e2 hc]
      refine v_iload 1501 dL_law_1499 rfl rfl ?_
      refine v_if_eq 1508 1504 dL_law_1501 (by decide) rfl (fun c1501 => ?_) (fun c1501 => ?_)
      · rw [if_pos c1501]
        refine v_lconst (v := 0) 1509 dL_law_1508 (by decide) rfl ?_
        refine v_lcmp 1510 dL_law_1509 rfl ?_
        rw [cmp_s]
        refine v_if_eq 1515 1513 dL_law_1510 (by decide) rfl (fun c1510 => ?_) (fun c1510 => ?_)
        · refine v_goto 3031 dL_law_1515 (by decide) ?_
          refine VV.less (Nat.le_refl _) (by omega) (by omega) (K _ _ _ _ _ ⟨R1'.te (fun t ht => ke2.1 t (by omega)), R2'', (I.m (Nat.le_succ N)), J, ke2.2 Fr1, by rw [(ke2.1 80 (by omega)).2.1]; exact l1, by rw [(ke2.1 81 (by omega)).2.1]; exact m1⟩)
        · exact absurd rfl c1510
      · rw [if_neg c1501]
        refine v_lconst (v := 1) 1505 dL_law_1504 (by decide) rfl ?_
        refine v_goto 1509 dL_law_1505 (by decide) ?_
        refine v_lcmp 1510 dL_law_1509 rfl ?_
        rw [cmp_s]
        refine v_if_eq 1515 1513 dL_law_1510 (by decide) rfl (fun c1510 => ?_) (fun c1510 => ?_)
        · refine v_goto 3031 dL_law_1515 (by decide) ?_
          refine VV.less (Nat.le_refl _) (by omega) (by omega) (K _ _ _ _ _ ⟨R1'.te (fun t ht => ke2.1 t (by omega)), R2'', (I.m (Nat.le_succ N)), J, ke2.2 Fr1, by rw [(ke2.1 80 (by omega)).2.1]; exact l1, by rw [(ke2.1 81 (by omega)).2.1]; exact m1⟩)
        · exact absurd rfl c1510
  · exact absurd rfl c1486
set_option maxRecDepth 20000 in
theorem W_17 {G : GW} {Q : RS → PH → Prop} {S : SP} {N j k n : Nat} {h : PH} {z6 z7 z8 : Option PV} (hL : gw_L G ≤ 3072) (hj : 6 * j + 6 ≤ gw_L G) (L9 : lw_I S N h) (hN : N ≤ 600) (K : ∀ S' h' z6 z7 z8, lw_I S' (N + 1) h' → VV G 13 k n yL_law cL_law 9 (some .boolean) [] 3031 [some (pv_O (7, 0)), some (pv_O (10, 0)), some (pv_O (40, 0)), some (pv_O (80, 0)), some (pv_O (81, 0)), some (pv_I (nI (6 * j))), z6, z7, z8] [] h' Q) : VV G 13 (k + 1150) (n + 14040) yL_law cL_law 9 (some .boolean) [] 1518 [some (pv_O (7, 0)), some (pv_O (10, 0)), some (pv_O (40, 0)), some (pv_O (80, 0)), some (pv_O (81, 0)), some (pv_I (nI (6 * j))), z6, z7, z8] [] h Q := by
  obtain ⟨R1, R2, I, J, Fr, l80, l81⟩ := L9
  refine v_aload_n 1519 dL_law_1518 rfl rfl ?_
  refine v_aload_n 1520 dL_law_1519 rfl rfl ?_
  refine v_iload 1522 dL_law_1520 rfl rfl ?_
  refine v_iconstv (v := 1) 1523 dL_law_1522 (by decide) rfl ?_
  refine v_iadd 1524 dL_law_1523 rfl ?_
  rw [show nI (6 * j) + 1 = nI (6 * j + 1) from nI_add (6 * j) 1]
  refine VV.know (fun ho9 _ _ => ?_)
  refine v_iald 1525 dL_law_1524 (by first | assumption | rfl) (by rw [ho9.2.2.2.2.2.2.2.2.1]; exact in_nI (by omega) (by omega)) rfl ?_
  rw [nI_clamp (by omega), ho9.2.2.2.2.2.2.2.2.2]
  refine v_aload_n 1526 dL_law_1525 rfl rfl ?_
  refine v_invsW (d' := 9) (k' := 3) (n' := 18) (k2 := k + 1147) (n2 := n + 14022) 1529 [_, _, _] dL_law_1526 lk_L_220 md_L_cupMonth ms_L_cupMonth rfl rfl (of_decide_eq_true rfl) rfl (by decide) rfl rfl rfl rfl (C_L_cupMonth R1 I  l80 (fun h1 R1' te1 l1 b1 v1 => ?_))
  have R2' : Rp2 S h1 := R2.te (fun t ht => te1 t (by omega) (by omega))
  have Fr1 : fr_s h1 := (fun t a b => (Fr t a b).te (te1 t (by omega) (by omega)))
  have m1 : hp_ln h1 81 0 = 1 := by rw [(te1 81 (by omega) (by decide)).2.1]; exact l81
  show VV G 13 (k + 1147) (n + 14022) yL_law cL_law 9 (some .boolean) [] 1529 _ _ h1 Q
  refine v_istore 1531 dL_law_1529 (by decide) rfl rfl ?_
  dsimp only [List.set]
  refine v_aload_n 1532 dL_law_1531 rfl rfl ?_
  refine v_aload_n 1533 dL_law_1532 rfl rfl ?_
  refine v_iload 1535 dL_law_1533 rfl rfl ?_
  refine v_iconstv (v := 1) 1536 dL_law_1535 (by decide) rfl ?_
  refine v_iadd 1537 dL_law_1536 rfl ?_
  rw [show nI (6 * j) + 1 = nI (6 * j + 1) from nI_add (6 * j) 1]
  refine VV.know (fun ho9 _ _ => ?_)
  refine v_iald 1538 dL_law_1537 (by first | assumption | rfl) (by rw [ho9.2.2.2.2.2.2.2.2.1]; exact in_nI (by omega) (by omega)) rfl ?_
  rw [nI_clamp (by omega), ho9.2.2.2.2.2.2.2.2.2]
  refine v_invv (d' := 10) (k' := 0) (n' := 0) (k2 := (k + 1147)) (n2 := (n + 14022)) 1541 [_] dL_law_1538 mt_L_222 mi_X12_cupMonth me_X12_cupMonth (by first | assumption | rfl) (by rfl) rfl rfl (of_decide_eq_true rfl) rfl (by decide) rfl rfl rfl rfl (C_X12_cupMonth R2' I  (fun v2 h2 e2 R2'' c2 ke2 => ?_))
  refine v_istore 1543 dL_law_1541 (by decide) rfl rfl ?_
  dsimp only [List.set]
  refine v_aload_n 1544 dL_law_1543 rfl rfl ?_
  refine v_invv (d' := 0) (k' := 0) (n' := 0) (k2 := (k + 1147)) (n2 := (n + 14022)) 1547 [] dL_law_1544 mt_L_162 mi_X12_thrown me_X12_thrown (by first | assumption | rfl) (by rfl) rfl rfl (of_decide_eq_true rfl) rfl (by decide) rfl rfl rfl rfl (C_X12_thrown ?_)
  rw [c2]
  refine v_iload 1549 dL_law_1547 rfl rfl ?_
  refine v_icmp_eq 1554 1552 dL_law_1549 (by decide) rfl (fun c1549 => ?_) (fun c1549 => ?_)
  · refine v_iload 1556 dL_law_1554 rfl rfl ?_
    refine v_if_ne 1571 1559 dL_law_1556 (by decide) rfl (fun c1556 => ?_) (fun c1556 => ?_)
    · refine v_goto 3031 dL_law_1571 (by decide) ?_
      refine VV.less (Nat.le_refl _) (by omega) (by omega) (K _ _ _ _ _ ⟨R1'.te (fun t ht => ke2.1 t (by omega)), R2'', (I.m (Nat.le_succ N)), J, ke2.2 Fr1, by rw [(ke2.1 80 (by omega)).2.1]; exact l1, by rw [(ke2.1 81 (by omega)).2.1]; exact m1⟩)
    · have hc := nz_3 b1 c1556
      refine v_aload_n 1560 dL_law_1559 rfl rfl ?_
      refine v_iconstv (v := 0) 1561 dL_law_1560 (by decide) rfl ?_
      refine v_lald 1562 dL_law_1561 (by first | assumption | rfl) (by rw [(ke2.1 80 (by omega)).2.1, l1]; exact in_nI (m := 0) (by decide) (by decide)) rfl ?_
      rw [show Int32.toNatClampNeg 0 = 0 from rfl, (ke2.1 80 (by omega)).2.2.2.2.1, v1 hc, e2 hc]
      refine v_iload 1564 dL_law_1562 rfl rfl ?_
      refine v_i2l 1565 dL_law_1564 rfl ?_
      refine v_lcmp 1566 dL_law_1565 rfl ?_
      rw [cmp_s]
      refine v_if_eq 1571 1569 dL_law_1566 (by decide) rfl (fun c1566 => ?_) (fun c1566 => ?_)
      · refine v_goto 3031 dL_law_1571 (by decide) ?_
        refine VV.less (Nat.le_refl _) (by omega) (by omega) (K _ _ _ _ _ ⟨R1'.te (fun t ht => ke2.1 t (by omega)), R2'', (I.m (Nat.le_succ N)), J, ke2.2 Fr1, by rw [(ke2.1 80 (by omega)).2.1]; exact l1, by rw [(ke2.1 81 (by omega)).2.1]; exact m1⟩)
      · exact absurd rfl c1566
  · exact absurd rfl c1549
set_option maxRecDepth 20000 in
theorem W_18 {G : GW} {Q : RS → PH → Prop} {S : SP} {N j k n : Nat} {h : PH} {z6 z7 z8 : Option PV} (hL : gw_L G ≤ 3072) (hj : 6 * j + 6 ≤ gw_L G) (L9 : lw_I S N h) (hN : N ≤ 600) (K : ∀ S' h' z6 z7 z8, lw_I S' (N + 1) h' → VV G 13 k n yL_law cL_law 9 (some .boolean) [] 3031 [some (pv_O (7, 0)), some (pv_O (10, 0)), some (pv_O (40, 0)), some (pv_O (80, 0)), some (pv_O (81, 0)), some (pv_I (nI (6 * j))), z6, z7, z8] [] h' Q) : VV G 13 (k + 1150) (n + 14040) yL_law cL_law 9 (some .boolean) [] 1574 [some (pv_O (7, 0)), some (pv_O (10, 0)), some (pv_O (40, 0)), some (pv_O (80, 0)), some (pv_O (81, 0)), some (pv_I (nI (6 * j))), z6, z7, z8] [] h Q := by
  obtain ⟨R1, R2, I, J, Fr, l80, l81⟩ := L9
  refine v_aload_n 1575 dL_law_1574 rfl rfl ?_
  refine v_aload_n 1576 dL_law_1575 rfl rfl ?_
  refine v_iload 1578 dL_law_1576 rfl rfl ?_
  refine v_iconstv (v := 1) 1579 dL_law_1578 (by decide) rfl ?_
  refine v_iadd 1580 dL_law_1579 rfl ?_
  rw [show nI (6 * j) + 1 = nI (6 * j + 1) from nI_add (6 * j) 1]
  refine VV.know (fun ho9 _ _ => ?_)
  refine v_iald 1581 dL_law_1580 (by first | assumption | rfl) (by rw [ho9.2.2.2.2.2.2.2.2.1]; exact in_nI (by omega) (by omega)) rfl ?_
  rw [nI_clamp (by omega), ho9.2.2.2.2.2.2.2.2.2]
  refine v_aload_n 1582 dL_law_1581 rfl rfl ?_
  refine v_iload 1584 dL_law_1582 rfl rfl ?_
  refine v_iconstv (v := 2) 1585 dL_law_1584 (by decide) rfl ?_
  refine v_iadd 1586 dL_law_1585 rfl ?_
  rw [show nI (6 * j) + 2 = nI (6 * j + 2) from nI_add (6 * j) 2]
  refine VV.know (fun ho9 _ _ => ?_)
  refine v_iald 1587 dL_law_1586 (by first | assumption | rfl) (by rw [ho9.2.2.2.2.2.2.2.2.1]; exact in_nI (by omega) (by omega)) rfl ?_
  rw [nI_clamp (by omega), ho9.2.2.2.2.2.2.2.2.2]
  refine v_aload_n 1588 dL_law_1587 rfl rfl ?_
  refine v_invsW (d' := 8) (k' := 2) (n' := 12) (k2 := k + 1148) (n2 := n + 14028) 1591 [_, _, _, _] dL_law_1588 lk_L_223 md_L_scrape ms_L_scrape rfl rfl (of_decide_eq_true rfl) rfl (by decide) rfl rfl rfl rfl (C_L_scrape R1 I  l80 (fun h1 R1' te1 l1 b1 v1 => ?_))
  have R2' : Rp2 S h1 := R2.te (fun t ht => te1 t (by omega) (by omega))
  have Fr1 : fr_s h1 := (fun t a b => (Fr t a b).te (te1 t (by omega) (by omega)))
  have m1 : hp_ln h1 81 0 = 1 := by rw [(te1 81 (by omega) (by decide)).2.1]; exact l81
  show VV G 13 (k + 1148) (n + 14028) yL_law cL_law 9 (some .boolean) [] 1591 _ _ h1 Q
  refine v_istore 1593 dL_law_1591 (by decide) rfl rfl ?_
  dsimp only [List.set]
  refine v_aload_n 1594 dL_law_1593 rfl rfl ?_
  refine v_aload_n 1595 dL_law_1594 rfl rfl ?_
  refine v_iload 1597 dL_law_1595 rfl rfl ?_
  refine v_iconstv (v := 1) 1598 dL_law_1597 (by decide) rfl ?_
  refine v_iadd 1599 dL_law_1598 rfl ?_
  rw [show nI (6 * j) + 1 = nI (6 * j + 1) from nI_add (6 * j) 1]
  refine VV.know (fun ho9 _ _ => ?_)
  refine v_iald 1600 dL_law_1599 (by first | assumption | rfl) (by rw [ho9.2.2.2.2.2.2.2.2.1]; exact in_nI (by omega) (by omega)) rfl ?_
  rw [nI_clamp (by omega), ho9.2.2.2.2.2.2.2.2.2]
  refine v_aload_n 1601 dL_law_1600 rfl rfl ?_
  refine v_iload 1603 dL_law_1601 rfl rfl ?_
  refine v_iconstv (v := 2) 1604 dL_law_1603 (by decide) rfl ?_
  refine v_iadd 1605 dL_law_1604 rfl ?_
  rw [show nI (6 * j) + 2 = nI (6 * j + 2) from nI_add (6 * j) 2]
  refine VV.know (fun ho9 _ _ => ?_)
  refine v_iald 1606 dL_law_1605 (by first | assumption | rfl) (by rw [ho9.2.2.2.2.2.2.2.2.1]; exact in_nI (by omega) (by omega)) rfl ?_
  rw [nI_clamp (by omega), ho9.2.2.2.2.2.2.2.2.2]
  refine v_invv (d' := 9) (k' := 0) (n' := 0) (k2 := (k + 1148)) (n2 := (n + 14028)) 1609 [_, _] dL_law_1606 mt_L_225 mi_X12_scrape me_X12_scrape (by first | assumption | rfl) (by rfl) rfl rfl (of_decide_eq_true rfl) rfl (by decide) rfl rfl rfl rfl (C_X12_scrape R2' I  (fun v2 h2 e2 R2'' c2 ke2 => ?_))
  refine v_istore 1611 dL_law_1609 (by decide) rfl rfl ?_
  dsimp only [List.set]
  refine v_aload_n 1612 dL_law_1611 rfl rfl ?_
  refine v_invv (d' := 0) (k' := 0) (n' := 0) (k2 := (k + 1148)) (n2 := (n + 14028)) 1615 [] dL_law_1612 mt_L_162 mi_X12_thrown me_X12_thrown (by first | assumption | rfl) (by rfl) rfl rfl (of_decide_eq_true rfl) rfl (by decide) rfl rfl rfl rfl (C_X12_thrown ?_)
  rw [c2]
  refine v_iload 1617 dL_law_1615 rfl rfl ?_
  refine v_icmp_eq 1622 1620 dL_law_1617 (by decide) rfl (fun c1617 => ?_) (fun c1617 => ?_)
  · refine v_iload 1624 dL_law_1622 rfl rfl ?_
    refine v_if_ne 1639 1627 dL_law_1624 (by decide) rfl (fun c1624 => ?_) (fun c1624 => ?_)
    · refine v_goto 3031 dL_law_1639 (by decide) ?_
      refine VV.less (Nat.le_refl _) (by omega) (by omega) (K _ _ _ _ _ ⟨R1'.te (fun t ht => ke2.1 t (by omega)), R2'', (iv_scrape I), (j2_scrape J), ke2.2 Fr1, by rw [(ke2.1 80 (by omega)).2.1]; exact l1, by rw [(ke2.1 81 (by omega)).2.1]; exact m1⟩)
    · have hc := nz_3 b1 c1624
      refine v_aload_n 1628 dL_law_1627 rfl rfl ?_
      refine v_iconstv (v := 0) 1629 dL_law_1628 (by decide) rfl ?_
      refine v_lald 1630 dL_law_1629 (by first | assumption | rfl) (by rw [(ke2.1 80 (by omega)).2.1, l1]; exact in_nI (m := 0) (by decide) (by decide)) rfl ?_
      rw [show Int32.toNatClampNeg 0 = 0 from rfl, (ke2.1 80 (by omega)).2.2.2.2.1, v1 hc, e2 hc]
      refine v_iload 1632 dL_law_1630 rfl rfl ?_
      refine v_i2l 1633 dL_law_1632 rfl ?_
      refine v_lcmp 1634 dL_law_1633 rfl ?_
      rw [cmp_s]
      refine v_if_eq 1639 1637 dL_law_1634 (by decide) rfl (fun c1634 => ?_) (fun c1634 => ?_)
      · refine v_goto 3031 dL_law_1639 (by decide) ?_
        refine VV.less (Nat.le_refl _) (by omega) (by omega) (K _ _ _ _ _ ⟨R1'.te (fun t ht => ke2.1 t (by omega)), R2'', (iv_scrape I), (j2_scrape J), ke2.2 Fr1, by rw [(ke2.1 80 (by omega)).2.1]; exact l1, by rw [(ke2.1 81 (by omega)).2.1]; exact m1⟩)
      · exact absurd rfl c1634
  · exact absurd rfl c1617
set_option maxRecDepth 20000 in
theorem W_19 {G : GW} {Q : RS → PH → Prop} {S : SP} {N j k n : Nat} {h : PH} {z6 z7 z8 : Option PV} (hL : gw_L G ≤ 3072) (hj : 6 * j + 6 ≤ gw_L G) (L9 : lw_I S N h) (hN : N ≤ 600) (K : ∀ S' h' z6 z7 z8, lw_I S' (N + 1) h' → VV G 13 k n yL_law cL_law 9 (some .boolean) [] 3031 [some (pv_O (7, 0)), some (pv_O (10, 0)), some (pv_O (40, 0)), some (pv_O (80, 0)), some (pv_O (81, 0)), some (pv_I (nI (6 * j))), z6, z7, z8] [] h' Q) : VV G 13 (k + 1150) (n + 14040) yL_law cL_law 9 (some .boolean) [] 1642 [some (pv_O (7, 0)), some (pv_O (10, 0)), some (pv_O (40, 0)), some (pv_O (80, 0)), some (pv_O (81, 0)), some (pv_I (nI (6 * j))), z6, z7, z8] [] h Q := by
  obtain ⟨R1, R2, I, J, Fr, l80, l81⟩ := L9
  refine v_aload_n 1643 dL_law_1642 rfl rfl ?_
  refine v_aload_n 1644 dL_law_1643 rfl rfl ?_
  refine v_iload 1646 dL_law_1644 rfl rfl ?_
  refine v_iconstv (v := 1) 1647 dL_law_1646 (by decide) rfl ?_
  refine v_iadd 1648 dL_law_1647 rfl ?_
  rw [show nI (6 * j) + 1 = nI (6 * j + 1) from nI_add (6 * j) 1]
  refine VV.know (fun ho9 _ _ => ?_)
  refine v_iald 1649 dL_law_1648 (by first | assumption | rfl) (by rw [ho9.2.2.2.2.2.2.2.2.1]; exact in_nI (by omega) (by omega)) rfl ?_
  rw [nI_clamp (by omega), ho9.2.2.2.2.2.2.2.2.2]
  refine v_aload_n 1650 dL_law_1649 rfl rfl ?_
  refine v_invsW (d' := 8) (k' := 1) (n' := 6) (k2 := k + 1149) (n2 := n + 14034) 1653 [_, _, _] dL_law_1650 lk_L_226 md_L_isThrough ms_L_isThrough rfl rfl (of_decide_eq_true rfl) rfl (by decide) rfl rfl rfl rfl (C_L_isThrough R1 I  l80 (fun h1 R1' te1 l1 b1 v1 => ?_))
  have R2' : Rp2 S h1 := R2.te (fun t ht => te1 t (by omega) (by omega))
  have Fr1 : fr_s h1 := (fun t a b => (Fr t a b).te (te1 t (by omega) (by omega)))
  have m1 : hp_ln h1 81 0 = 1 := by rw [(te1 81 (by omega) (by decide)).2.1]; exact l81
  show VV G 13 (k + 1149) (n + 14034) yL_law cL_law 9 (some .boolean) [] 1653 _ _ h1 Q
  refine v_istore 1655 dL_law_1653 (by decide) rfl rfl ?_
  dsimp only [List.set]
  refine v_aload_n 1656 dL_law_1655 rfl rfl ?_
  refine v_aload_n 1657 dL_law_1656 rfl rfl ?_
  refine v_iload 1659 dL_law_1657 rfl rfl ?_
  refine v_iconstv (v := 1) 1660 dL_law_1659 (by decide) rfl ?_
  refine v_iadd 1661 dL_law_1660 rfl ?_
  rw [show nI (6 * j) + 1 = nI (6 * j + 1) from nI_add (6 * j) 1]
  refine VV.know (fun ho9 _ _ => ?_)
  refine v_iald 1662 dL_law_1661 (by first | assumption | rfl) (by rw [ho9.2.2.2.2.2.2.2.2.1]; exact in_nI (by omega) (by omega)) rfl ?_
  rw [nI_clamp (by omega), ho9.2.2.2.2.2.2.2.2.2]
  refine v_invv (d' := 9) (k' := 0) (n' := 0) (k2 := (k + 1149)) (n2 := (n + 14034)) 1665 [_] dL_law_1662 mt_L_228 mi_X12_isThrough me_X12_isThrough (by first | assumption | rfl) (by rfl) rfl rfl (of_decide_eq_true rfl) rfl (by decide) rfl rfl rfl rfl (C_X12_isThrough R2' I  (fun v2 h2 e2 R2'' c2 ke2 => ?_))
  refine v_istore 1667 dL_law_1665 (by decide) rfl rfl ?_
  dsimp only [List.set]
  refine v_aload_n 1668 dL_law_1667 rfl rfl ?_
  refine v_invv (d' := 0) (k' := 0) (n' := 0) (k2 := (k + 1149)) (n2 := (n + 14034)) 1671 [] dL_law_1668 mt_L_162 mi_X12_thrown me_X12_thrown (by first | assumption | rfl) (by rfl) rfl rfl (of_decide_eq_true rfl) rfl (by decide) rfl rfl rfl rfl (C_X12_thrown ?_)
  rw [c2]
  refine v_iload 1673 dL_law_1671 rfl rfl ?_
  refine v_icmp_eq 1678 1676 dL_law_1673 (by decide) rfl (fun c1673 => ?_) (fun c1673 => ?_)
  · refine v_iload 1680 dL_law_1678 rfl rfl ?_
    refine v_if_ne 1702 1683 dL_law_1680 (by decide) rfl (fun c1680 => ?_) (fun c1680 => ?_)
    · refine v_goto 3031 dL_law_1702 (by decide) ?_
      refine VV.less (Nat.le_refl _) (by omega) (by omega) (K _ _ _ _ _ ⟨R1'.te (fun t ht => ke2.1 t (by omega)), R2'', (I.m (Nat.le_succ N)), J, ke2.2 Fr1, by rw [(ke2.1 80 (by omega)).2.1]; exact l1, by rw [(ke2.1 81 (by omega)).2.1]; exact m1⟩)
    · have hc := nz_3 b1 c1680
      refine v_aload_n 1684 dL_law_1683 rfl rfl ?_
      refine v_iconstv (v := 0) 1685 dL_law_1684 (by decide) rfl ?_
      refine v_lald 1686 dL_law_1685 (by first | assumption | rfl) (by rw [(ke2.1 80 (by omega)).2.1, l1]; exact in_nI (m := 0) (by decide) (by decide)) rfl ?_
      rw [show Int32.toNatClampNeg 0 = 0 from rfl, (ke2.1 80 (by omega)).2.2.2.2.1, v1 hc, e2 hc]
      refine v_iload 1688 dL_law_1686 rfl rfl ?_
      refine v_if_eq 1695 1691 dL_law_1688 (by decide) rfl (fun c1688 => ?_) (fun c1688 => ?_)
      · rw [if_pos c1688]
        refine v_lconst (v := 0) 1696 dL_law_1695 (by decide) rfl ?_
        refine v_lcmp 1697 dL_law_1696 rfl ?_
        rw [cmp_s]
        refine v_if_eq 1702 1700 dL_law_1697 (by decide) rfl (fun c1697 => ?_) (fun c1697 => ?_)
        · refine v_goto 3031 dL_law_1702 (by decide) ?_
          refine VV.less (Nat.le_refl _) (by omega) (by omega) (K _ _ _ _ _ ⟨R1'.te (fun t ht => ke2.1 t (by omega)), R2'', (I.m (Nat.le_succ N)), J, ke2.2 Fr1, by rw [(ke2.1 80 (by omega)).2.1]; exact l1, by rw [(ke2.1 81 (by omega)).2.1]; exact m1⟩)
        · exact absurd rfl c1697
      · rw [if_neg c1688]
        refine v_lconst (v := 1) 1692 dL_law_1691 (by decide) rfl ?_
        refine v_goto 1696 dL_law_1692 (by decide) ?_
        refine v_lcmp 1697 dL_law_1696 rfl ?_
        rw [cmp_s]
        refine v_if_eq 1702 1700 dL_law_1697 (by decide) rfl (fun c1697 => ?_) (fun c1697 => ?_)
        · refine v_goto 3031 dL_law_1702 (by decide) ?_
          refine VV.less (Nat.le_refl _) (by omega) (by omega) (K _ _ _ _ _ ⟨R1'.te (fun t ht => ke2.1 t (by omega)), R2'', (I.m (Nat.le_succ N)), J, ke2.2 Fr1, by rw [(ke2.1 80 (by omega)).2.1]; exact l1, by rw [(ke2.1 81 (by omega)).2.1]; exact m1⟩)
        · exact absurd rfl c1697
  · exact absurd rfl c1673
set_option maxRecDepth 20000 in
theorem W_20 {G : GW} {Q : RS → PH → Prop} {S : SP} {N j k n : Nat} {h : PH} {z6 z7 z8 : Option PV} (hL : gw_L G ≤ 3072) (hj : 6 * j + 6 ≤ gw_L G) (L9 : lw_I S N h) (hN : N ≤ 600) (K : ∀ S' h' z6 z7 z8, lw_I S' (N + 1) h' → VV G 13 k n yL_law cL_law 9 (some .boolean) [] 3031 [some (pv_O (7, 0)), some (pv_O (10, 0)), some (pv_O (40, 0)), some (pv_O (80, 0)), some (pv_O (81, 0)), some (pv_I (nI (6 * j))), z6, z7, z8] [] h' Q) : VV G 13 (k + 1150) (n + 14040) yL_law cL_law 9 (some .boolean) [] 1705 [some (pv_O (7, 0)), some (pv_O (10, 0)), some (pv_O (40, 0)), some (pv_O (80, 0)), some (pv_O (81, 0)), some (pv_I (nI (6 * j))), z6, z7, z8] [] h Q := by
  obtain ⟨R1, R2, I, J, Fr, l80, l81⟩ := L9
  refine v_aload_n 1706 dL_law_1705 rfl rfl ?_
  refine v_aload_n 1707 dL_law_1706 rfl rfl ?_
  refine v_iload 1709 dL_law_1707 rfl rfl ?_
  refine v_iconstv (v := 1) 1710 dL_law_1709 (by decide) rfl ?_
  refine v_iadd 1711 dL_law_1710 rfl ?_
  rw [show nI (6 * j) + 1 = nI (6 * j + 1) from nI_add (6 * j) 1]
  refine VV.know (fun ho9 _ _ => ?_)
  refine v_iald 1712 dL_law_1711 (by first | assumption | rfl) (by rw [ho9.2.2.2.2.2.2.2.2.1]; exact in_nI (by omega) (by omega)) rfl ?_
  rw [nI_clamp (by omega), ho9.2.2.2.2.2.2.2.2.2]
  refine v_aload_n 1713 dL_law_1712 rfl rfl ?_
  refine v_iload 1715 dL_law_1713 rfl rfl ?_
  refine v_iconstv (v := 2) 1716 dL_law_1715 (by decide) rfl ?_
  refine v_iadd 1717 dL_law_1716 rfl ?_
  rw [show nI (6 * j) + 2 = nI (6 * j + 2) from nI_add (6 * j) 2]
  refine VV.know (fun ho9 _ _ => ?_)
  refine v_iald 1718 dL_law_1717 (by first | assumption | rfl) (by rw [ho9.2.2.2.2.2.2.2.2.1]; exact in_nI (by omega) (by omega)) rfl ?_
  rw [nI_clamp (by omega), ho9.2.2.2.2.2.2.2.2.2]
  refine v_aload_n 1719 dL_law_1718 rfl rfl ?_
  refine v_invsW (d' := 8) (k' := 2) (n' := 12) (k2 := k + 1148) (n2 := n + 14028) 1722 [_, _, _, _] dL_law_1719 lk_L_229 md_L_pad ms_L_pad rfl rfl (of_decide_eq_true rfl) rfl (by decide) rfl rfl rfl rfl (C_L_pad R1 I  l80 (fun h1 R1' te1 l1 b1 v1 => ?_))
  have R2' : Rp2 S h1 := R2.te (fun t ht => te1 t (by omega) (by omega))
  have Fr1 : fr_s h1 := (fun t a b => (Fr t a b).te (te1 t (by omega) (by omega)))
  have m1 : hp_ln h1 81 0 = 1 := by rw [(te1 81 (by omega) (by decide)).2.1]; exact l81
  show VV G 13 (k + 1148) (n + 14028) yL_law cL_law 9 (some .boolean) [] 1722 _ _ h1 Q
  refine v_istore 1724 dL_law_1722 (by decide) rfl rfl ?_
  dsimp only [List.set]
  refine v_aload_n 1725 dL_law_1724 rfl rfl ?_
  refine v_aload_n 1726 dL_law_1725 rfl rfl ?_
  refine v_iload 1728 dL_law_1726 rfl rfl ?_
  refine v_iconstv (v := 1) 1729 dL_law_1728 (by decide) rfl ?_
  refine v_iadd 1730 dL_law_1729 rfl ?_
  rw [show nI (6 * j) + 1 = nI (6 * j + 1) from nI_add (6 * j) 1]
  refine VV.know (fun ho9 _ _ => ?_)
  refine v_iald 1731 dL_law_1730 (by first | assumption | rfl) (by rw [ho9.2.2.2.2.2.2.2.2.1]; exact in_nI (by omega) (by omega)) rfl ?_
  rw [nI_clamp (by omega), ho9.2.2.2.2.2.2.2.2.2]
  refine v_aload_n 1732 dL_law_1731 rfl rfl ?_
  refine v_iload 1734 dL_law_1732 rfl rfl ?_
  refine v_iconstv (v := 2) 1735 dL_law_1734 (by decide) rfl ?_
  refine v_iadd 1736 dL_law_1735 rfl ?_
  rw [show nI (6 * j) + 2 = nI (6 * j + 2) from nI_add (6 * j) 2]
  refine VV.know (fun ho9 _ _ => ?_)
  refine v_iald 1737 dL_law_1736 (by first | assumption | rfl) (by rw [ho9.2.2.2.2.2.2.2.2.1]; exact in_nI (by omega) (by omega)) rfl ?_
  rw [nI_clamp (by omega), ho9.2.2.2.2.2.2.2.2.2]
  refine v_invv (d' := 9) (k' := 0) (n' := 0) (k2 := (k + 1148)) (n2 := (n + 14028)) 1740 [_, _] dL_law_1737 mt_L_231 mi_X12_pad me_X12_pad (by first | assumption | rfl) (by rfl) rfl rfl (of_decide_eq_true rfl) rfl (by decide) rfl rfl rfl rfl (C_X12_pad R2' I hN (fun v2 h2 e2 R2'' c2 ke2 => ?_))
  refine v_istore 1742 dL_law_1740 (by decide) rfl rfl ?_
  dsimp only [List.set]
  refine v_aload_n 1743 dL_law_1742 rfl rfl ?_
  refine v_invv (d' := 0) (k' := 0) (n' := 0) (k2 := (k + 1148)) (n2 := (n + 14028)) 1746 [] dL_law_1743 mt_L_162 mi_X12_thrown me_X12_thrown (by first | assumption | rfl) (by rfl) rfl rfl (of_decide_eq_true rfl) rfl (by decide) rfl rfl rfl rfl (C_X12_thrown ?_)
  rw [c2]
  refine v_iload 1748 dL_law_1746 rfl rfl ?_
  refine v_icmp_eq 1753 1751 dL_law_1748 (by decide) rfl (fun c1748 => ?_) (fun c1748 => ?_)
  · refine v_iload 1755 dL_law_1753 rfl rfl ?_
    refine v_if_ne 1770 1758 dL_law_1755 (by decide) rfl (fun c1755 => ?_) (fun c1755 => ?_)
    · refine v_goto 3031 dL_law_1770 (by decide) ?_
      refine VV.less (Nat.le_refl _) (by omega) (by omega) (K _ _ _ _ _ ⟨R1'.te (fun t ht => ke2.1 t (by omega)), R2'', (iv_pad I hN), (j2_pad J), ke2.2 Fr1, by rw [(ke2.1 80 (by omega)).2.1]; exact l1, by rw [(ke2.1 81 (by omega)).2.1]; exact m1⟩)
    · have hc := nz_3 b1 c1755
      refine v_aload_n 1759 dL_law_1758 rfl rfl ?_
      refine v_iconstv (v := 0) 1760 dL_law_1759 (by decide) rfl ?_
      refine v_lald 1761 dL_law_1760 (by first | assumption | rfl) (by rw [(ke2.1 80 (by omega)).2.1, l1]; exact in_nI (m := 0) (by decide) (by decide)) rfl ?_
      rw [show Int32.toNatClampNeg 0 = 0 from rfl, (ke2.1 80 (by omega)).2.2.2.2.1, v1 hc, e2 hc]
      refine v_iload 1763 dL_law_1761 rfl rfl ?_
      refine v_i2l 1764 dL_law_1763 rfl ?_
      refine v_lcmp 1765 dL_law_1764 rfl ?_
      rw [cmp_s]
      refine v_if_eq 1770 1768 dL_law_1765 (by decide) rfl (fun c1765 => ?_) (fun c1765 => ?_)
      · refine v_goto 3031 dL_law_1770 (by decide) ?_
        refine VV.less (Nat.le_refl _) (by omega) (by omega) (K _ _ _ _ _ ⟨R1'.te (fun t ht => ke2.1 t (by omega)), R2'', (iv_pad I hN), (j2_pad J), ke2.2 Fr1, by rw [(ke2.1 80 (by omega)).2.1]; exact l1, by rw [(ke2.1 81 (by omega)).2.1]; exact m1⟩)
      · exact absurd rfl c1765
  · exact absurd rfl c1748
set_option maxRecDepth 20000 in
theorem W_21 {G : GW} {Q : RS → PH → Prop} {S : SP} {N j k n : Nat} {h : PH} {z6 z7 z8 : Option PV} (hL : gw_L G ≤ 3072) (hj : 6 * j + 6 ≤ gw_L G) (L9 : lw_I S N h) (hN : N ≤ 600) (K : ∀ S' h' z6 z7 z8, lw_I S' (N + 1) h' → VV G 13 k n yL_law cL_law 9 (some .boolean) [] 3031 [some (pv_O (7, 0)), some (pv_O (10, 0)), some (pv_O (40, 0)), some (pv_O (80, 0)), some (pv_O (81, 0)), some (pv_I (nI (6 * j))), z6, z7, z8] [] h' Q) : VV G 13 (k + 1150) (n + 14040) yL_law cL_law 9 (some .boolean) [] 1773 [some (pv_O (7, 0)), some (pv_O (10, 0)), some (pv_O (40, 0)), some (pv_O (80, 0)), some (pv_O (81, 0)), some (pv_I (nI (6 * j))), z6, z7, z8] [] h Q := by
  obtain ⟨R1, R2, I, J, Fr, l80, l81⟩ := L9
  refine v_aload_n 1774 dL_law_1773 rfl rfl ?_
  refine v_invv (d' := 3) (k' := 0) (n' := 0) (k2 := (k + 1150)) (n2 := (n + 14040)) 1777 [] dL_law_1774 mt_L_232 mi_X6_rest me_X6_rest (by first | assumption | rfl) (by rfl) rfl rfl (of_decide_eq_true rfl) rfl (by decide) rfl rfl rfl rfl (C_X6_rest R1 I (fun h1 R1' te0 => ?_))
  have te1 : ∀ t, t < 10 ∨ 40 ≤ t → ¬ t = 80 → hp_te h h1 t := fun t a _ => te0 t a
  have l1 : hp_ln h1 80 0 = 1 := by rw [(te0 80 (by omega)).2.1]; exact l80
  have R2' : Rp2 S h1 := R2.te (fun t ht => te1 t (by omega) (by omega))
  have Fr1 : fr_s h1 := (fun t a b => (Fr t a b).te (te1 t (by omega) (by omega)))
  have m1 : hp_ln h1 81 0 = 1 := by rw [(te1 81 (by omega) (by decide)).2.1]; exact l81
  
  refine v_aload_n 1778 dL_law_1777 rfl rfl ?_
  refine v_invv (d' := 9) (k' := 1) (n' := 4) (k2 := (k + 1149)) (n2 := (n + 14036)) 1781 [] dL_law_1778 mt_L_235 mi_X12_rest me_X12_rest (by first | assumption | rfl) (by rfl) rfl rfl (of_decide_eq_true rfl) rfl (by decide) rfl rfl rfl rfl (C_X12_rest R2' I Fr1 (fun h2 R2'' ke2 => ?_))
  refine v_icmp_eq 3031 1784 dL_law_1781 (by decide) rfl (fun c1781 => ?_) (fun c1781 => ?_)
  · refine VV.less (Nat.le_refl _) (by omega) (by omega) (K _ _ _ _ _ ⟨R1'.te (fun t ht => ke2.1 t (by omega)), R2'', (iv_rest I), (j2_rest J), ke2.2 Fr1, by rw [(ke2.1 80 (by omega)).2.1]; exact l1, by rw [(ke2.1 81 (by omega)).2.1]; exact m1⟩)
  · exact absurd rfl c1781
set_option maxRecDepth 20000 in
theorem W_22 {G : GW} {Q : RS → PH → Prop} {S : SP} {N j k n : Nat} {h : PH} {z6 z7 z8 : Option PV} (hL : gw_L G ≤ 3072) (hj : 6 * j + 6 ≤ gw_L G) (L9 : lw_I S N h) (hN : N ≤ 600) (K : ∀ S' h' z6 z7 z8, lw_I S' (N + 1) h' → VV G 13 k n yL_law cL_law 9 (some .boolean) [] 3031 [some (pv_O (7, 0)), some (pv_O (10, 0)), some (pv_O (40, 0)), some (pv_O (80, 0)), some (pv_O (81, 0)), some (pv_I (nI (6 * j))), z6, z7, z8] [] h' Q) : VV G 13 (k + 1150) (n + 14040) yL_law cL_law 9 (some .boolean) [] 1786 [some (pv_O (7, 0)), some (pv_O (10, 0)), some (pv_O (40, 0)), some (pv_O (80, 0)), some (pv_O (81, 0)), some (pv_I (nI (6 * j))), z6, z7, z8] [] h Q := by
  obtain ⟨R1, R2, I, J, Fr, l80, l81⟩ := L9
  refine v_aload_n 1787 dL_law_1786 rfl rfl ?_
  refine v_aload_n 1788 dL_law_1787 rfl rfl ?_
  refine v_iload 1790 dL_law_1788 rfl rfl ?_
  refine v_iconstv (v := 1) 1791 dL_law_1790 (by decide) rfl ?_
  refine v_iadd 1792 dL_law_1791 rfl ?_
  rw [show nI (6 * j) + 1 = nI (6 * j + 1) from nI_add (6 * j) 1]
  refine VV.know (fun ho9 _ _ => ?_)
  refine v_iald 1793 dL_law_1792 (by first | assumption | rfl) (by rw [ho9.2.2.2.2.2.2.2.2.1]; exact in_nI (by omega) (by omega)) rfl ?_
  rw [nI_clamp (by omega), ho9.2.2.2.2.2.2.2.2.2]
  refine v_aload_n 1794 dL_law_1793 rfl rfl ?_
  refine v_invsW (d' := 8) (k' := 1) (n' := 6) (k2 := k + 1149) (n2 := n + 14034) 1797 [_, _, _] dL_law_1794 lk_L_236 md_L_ghosts ms_L_ghosts rfl rfl (of_decide_eq_true rfl) rfl (by decide) rfl rfl rfl rfl (C_L_ghosts R1 I  l80 (fun h1 R1' te1 l1 b1 v1 => ?_))
  have R2' : Rp2 S h1 := R2.te (fun t ht => te1 t (by omega) (by omega))
  have Fr1 : fr_s h1 := (fun t a b => (Fr t a b).te (te1 t (by omega) (by omega)))
  have m1 : hp_ln h1 81 0 = 1 := by rw [(te1 81 (by omega) (by decide)).2.1]; exact l81
  show VV G 13 (k + 1149) (n + 14034) yL_law cL_law 9 (some .boolean) [] 1797 _ _ h1 Q
  refine v_istore 1799 dL_law_1797 (by decide) rfl rfl ?_
  dsimp only [List.set]
  refine v_aload_n 1800 dL_law_1799 rfl rfl ?_
  refine v_aload_n 1801 dL_law_1800 rfl rfl ?_
  refine v_iload 1803 dL_law_1801 rfl rfl ?_
  refine v_iconstv (v := 1) 1804 dL_law_1803 (by decide) rfl ?_
  refine v_iadd 1805 dL_law_1804 rfl ?_
  rw [show nI (6 * j) + 1 = nI (6 * j + 1) from nI_add (6 * j) 1]
  refine VV.know (fun ho9 _ _ => ?_)
  refine v_iald 1806 dL_law_1805 (by first | assumption | rfl) (by rw [ho9.2.2.2.2.2.2.2.2.1]; exact in_nI (by omega) (by omega)) rfl ?_
  rw [nI_clamp (by omega), ho9.2.2.2.2.2.2.2.2.2]
  refine v_invv (d' := 9) (k' := 0) (n' := 0) (k2 := (k + 1149)) (n2 := (n + 14034)) 1809 [_] dL_law_1806 mt_L_238 mi_X12_ghosts me_X12_ghosts (by first | assumption | rfl) (by rfl) rfl rfl (of_decide_eq_true rfl) rfl (by decide) rfl rfl rfl rfl (C_X12_ghosts R2' I  (fun v2 h2 e2 R2'' c2 ke2 => ?_))
  refine v_istore 1811 dL_law_1809 (by decide) rfl rfl ?_
  dsimp only [List.set]
  refine v_aload_n 1812 dL_law_1811 rfl rfl ?_
  refine v_invv (d' := 0) (k' := 0) (n' := 0) (k2 := (k + 1149)) (n2 := (n + 14034)) 1815 [] dL_law_1812 mt_L_162 mi_X12_thrown me_X12_thrown (by first | assumption | rfl) (by rfl) rfl rfl (of_decide_eq_true rfl) rfl (by decide) rfl rfl rfl rfl (C_X12_thrown ?_)
  rw [c2]
  refine v_iload 1817 dL_law_1815 rfl rfl ?_
  refine v_icmp_eq 1822 1820 dL_law_1817 (by decide) rfl (fun c1817 => ?_) (fun c1817 => ?_)
  · refine v_iload 1824 dL_law_1822 rfl rfl ?_
    refine v_if_ne 1839 1827 dL_law_1824 (by decide) rfl (fun c1824 => ?_) (fun c1824 => ?_)
    · refine v_goto 3031 dL_law_1839 (by decide) ?_
      refine VV.less (Nat.le_refl _) (by omega) (by omega) (K _ _ _ _ _ ⟨R1'.te (fun t ht => ke2.1 t (by omega)), R2'', (I.m (Nat.le_succ N)), J, ke2.2 Fr1, by rw [(ke2.1 80 (by omega)).2.1]; exact l1, by rw [(ke2.1 81 (by omega)).2.1]; exact m1⟩)
    · have hc := nz_3 b1 c1824
      refine v_aload_n 1828 dL_law_1827 rfl rfl ?_
      refine v_iconstv (v := 0) 1829 dL_law_1828 (by decide) rfl ?_
      refine v_lald 1830 dL_law_1829 (by first | assumption | rfl) (by rw [(ke2.1 80 (by omega)).2.1, l1]; exact in_nI (m := 0) (by decide) (by decide)) rfl ?_
      rw [show Int32.toNatClampNeg 0 = 0 from rfl, (ke2.1 80 (by omega)).2.2.2.2.1, v1 hc, e2 hc]
      refine v_iload 1832 dL_law_1830 rfl rfl ?_
      refine v_i2l 1833 dL_law_1832 rfl ?_
      refine v_lcmp 1834 dL_law_1833 rfl ?_
      rw [cmp_s]
      refine v_if_eq 1839 1837 dL_law_1834 (by decide) rfl (fun c1834 => ?_) (fun c1834 => ?_)
      · refine v_goto 3031 dL_law_1839 (by decide) ?_
        refine VV.less (Nat.le_refl _) (by omega) (by omega) (K _ _ _ _ _ ⟨R1'.te (fun t ht => ke2.1 t (by omega)), R2'', (I.m (Nat.le_succ N)), J, ke2.2 Fr1, by rw [(ke2.1 80 (by omega)).2.1]; exact l1, by rw [(ke2.1 81 (by omega)).2.1]; exact m1⟩)
      · exact absurd rfl c1834
  · exact absurd rfl c1817
set_option maxRecDepth 20000 in
theorem W_23 {G : GW} {Q : RS → PH → Prop} {S : SP} {N j k n : Nat} {h : PH} {z6 z7 z8 : Option PV} (hL : gw_L G ≤ 3072) (hj : 6 * j + 6 ≤ gw_L G) (L9 : lw_I S N h) (hN : N ≤ 600) (K : ∀ S' h' z6 z7 z8, lw_I S' (N + 1) h' → VV G 13 k n yL_law cL_law 9 (some .boolean) [] 3031 [some (pv_O (7, 0)), some (pv_O (10, 0)), some (pv_O (40, 0)), some (pv_O (80, 0)), some (pv_O (81, 0)), some (pv_I (nI (6 * j))), z6, z7, z8] [] h' Q) : VV G 13 (k + 1150) (n + 14040) yL_law cL_law 9 (some .boolean) [] 1842 [some (pv_O (7, 0)), some (pv_O (10, 0)), some (pv_O (40, 0)), some (pv_O (80, 0)), some (pv_O (81, 0)), some (pv_I (nI (6 * j))), z6, z7, z8] [] h Q := by
  obtain ⟨R1, R2, I, J, Fr, l80, l81⟩ := L9
  refine v_aload_n 1843 dL_law_1842 rfl rfl ?_
  refine v_aload_n 1844 dL_law_1843 rfl rfl ?_
  refine v_invsW (d' := 9) (k' := 8) (n' := 260) (k2 := k + 1142) (n2 := n + 13780) 1847 [_, _] dL_law_1844 lk_L_239 md_L_picture ms_L_picture rfl rfl (of_decide_eq_true rfl) rfl (by decide) rfl rfl rfl rfl (C_L_picture R1 I  l80 (fun h1 R1' te1 l1 b1 v1 => ?_))
  have R2' : Rp2 S h1 := R2.te (fun t ht => te1 t (by omega) (by omega))
  have Fr1 : fr_s h1 := (fun t a b => (Fr t a b).te (te1 t (by omega) (by omega)))
  have m1 : hp_ln h1 81 0 = 1 := by rw [(te1 81 (by omega) (by decide)).2.1]; exact l81
  show VV G 13 (k + 1142) (n + 13780) yL_law cL_law 9 (some .boolean) [] 1847 _ _ h1 Q
  refine v_istore 1849 dL_law_1847 (by decide) rfl rfl ?_
  dsimp only [List.set]
  refine v_aload_n 1850 dL_law_1849 rfl rfl ?_
  refine v_invv (d' := 9) (k' := 4) (n' := 110) (k2 := (k + 1138)) (n2 := (n + 13670)) 1853 [] dL_law_1850 mt_L_242 mi_X12_picture me_X12_picture (by first | assumption | rfl) (by rfl) rfl rfl (of_decide_eq_true rfl) rfl (by decide) rfl rfl rfl rfl (C_X12_picture R2' I  (fun v2 h2 e2 R2'' c2 ke2 => ?_))
  refine v_istore 1855 dL_law_1853 (by decide) rfl rfl ?_
  dsimp only [List.set]
  refine v_aload_n 1856 dL_law_1855 rfl rfl ?_
  refine v_invv (d' := 0) (k' := 0) (n' := 0) (k2 := (k + 1138)) (n2 := (n + 13670)) 1859 [] dL_law_1856 mt_L_162 mi_X12_thrown me_X12_thrown (by first | assumption | rfl) (by rfl) rfl rfl (of_decide_eq_true rfl) rfl (by decide) rfl rfl rfl rfl (C_X12_thrown ?_)
  rw [c2]
  refine v_iload 1861 dL_law_1859 rfl rfl ?_
  refine v_icmp_eq 1866 1864 dL_law_1861 (by decide) rfl (fun c1861 => ?_) (fun c1861 => ?_)
  · refine v_iload 1868 dL_law_1866 rfl rfl ?_
    refine v_if_ne 1883 1871 dL_law_1868 (by decide) rfl (fun c1868 => ?_) (fun c1868 => ?_)
    · refine v_goto 3031 dL_law_1883 (by decide) ?_
      refine VV.less (Nat.le_refl _) (by omega) (by omega) (K _ _ _ _ _ ⟨R1'.te (fun t ht => ke2.1 t (by omega)), R2'', (iv_picture I), (j2_picture J), ke2.2 Fr1, by rw [(ke2.1 80 (by omega)).2.1]; exact l1, by rw [(ke2.1 81 (by omega)).2.1]; exact m1⟩)
    · have hc := nz_3 b1 c1868
      refine v_aload_n 1872 dL_law_1871 rfl rfl ?_
      refine v_iconstv (v := 0) 1873 dL_law_1872 (by decide) rfl ?_
      refine v_lald 1874 dL_law_1873 (by first | assumption | rfl) (by rw [(ke2.1 80 (by omega)).2.1, l1]; exact in_nI (m := 0) (by decide) (by decide)) rfl ?_
      rw [show Int32.toNatClampNeg 0 = 0 from rfl, (ke2.1 80 (by omega)).2.2.2.2.1, v1 hc, e2 hc]
      refine v_iload 1876 dL_law_1874 rfl rfl ?_
      refine v_i2l 1877 dL_law_1876 rfl ?_
      refine v_lcmp 1878 dL_law_1877 rfl ?_
      rw [cmp_s]
      refine v_if_eq 1883 1881 dL_law_1878 (by decide) rfl (fun c1878 => ?_) (fun c1878 => ?_)
      · refine v_goto 3031 dL_law_1883 (by decide) ?_
        refine VV.less (Nat.le_refl _) (by omega) (by omega) (K _ _ _ _ _ ⟨R1'.te (fun t ht => ke2.1 t (by omega)), R2'', (iv_picture I), (j2_picture J), ke2.2 Fr1, by rw [(ke2.1 80 (by omega)).2.1]; exact l1, by rw [(ke2.1 81 (by omega)).2.1]; exact m1⟩)
      · exact absurd rfl c1878
  · exact absurd rfl c1861
set_option maxRecDepth 20000 in
theorem W_24 {G : GW} {Q : RS → PH → Prop} {S : SP} {N j k n : Nat} {h : PH} {z6 z7 z8 : Option PV} (hL : gw_L G ≤ 3072) (hj : 6 * j + 6 ≤ gw_L G) (L9 : lw_I S N h) (hN : N ≤ 600) (K : ∀ S' h' z6 z7 z8, lw_I S' (N + 1) h' → VV G 13 k n yL_law cL_law 9 (some .boolean) [] 3031 [some (pv_O (7, 0)), some (pv_O (10, 0)), some (pv_O (40, 0)), some (pv_O (80, 0)), some (pv_O (81, 0)), some (pv_I (nI (6 * j))), z6, z7, z8] [] h' Q) : VV G 13 (k + 1150) (n + 14040) yL_law cL_law 9 (some .boolean) [] 1886 [some (pv_O (7, 0)), some (pv_O (10, 0)), some (pv_O (40, 0)), some (pv_O (80, 0)), some (pv_O (81, 0)), some (pv_I (nI (6 * j))), z6, z7, z8] [] h Q := by
  obtain ⟨R1, R2, I, J, Fr, l80, l81⟩ := L9
  refine v_aload_n 1887 dL_law_1886 rfl rfl ?_
  refine v_aload_n 1888 dL_law_1887 rfl rfl ?_
  refine v_iload 1890 dL_law_1888 rfl rfl ?_
  refine v_iconstv (v := 1) 1891 dL_law_1890 (by decide) rfl ?_
  refine v_iadd 1892 dL_law_1891 rfl ?_
  rw [show nI (6 * j) + 1 = nI (6 * j + 1) from nI_add (6 * j) 1]
  refine VV.know (fun ho9 _ _ => ?_)
  refine v_iald 1893 dL_law_1892 (by first | assumption | rfl) (by rw [ho9.2.2.2.2.2.2.2.2.1]; exact in_nI (by omega) (by omega)) rfl ?_
  rw [nI_clamp (by omega), ho9.2.2.2.2.2.2.2.2.2]
  refine v_aload_n 1894 dL_law_1893 rfl rfl ?_
  refine v_iload 1896 dL_law_1894 rfl rfl ?_
  refine v_iconstv (v := 2) 1897 dL_law_1896 (by decide) rfl ?_
  refine v_iadd 1898 dL_law_1897 rfl ?_
  rw [show nI (6 * j) + 2 = nI (6 * j + 2) from nI_add (6 * j) 2]
  refine VV.know (fun ho9 _ _ => ?_)
  refine v_iald 1899 dL_law_1898 (by first | assumption | rfl) (by rw [ho9.2.2.2.2.2.2.2.2.1]; exact in_nI (by omega) (by omega)) rfl ?_
  rw [nI_clamp (by omega), ho9.2.2.2.2.2.2.2.2.2]
  refine v_aload_n 1900 dL_law_1899 rfl rfl ?_
  refine v_iload 1902 dL_law_1900 rfl rfl ?_
  refine v_iconstv (v := 3) 1903 dL_law_1902 (by decide) rfl ?_
  refine v_iadd 1904 dL_law_1903 rfl ?_
  rw [show nI (6 * j) + 3 = nI (6 * j + 3) from nI_add (6 * j) 3]
  refine VV.know (fun ho9 _ _ => ?_)
  refine v_iald 1905 dL_law_1904 (by first | assumption | rfl) (by rw [ho9.2.2.2.2.2.2.2.2.1]; exact in_nI (by omega) (by omega)) rfl ?_
  rw [nI_clamp (by omega), ho9.2.2.2.2.2.2.2.2.2]
  refine v_aload_n 1906 dL_law_1905 rfl rfl ?_
  refine v_iload 1908 dL_law_1906 rfl rfl ?_
  refine v_iconstv (v := 4) 1909 dL_law_1908 (by decide) rfl ?_
  refine v_iadd 1910 dL_law_1909 rfl ?_
  rw [show nI (6 * j) + 4 = nI (6 * j + 4) from nI_add (6 * j) 4]
  refine VV.know (fun ho9 _ _ => ?_)
  refine v_iald 1911 dL_law_1910 (by first | assumption | rfl) (by rw [ho9.2.2.2.2.2.2.2.2.1]; exact in_nI (by omega) (by omega)) rfl ?_
  rw [nI_clamp (by omega), ho9.2.2.2.2.2.2.2.2.2]
  refine v_aload_n 1912 dL_law_1911 rfl rfl ?_
  refine v_iload 1914 dL_law_1912 rfl rfl ?_
  refine v_iconstv (v := 5) 1915 dL_law_1914 (by decide) rfl ?_
  refine v_iadd 1916 dL_law_1915 rfl ?_
  rw [show nI (6 * j) + 5 = nI (6 * j + 5) from nI_add (6 * j) 5]
  refine VV.know (fun ho9 _ _ => ?_)
  refine v_iald 1917 dL_law_1916 (by first | assumption | rfl) (by rw [ho9.2.2.2.2.2.2.2.2.1]; exact in_nI (by omega) (by omega)) rfl ?_
  rw [nI_clamp (by omega), ho9.2.2.2.2.2.2.2.2.2]
  refine v_i2c 1918 dL_law_1917 rfl ?_
  refine v_aload_n 1919 dL_law_1918 rfl rfl ?_
  obtain ⟨pp, hp1⟩ := ct_ex (st_ (pt_ (hp_vi S.1 63 (cl_ (gw_x G (6 * j + 1)))) (cl_ (gw_x G (6 * j + 2) * 8 + gw_x G (6 * j + 3))) (cl_ (gw_x G (6 * j + 4))) (((gw_x G (6 * j + 5)).toUInt32 % 65536).toInt32 - 97))) 64
  obtain ⟨ii, hp2⟩ := ct_ex (fun k => st_ (pt_ (hp_vi S.1 63 (cl_ (gw_x G (6 * j + 1)))) (cl_ (gw_x G (6 * j + 2) * 8 + gw_x G (6 * j + 3))) (cl_ (gw_x G (6 * j + 4))) (((gw_x G (6 * j + 5)).toUInt32 % 65536).toInt32 - 97)) k ∧ is_l (pt_ (hp_vi S.1 63 (cl_ (gw_x G (6 * j + 1)))) (cl_ (gw_x G (6 * j + 2) * 8 + gw_x G (6 * j + 3))) (cl_ (gw_x G (6 * j + 4))) (((gw_x G (6 * j + 5)).toUInt32 % 65536).toInt32 - 97)) k) 64
  have hpc : pc_ (pt_ (hp_vi S.1 63 (cl_ (gw_x G (6 * j + 1)))) (cl_ (gw_x G (6 * j + 2) * 8 + gw_x G (6 * j + 3))) (cl_ (gw_x G (6 * j + 4))) (((gw_x G (6 * j + 5)).toUInt32 % 65536).toInt32 - 97)) pp ii := ⟨hp1, hp2⟩
  refine v_invsW (d' := 8) (k' := 2) (n' := 12) (k2 := k + 1148) (n2 := n + 14028) 1922 [_, _, _, _, _, _, _] dL_law_1919 lk_L_243 md_L_draw ms_L_draw rfl rfl (of_decide_eq_true rfl) rfl (by decide) rfl rfl rfl rfl (C_L_draw R1 I hpc l80 (fun h1 R1' te1 l1 b1 v1 => ?_))
  have R2' : Rp2 S h1 := R2.te (fun t ht => te1 t (by omega) (by omega))
  have Fr1 : fr_s h1 := (fun t a b => (Fr t a b).te (te1 t (by omega) (by omega)))
  have m1 : hp_ln h1 81 0 = 1 := by rw [(te1 81 (by omega) (by decide)).2.1]; exact l81
  show VV G 13 (k + 1148) (n + 14028) yL_law cL_law 9 (some .boolean) [] 1922 _ _ h1 Q
  refine v_istore 1924 dL_law_1922 (by decide) rfl rfl ?_
  dsimp only [List.set]
  refine v_aload_n 1925 dL_law_1924 rfl rfl ?_
  refine v_aload_n 1926 dL_law_1925 rfl rfl ?_
  refine v_iload 1928 dL_law_1926 rfl rfl ?_
  refine v_iconstv (v := 1) 1929 dL_law_1928 (by decide) rfl ?_
  refine v_iadd 1930 dL_law_1929 rfl ?_
  rw [show nI (6 * j) + 1 = nI (6 * j + 1) from nI_add (6 * j) 1]
  refine VV.know (fun ho9 _ _ => ?_)
  refine v_iald 1931 dL_law_1930 (by first | assumption | rfl) (by rw [ho9.2.2.2.2.2.2.2.2.1]; exact in_nI (by omega) (by omega)) rfl ?_
  rw [nI_clamp (by omega), ho9.2.2.2.2.2.2.2.2.2]
  refine v_aload_n 1932 dL_law_1931 rfl rfl ?_
  refine v_iload 1934 dL_law_1932 rfl rfl ?_
  refine v_iconstv (v := 2) 1935 dL_law_1934 (by decide) rfl ?_
  refine v_iadd 1936 dL_law_1935 rfl ?_
  rw [show nI (6 * j) + 2 = nI (6 * j + 2) from nI_add (6 * j) 2]
  refine VV.know (fun ho9 _ _ => ?_)
  refine v_iald 1937 dL_law_1936 (by first | assumption | rfl) (by rw [ho9.2.2.2.2.2.2.2.2.1]; exact in_nI (by omega) (by omega)) rfl ?_
  rw [nI_clamp (by omega), ho9.2.2.2.2.2.2.2.2.2]
  refine v_aload_n 1938 dL_law_1937 rfl rfl ?_
  refine v_iload 1940 dL_law_1938 rfl rfl ?_
  refine v_iconstv (v := 3) 1941 dL_law_1940 (by decide) rfl ?_
  refine v_iadd 1942 dL_law_1941 rfl ?_
  rw [show nI (6 * j) + 3 = nI (6 * j + 3) from nI_add (6 * j) 3]
  refine VV.know (fun ho9 _ _ => ?_)
  refine v_iald 1943 dL_law_1942 (by first | assumption | rfl) (by rw [ho9.2.2.2.2.2.2.2.2.1]; exact in_nI (by omega) (by omega)) rfl ?_
  rw [nI_clamp (by omega), ho9.2.2.2.2.2.2.2.2.2]
  refine v_aload_n 1944 dL_law_1943 rfl rfl ?_
  refine v_iload 1946 dL_law_1944 rfl rfl ?_
  refine v_iconstv (v := 4) 1947 dL_law_1946 (by decide) rfl ?_
  refine v_iadd 1948 dL_law_1947 rfl ?_
  rw [show nI (6 * j) + 4 = nI (6 * j + 4) from nI_add (6 * j) 4]
  refine VV.know (fun ho9 _ _ => ?_)
  refine v_iald 1949 dL_law_1948 (by first | assumption | rfl) (by rw [ho9.2.2.2.2.2.2.2.2.1]; exact in_nI (by omega) (by omega)) rfl ?_
  rw [nI_clamp (by omega), ho9.2.2.2.2.2.2.2.2.2]
  refine v_aload_n 1950 dL_law_1949 rfl rfl ?_
  refine v_iload 1952 dL_law_1950 rfl rfl ?_
  refine v_iconstv (v := 5) 1953 dL_law_1952 (by decide) rfl ?_
  refine v_iadd 1954 dL_law_1953 rfl ?_
  rw [show nI (6 * j) + 5 = nI (6 * j + 5) from nI_add (6 * j) 5]
  refine VV.know (fun ho9 _ _ => ?_)
  refine v_iald 1955 dL_law_1954 (by first | assumption | rfl) (by rw [ho9.2.2.2.2.2.2.2.2.1]; exact in_nI (by omega) (by omega)) rfl ?_
  rw [nI_clamp (by omega), ho9.2.2.2.2.2.2.2.2.2]
  refine v_i2c 1956 dL_law_1955 rfl ?_
  refine v_invv (d' := 9) (k' := 129) (n' := 3137) (k2 := (k + 1019)) (n2 := (n + 10891)) 1959 [_, _, _, _, _] dL_law_1956 mt_L_245 mi_X12_draw me_X12_draw (by first | assumption | rfl) (by rfl) rfl rfl (of_decide_eq_true rfl) rfl (by decide) rfl rfl rfl rfl (C_X12_draw R2' I Fr1 (cr_ _) hpc (fun v2 h2 e2 R2'' c2 ke2 => ?_))
  refine v_istore 1961 dL_law_1959 (by decide) rfl rfl ?_
  dsimp only [List.set]
  refine v_aload_n 1962 dL_law_1961 rfl rfl ?_
  refine v_invv (d' := 0) (k' := 0) (n' := 0) (k2 := (k + 1019)) (n2 := (n + 10891)) 1965 [] dL_law_1962 mt_L_162 mi_X12_thrown me_X12_thrown (by first | assumption | rfl) (by rfl) rfl rfl (of_decide_eq_true rfl) rfl (by decide) rfl rfl rfl rfl (C_X12_thrown ?_)
  rw [c2]
  refine v_iload 1967 dL_law_1965 rfl rfl ?_
  refine v_icmp_eq 1972 1970 dL_law_1967 (by decide) rfl (fun c1967 => ?_) (fun c1967 => ?_)
  · refine v_iload 1974 dL_law_1972 rfl rfl ?_
    refine v_if_ne 1989 1977 dL_law_1974 (by decide) rfl (fun c1974 => ?_) (fun c1974 => ?_)
    · refine v_goto 3031 dL_law_1989 (by decide) ?_
      refine VV.less (Nat.le_refl _) (by omega) (by omega) (K _ _ _ _ _ ⟨R1'.te (fun t ht => ke2.1 t (by omega)), R2'', (iv_draw I hpc), (j2_draw J), ke2.2 Fr1, by rw [(ke2.1 80 (by omega)).2.1]; exact l1, by rw [(ke2.1 81 (by omega)).2.1]; exact m1⟩)
    · have hc := nz_3 b1 c1974
      refine v_aload_n 1978 dL_law_1977 rfl rfl ?_
      refine v_iconstv (v := 0) 1979 dL_law_1978 (by decide) rfl ?_
      refine v_lald 1980 dL_law_1979 (by first | assumption | rfl) (by rw [(ke2.1 80 (by omega)).2.1, l1]; exact in_nI (m := 0) (by decide) (by decide)) rfl ?_
      rw [show Int32.toNatClampNeg 0 = 0 from rfl, (ke2.1 80 (by omega)).2.2.2.2.1, v1 hc, e2 hc]
      refine v_iload 1982 dL_law_1980 rfl rfl ?_
      refine v_i2l 1983 dL_law_1982 rfl ?_
      refine v_lcmp 1984 dL_law_1983 rfl ?_
      rw [cmp_s]
      refine v_if_eq 1989 1987 dL_law_1984 (by decide) rfl (fun c1984 => ?_) (fun c1984 => ?_)
      · refine v_goto 3031 dL_law_1989 (by decide) ?_
        refine VV.less (Nat.le_refl _) (by omega) (by omega) (K _ _ _ _ _ ⟨R1'.te (fun t ht => ke2.1 t (by omega)), R2'', (iv_draw I hpc), (j2_draw J), ke2.2 Fr1, by rw [(ke2.1 80 (by omega)).2.1]; exact l1, by rw [(ke2.1 81 (by omega)).2.1]; exact m1⟩)
      · exact absurd rfl c1984
  · exact absurd rfl c1967
set_option maxRecDepth 20000 in
theorem W_25 {G : GW} {Q : RS → PH → Prop} {S : SP} {N j k n : Nat} {h : PH} {z6 z7 z8 : Option PV} (hL : gw_L G ≤ 3072) (hj : 6 * j + 6 ≤ gw_L G) (L9 : lw_I S N h) (hN : N ≤ 600) (K : ∀ S' h' z6 z7 z8, lw_I S' (N + 1) h' → VV G 13 k n yL_law cL_law 9 (some .boolean) [] 3031 [some (pv_O (7, 0)), some (pv_O (10, 0)), some (pv_O (40, 0)), some (pv_O (80, 0)), some (pv_O (81, 0)), some (pv_I (nI (6 * j))), z6, z7, z8] [] h' Q) : VV G 13 (k + 1150) (n + 14040) yL_law cL_law 9 (some .boolean) [] 1992 [some (pv_O (7, 0)), some (pv_O (10, 0)), some (pv_O (40, 0)), some (pv_O (80, 0)), some (pv_O (81, 0)), some (pv_I (nI (6 * j))), z6, z7, z8] [] h Q := by
  obtain ⟨R1, R2, I, J, Fr, l80, l81⟩ := L9
  refine v_aload_n 1993 dL_law_1992 rfl rfl ?_
  refine v_aload_n 1994 dL_law_1993 rfl rfl ?_
  refine v_iload 1996 dL_law_1994 rfl rfl ?_
  refine v_iconstv (v := 1) 1997 dL_law_1996 (by decide) rfl ?_
  refine v_iadd 1998 dL_law_1997 rfl ?_
  rw [show nI (6 * j) + 1 = nI (6 * j + 1) from nI_add (6 * j) 1]
  refine VV.know (fun ho9 _ _ => ?_)
  refine v_iald 1999 dL_law_1998 (by first | assumption | rfl) (by rw [ho9.2.2.2.2.2.2.2.2.1]; exact in_nI (by omega) (by omega)) rfl ?_
  rw [nI_clamp (by omega), ho9.2.2.2.2.2.2.2.2.2]
  refine v_aload_n 2000 dL_law_1999 rfl rfl ?_
  refine v_iload 2002 dL_law_2000 rfl rfl ?_
  refine v_iconstv (v := 2) 2003 dL_law_2002 (by decide) rfl ?_
  refine v_iadd 2004 dL_law_2003 rfl ?_
  rw [show nI (6 * j) + 2 = nI (6 * j + 2) from nI_add (6 * j) 2]
  refine VV.know (fun ho9 _ _ => ?_)
  refine v_iald 2005 dL_law_2004 (by first | assumption | rfl) (by rw [ho9.2.2.2.2.2.2.2.2.1]; exact in_nI (by omega) (by omega)) rfl ?_
  rw [nI_clamp (by omega), ho9.2.2.2.2.2.2.2.2.2]
  refine v_aload_n 2006 dL_law_2005 rfl rfl ?_
  refine v_iload 2008 dL_law_2006 rfl rfl ?_
  refine v_iconstv (v := 3) 2009 dL_law_2008 (by decide) rfl ?_
  refine v_iadd 2010 dL_law_2009 rfl ?_
  rw [show nI (6 * j) + 3 = nI (6 * j + 3) from nI_add (6 * j) 3]
  refine VV.know (fun ho9 _ _ => ?_)
  refine v_iald 2011 dL_law_2010 (by first | assumption | rfl) (by rw [ho9.2.2.2.2.2.2.2.2.1]; exact in_nI (by omega) (by omega)) rfl ?_
  rw [nI_clamp (by omega), ho9.2.2.2.2.2.2.2.2.2]
  refine v_aload_n 2012 dL_law_2011 rfl rfl ?_
  refine v_invsW (d' := 9) (k' := 2) (n' := 12) (k2 := k + 1148) (n2 := n + 14028) 2015 [_, _, _, _, _] dL_law_2012 lk_L_246 md_L_fieldAt ms_L_fieldAt rfl rfl (of_decide_eq_true rfl) rfl (by decide) rfl rfl rfl rfl (C_L_fieldAt R1 I  l80 (fun h1 R1' te1 l1 b1 v1 => ?_))
  have R2' : Rp2 S h1 := R2.te (fun t ht => te1 t (by omega) (by omega))
  have Fr1 : fr_s h1 := (fun t a b => (Fr t a b).te (te1 t (by omega) (by omega)))
  have m1 : hp_ln h1 81 0 = 1 := by rw [(te1 81 (by omega) (by decide)).2.1]; exact l81
  show VV G 13 (k + 1148) (n + 14028) yL_law cL_law 9 (some .boolean) [] 2015 _ _ h1 Q
  refine v_istore 2017 dL_law_2015 (by decide) rfl rfl ?_
  dsimp only [List.set]
  refine v_aload_n 2018 dL_law_2017 rfl rfl ?_
  refine v_aload_n 2019 dL_law_2018 rfl rfl ?_
  refine v_iload 2021 dL_law_2019 rfl rfl ?_
  refine v_iconstv (v := 1) 2022 dL_law_2021 (by decide) rfl ?_
  refine v_iadd 2023 dL_law_2022 rfl ?_
  rw [show nI (6 * j) + 1 = nI (6 * j + 1) from nI_add (6 * j) 1]
  refine VV.know (fun ho9 _ _ => ?_)
  refine v_iald 2024 dL_law_2023 (by first | assumption | rfl) (by rw [ho9.2.2.2.2.2.2.2.2.1]; exact in_nI (by omega) (by omega)) rfl ?_
  rw [nI_clamp (by omega), ho9.2.2.2.2.2.2.2.2.2]
  refine v_aload_n 2025 dL_law_2024 rfl rfl ?_
  refine v_iload 2027 dL_law_2025 rfl rfl ?_
  refine v_iconstv (v := 2) 2028 dL_law_2027 (by decide) rfl ?_
  refine v_iadd 2029 dL_law_2028 rfl ?_
  rw [show nI (6 * j) + 2 = nI (6 * j + 2) from nI_add (6 * j) 2]
  refine VV.know (fun ho9 _ _ => ?_)
  refine v_iald 2030 dL_law_2029 (by first | assumption | rfl) (by rw [ho9.2.2.2.2.2.2.2.2.1]; exact in_nI (by omega) (by omega)) rfl ?_
  rw [nI_clamp (by omega), ho9.2.2.2.2.2.2.2.2.2]
  refine v_aload_n 2031 dL_law_2030 rfl rfl ?_
  refine v_iload 2033 dL_law_2031 rfl rfl ?_
  refine v_iconstv (v := 3) 2034 dL_law_2033 (by decide) rfl ?_
  refine v_iadd 2035 dL_law_2034 rfl ?_
  rw [show nI (6 * j) + 3 = nI (6 * j + 3) from nI_add (6 * j) 3]
  refine VV.know (fun ho9 _ _ => ?_)
  refine v_iald 2036 dL_law_2035 (by first | assumption | rfl) (by rw [ho9.2.2.2.2.2.2.2.2.1]; exact in_nI (by omega) (by omega)) rfl ?_
  rw [nI_clamp (by omega), ho9.2.2.2.2.2.2.2.2.2]
  refine v_invv (d' := 9) (k' := 0) (n' := 0) (k2 := (k + 1148)) (n2 := (n + 14028)) 2039 [_, _, _] dL_law_2036 mt_L_249 mi_X12_fieldAt me_X12_fieldAt (by first | assumption | rfl) (by rfl) rfl rfl (of_decide_eq_true rfl) rfl (by decide) rfl rfl rfl rfl (C_X12_fieldAt R2' I  (fun v2 h2 e2 R2'' c2 ke2 => ?_))
  refine v_istore 2041 dL_law_2039 (by decide) rfl rfl ?_
  dsimp only [List.set]
  refine v_aload_n 2042 dL_law_2041 rfl rfl ?_
  refine v_invv (d' := 0) (k' := 0) (n' := 0) (k2 := (k + 1148)) (n2 := (n + 14028)) 2045 [] dL_law_2042 mt_L_162 mi_X12_thrown me_X12_thrown (by first | assumption | rfl) (by rfl) rfl rfl (of_decide_eq_true rfl) rfl (by decide) rfl rfl rfl rfl (C_X12_thrown ?_)
  rw [c2]
  refine v_iload 2047 dL_law_2045 rfl rfl ?_
  refine v_icmp_eq 2052 2050 dL_law_2047 (by decide) rfl (fun c2047 => ?_) (fun c2047 => ?_)
  · refine v_iload 2054 dL_law_2052 rfl rfl ?_
    refine v_if_ne 2069 2057 dL_law_2054 (by decide) rfl (fun c2054 => ?_) (fun c2054 => ?_)
    · refine v_goto 3031 dL_law_2069 (by decide) ?_
      refine VV.less (Nat.le_refl _) (by omega) (by omega) (K _ _ _ _ _ ⟨R1'.te (fun t ht => ke2.1 t (by omega)), R2'', (I.m (Nat.le_succ N)), J, ke2.2 Fr1, by rw [(ke2.1 80 (by omega)).2.1]; exact l1, by rw [(ke2.1 81 (by omega)).2.1]; exact m1⟩)
    · have hc := nz_3 b1 c2054
      refine v_aload_n 2058 dL_law_2057 rfl rfl ?_
      refine v_iconstv (v := 0) 2059 dL_law_2058 (by decide) rfl ?_
      refine v_lald 2060 dL_law_2059 (by first | assumption | rfl) (by rw [(ke2.1 80 (by omega)).2.1, l1]; exact in_nI (m := 0) (by decide) (by decide)) rfl ?_
      rw [show Int32.toNatClampNeg 0 = 0 from rfl, (ke2.1 80 (by omega)).2.2.2.2.1, v1 hc, e2 hc]
      refine v_iload 2062 dL_law_2060 rfl rfl ?_
      refine v_i2l 2063 dL_law_2062 rfl ?_
      refine v_lcmp 2064 dL_law_2063 rfl ?_
      rw [cmp_s]
      refine v_if_eq 2069 2067 dL_law_2064 (by decide) rfl (fun c2064 => ?_) (fun c2064 => ?_)
      · refine v_goto 3031 dL_law_2069 (by decide) ?_
        refine VV.less (Nat.le_refl _) (by omega) (by omega) (K _ _ _ _ _ ⟨R1'.te (fun t ht => ke2.1 t (by omega)), R2'', (I.m (Nat.le_succ N)), J, ke2.2 Fr1, by rw [(ke2.1 80 (by omega)).2.1]; exact l1, by rw [(ke2.1 81 (by omega)).2.1]; exact m1⟩)
      · exact absurd rfl c2064
  · exact absurd rfl c2047
set_option maxRecDepth 20000 in
theorem W_26 {G : GW} {Q : RS → PH → Prop} {S : SP} {N j k n : Nat} {h : PH} {z6 z7 z8 : Option PV} (hL : gw_L G ≤ 3072) (hj : 6 * j + 6 ≤ gw_L G) (L9 : lw_I S N h) (hN : N ≤ 600) (K : ∀ S' h' z6 z7 z8, lw_I S' (N + 1) h' → VV G 13 k n yL_law cL_law 9 (some .boolean) [] 3031 [some (pv_O (7, 0)), some (pv_O (10, 0)), some (pv_O (40, 0)), some (pv_O (80, 0)), some (pv_O (81, 0)), some (pv_I (nI (6 * j))), z6, z7, z8] [] h' Q) : VV G 13 (k + 1150) (n + 14040) yL_law cL_law 9 (some .boolean) [] 2072 [some (pv_O (7, 0)), some (pv_O (10, 0)), some (pv_O (40, 0)), some (pv_O (80, 0)), some (pv_O (81, 0)), some (pv_I (nI (6 * j))), z6, z7, z8] [] h Q := by
  obtain ⟨R1, R2, I, J, Fr, l80, l81⟩ := L9
  refine v_aload_n 2073 dL_law_2072 rfl rfl ?_
  refine v_aload_n 2074 dL_law_2073 rfl rfl ?_
  refine v_iload 2076 dL_law_2074 rfl rfl ?_
  refine v_iconstv (v := 1) 2077 dL_law_2076 (by decide) rfl ?_
  refine v_iadd 2078 dL_law_2077 rfl ?_
  rw [show nI (6 * j) + 1 = nI (6 * j + 1) from nI_add (6 * j) 1]
  refine VV.know (fun ho9 _ _ => ?_)
  refine v_iald 2079 dL_law_2078 (by first | assumption | rfl) (by rw [ho9.2.2.2.2.2.2.2.2.1]; exact in_nI (by omega) (by omega)) rfl ?_
  rw [nI_clamp (by omega), ho9.2.2.2.2.2.2.2.2.2]
  refine v_aload_n 2080 dL_law_2079 rfl rfl ?_
  refine v_invsW (d' := 8) (k' := 1) (n' := 6) (k2 := k + 1149) (n2 := n + 14034) 2083 [_, _, _] dL_law_2080 lk_L_250 md_L_pieces ms_L_pieces rfl rfl (of_decide_eq_true rfl) rfl (by decide) rfl rfl rfl rfl (C_L_pieces R1 I  l80 (fun h1 R1' te1 l1 b1 v1 => ?_))
  have R2' : Rp2 S h1 := R2.te (fun t ht => te1 t (by omega) (by omega))
  have Fr1 : fr_s h1 := (fun t a b => (Fr t a b).te (te1 t (by omega) (by omega)))
  have m1 : hp_ln h1 81 0 = 1 := by rw [(te1 81 (by omega) (by decide)).2.1]; exact l81
  show VV G 13 (k + 1149) (n + 14034) yL_law cL_law 9 (some .boolean) [] 2083 _ _ h1 Q
  refine v_istore 2085 dL_law_2083 (by decide) rfl rfl ?_
  dsimp only [List.set]
  refine v_aload_n 2086 dL_law_2085 rfl rfl ?_
  refine v_aload_n 2087 dL_law_2086 rfl rfl ?_
  refine v_iload 2089 dL_law_2087 rfl rfl ?_
  refine v_iconstv (v := 1) 2090 dL_law_2089 (by decide) rfl ?_
  refine v_iadd 2091 dL_law_2090 rfl ?_
  rw [show nI (6 * j) + 1 = nI (6 * j + 1) from nI_add (6 * j) 1]
  refine VV.know (fun ho9 _ _ => ?_)
  refine v_iald 2092 dL_law_2091 (by first | assumption | rfl) (by rw [ho9.2.2.2.2.2.2.2.2.1]; exact in_nI (by omega) (by omega)) rfl ?_
  rw [nI_clamp (by omega), ho9.2.2.2.2.2.2.2.2.2]
  refine v_invv (d' := 9) (k' := 129) (n' := 3137) (k2 := (k + 1020)) (n2 := (n + 10897)) 2095 [_] dL_law_2092 mt_L_252 mi_X12_pieces me_X12_pieces (by first | assumption | rfl) (by rfl) rfl rfl (of_decide_eq_true rfl) rfl (by decide) rfl rfl rfl rfl (C_X12_pieces R2' I Fr1 (fun v2 h2 e2 R2'' c2 ke2 => ?_))
  refine v_istore 2097 dL_law_2095 (by decide) rfl rfl ?_
  dsimp only [List.set]
  refine v_aload_n 2098 dL_law_2097 rfl rfl ?_
  refine v_invv (d' := 0) (k' := 0) (n' := 0) (k2 := (k + 1020)) (n2 := (n + 10897)) 2101 [] dL_law_2098 mt_L_162 mi_X12_thrown me_X12_thrown (by first | assumption | rfl) (by rfl) rfl rfl (of_decide_eq_true rfl) rfl (by decide) rfl rfl rfl rfl (C_X12_thrown ?_)
  rw [c2]
  refine v_iload 2103 dL_law_2101 rfl rfl ?_
  refine v_icmp_eq 2108 2106 dL_law_2103 (by decide) rfl (fun c2103 => ?_) (fun c2103 => ?_)
  · refine v_iload 2110 dL_law_2108 rfl rfl ?_
    refine v_if_ne 2125 2113 dL_law_2110 (by decide) rfl (fun c2110 => ?_) (fun c2110 => ?_)
    · refine v_goto 3031 dL_law_2125 (by decide) ?_
      refine VV.less (Nat.le_refl _) (by omega) (by omega) (K _ _ _ _ _ ⟨R1'.te (fun t ht => ke2.1 t (by omega)), R2'', (I.m (Nat.le_succ N)), J, ke2.2 Fr1, by rw [(ke2.1 80 (by omega)).2.1]; exact l1, by rw [(ke2.1 81 (by omega)).2.1]; exact m1⟩)
    · have hc := nz_3 b1 c2110
      refine v_aload_n 2114 dL_law_2113 rfl rfl ?_
      refine v_iconstv (v := 0) 2115 dL_law_2114 (by decide) rfl ?_
      refine v_lald 2116 dL_law_2115 (by first | assumption | rfl) (by rw [(ke2.1 80 (by omega)).2.1, l1]; exact in_nI (m := 0) (by decide) (by decide)) rfl ?_
      rw [show Int32.toNatClampNeg 0 = 0 from rfl, (ke2.1 80 (by omega)).2.2.2.2.1, v1 hc, e2 hc]
      refine v_iload 2118 dL_law_2116 rfl rfl ?_
      refine v_i2l 2119 dL_law_2118 rfl ?_
      refine v_lcmp 2120 dL_law_2119 rfl ?_
      rw [cmp_s]
      refine v_if_eq 2125 2123 dL_law_2120 (by decide) rfl (fun c2120 => ?_) (fun c2120 => ?_)
      · refine v_goto 3031 dL_law_2125 (by decide) ?_
        refine VV.less (Nat.le_refl _) (by omega) (by omega) (K _ _ _ _ _ ⟨R1'.te (fun t ht => ke2.1 t (by omega)), R2'', (I.m (Nat.le_succ N)), J, ke2.2 Fr1, by rw [(ke2.1 80 (by omega)).2.1]; exact l1, by rw [(ke2.1 81 (by omega)).2.1]; exact m1⟩)
      · exact absurd rfl c2120
  · exact absurd rfl c2103
set_option maxRecDepth 20000 in
theorem W_27 {G : GW} {Q : RS → PH → Prop} {S : SP} {N j k n : Nat} {h : PH} {z6 z7 z8 : Option PV} (hL : gw_L G ≤ 3072) (hj : 6 * j + 6 ≤ gw_L G) (L9 : lw_I S N h) (hN : N ≤ 600) (K : ∀ S' h' z6 z7 z8, lw_I S' (N + 1) h' → VV G 13 k n yL_law cL_law 9 (some .boolean) [] 3031 [some (pv_O (7, 0)), some (pv_O (10, 0)), some (pv_O (40, 0)), some (pv_O (80, 0)), some (pv_O (81, 0)), some (pv_I (nI (6 * j))), z6, z7, z8] [] h' Q) : VV G 13 (k + 1150) (n + 14040) yL_law cL_law 9 (some .boolean) [] 2128 [some (pv_O (7, 0)), some (pv_O (10, 0)), some (pv_O (40, 0)), some (pv_O (80, 0)), some (pv_O (81, 0)), some (pv_I (nI (6 * j))), z6, z7, z8] [] h Q := by
  obtain ⟨R1, R2, I, J, Fr, l80, l81⟩ := L9
  refine v_aload_n 2129 dL_law_2128 rfl rfl ?_
  refine v_aload_n 2130 dL_law_2129 rfl rfl ?_
  refine v_iload 2132 dL_law_2130 rfl rfl ?_
  refine v_iconstv (v := 1) 2133 dL_law_2132 (by decide) rfl ?_
  refine v_iadd 2134 dL_law_2133 rfl ?_
  rw [show nI (6 * j) + 1 = nI (6 * j + 1) from nI_add (6 * j) 1]
  refine VV.know (fun ho9 _ _ => ?_)
  refine v_iald 2135 dL_law_2134 (by first | assumption | rfl) (by rw [ho9.2.2.2.2.2.2.2.2.1]; exact in_nI (by omega) (by omega)) rfl ?_
  rw [nI_clamp (by omega), ho9.2.2.2.2.2.2.2.2.2]
  refine v_aload_n 2136 dL_law_2135 rfl rfl ?_
  refine v_invsW (d' := 8) (k' := 1) (n' := 6) (k2 := k + 1149) (n2 := n + 14034) 2139 [_, _, _] dL_law_2136 lk_L_253 md_L_islands ms_L_islands rfl rfl (of_decide_eq_true rfl) rfl (by decide) rfl rfl rfl rfl (C_L_islands R1 I  l80 (fun h1 R1' te1 l1 b1 v1 => ?_))
  have R2' : Rp2 S h1 := R2.te (fun t ht => te1 t (by omega) (by omega))
  have Fr1 : fr_s h1 := (fun t a b => (Fr t a b).te (te1 t (by omega) (by omega)))
  have m1 : hp_ln h1 81 0 = 1 := by rw [(te1 81 (by omega) (by decide)).2.1]; exact l81
  show VV G 13 (k + 1149) (n + 14034) yL_law cL_law 9 (some .boolean) [] 2139 _ _ h1 Q
  refine v_istore 2141 dL_law_2139 (by decide) rfl rfl ?_
  dsimp only [List.set]
  refine v_aload_n 2142 dL_law_2141 rfl rfl ?_
  refine v_aload_n 2143 dL_law_2142 rfl rfl ?_
  refine v_iload 2145 dL_law_2143 rfl rfl ?_
  refine v_iconstv (v := 1) 2146 dL_law_2145 (by decide) rfl ?_
  refine v_iadd 2147 dL_law_2146 rfl ?_
  rw [show nI (6 * j) + 1 = nI (6 * j + 1) from nI_add (6 * j) 1]
  refine VV.know (fun ho9 _ _ => ?_)
  refine v_iald 2148 dL_law_2147 (by first | assumption | rfl) (by rw [ho9.2.2.2.2.2.2.2.2.1]; exact in_nI (by omega) (by omega)) rfl ?_
  rw [nI_clamp (by omega), ho9.2.2.2.2.2.2.2.2.2]
  refine v_invv (d' := 9) (k' := 129) (n' := 3137) (k2 := (k + 1020)) (n2 := (n + 10897)) 2151 [_] dL_law_2148 mt_L_255 mi_X12_islands me_X12_islands (by first | assumption | rfl) (by rfl) rfl rfl (of_decide_eq_true rfl) rfl (by decide) rfl rfl rfl rfl (C_X12_islands R2' I Fr1 (fun v2 h2 e2 R2'' c2 ke2 => ?_))
  refine v_istore 2153 dL_law_2151 (by decide) rfl rfl ?_
  dsimp only [List.set]
  refine v_aload_n 2154 dL_law_2153 rfl rfl ?_
  refine v_invv (d' := 0) (k' := 0) (n' := 0) (k2 := (k + 1020)) (n2 := (n + 10897)) 2157 [] dL_law_2154 mt_L_162 mi_X12_thrown me_X12_thrown (by first | assumption | rfl) (by rfl) rfl rfl (of_decide_eq_true rfl) rfl (by decide) rfl rfl rfl rfl (C_X12_thrown ?_)
  rw [c2]
  refine v_iload 2159 dL_law_2157 rfl rfl ?_
  refine v_icmp_eq 2164 2162 dL_law_2159 (by decide) rfl (fun c2159 => ?_) (fun c2159 => ?_)
  · refine v_iload 2166 dL_law_2164 rfl rfl ?_
    refine v_if_ne 2181 2169 dL_law_2166 (by decide) rfl (fun c2166 => ?_) (fun c2166 => ?_)
    · refine v_goto 3031 dL_law_2181 (by decide) ?_
      refine VV.less (Nat.le_refl _) (by omega) (by omega) (K _ _ _ _ _ ⟨R1'.te (fun t ht => ke2.1 t (by omega)), R2'', (I.m (Nat.le_succ N)), J, ke2.2 Fr1, by rw [(ke2.1 80 (by omega)).2.1]; exact l1, by rw [(ke2.1 81 (by omega)).2.1]; exact m1⟩)
    · have hc := nz_3 b1 c2166
      refine v_aload_n 2170 dL_law_2169 rfl rfl ?_
      refine v_iconstv (v := 0) 2171 dL_law_2170 (by decide) rfl ?_
      refine v_lald 2172 dL_law_2171 (by first | assumption | rfl) (by rw [(ke2.1 80 (by omega)).2.1, l1]; exact in_nI (m := 0) (by decide) (by decide)) rfl ?_
      rw [show Int32.toNatClampNeg 0 = 0 from rfl, (ke2.1 80 (by omega)).2.2.2.2.1, v1 hc, e2 hc]
      refine v_iload 2174 dL_law_2172 rfl rfl ?_
      refine v_i2l 2175 dL_law_2174 rfl ?_
      refine v_lcmp 2176 dL_law_2175 rfl ?_
      rw [cmp_s]
      refine v_if_eq 2181 2179 dL_law_2176 (by decide) rfl (fun c2176 => ?_) (fun c2176 => ?_)
      · refine v_goto 3031 dL_law_2181 (by decide) ?_
        refine VV.less (Nat.le_refl _) (by omega) (by omega) (K _ _ _ _ _ ⟨R1'.te (fun t ht => ke2.1 t (by omega)), R2'', (I.m (Nat.le_succ N)), J, ke2.2 Fr1, by rw [(ke2.1 80 (by omega)).2.1]; exact l1, by rw [(ke2.1 81 (by omega)).2.1]; exact m1⟩)
      · exact absurd rfl c2176
  · exact absurd rfl c2159
set_option maxRecDepth 20000 in
theorem W_28 {G : GW} {Q : RS → PH → Prop} {S : SP} {N j k n : Nat} {h : PH} {z6 z7 z8 : Option PV} (hL : gw_L G ≤ 3072) (hj : 6 * j + 6 ≤ gw_L G) (L9 : lw_I S N h) (hN : N ≤ 600) (K : ∀ S' h' z6 z7 z8, lw_I S' (N + 1) h' → VV G 13 k n yL_law cL_law 9 (some .boolean) [] 3031 [some (pv_O (7, 0)), some (pv_O (10, 0)), some (pv_O (40, 0)), some (pv_O (80, 0)), some (pv_O (81, 0)), some (pv_I (nI (6 * j))), z6, z7, z8] [] h' Q) : VV G 13 (k + 1150) (n + 14040) yL_law cL_law 9 (some .boolean) [] 2184 [some (pv_O (7, 0)), some (pv_O (10, 0)), some (pv_O (40, 0)), some (pv_O (80, 0)), some (pv_O (81, 0)), some (pv_I (nI (6 * j))), z6, z7, z8] [] h Q := by
  obtain ⟨R1, R2, I, J, Fr, l80, l81⟩ := L9
  refine v_aload_n 2185 dL_law_2184 rfl rfl ?_
  refine v_aload_n 2186 dL_law_2185 rfl rfl ?_
  refine v_iload 2188 dL_law_2186 rfl rfl ?_
  refine v_iconstv (v := 1) 2189 dL_law_2188 (by decide) rfl ?_
  refine v_iadd 2190 dL_law_2189 rfl ?_
  rw [show nI (6 * j) + 1 = nI (6 * j + 1) from nI_add (6 * j) 1]
  refine VV.know (fun ho9 _ _ => ?_)
  refine v_iald 2191 dL_law_2190 (by first | assumption | rfl) (by rw [ho9.2.2.2.2.2.2.2.2.1]; exact in_nI (by omega) (by omega)) rfl ?_
  rw [nI_clamp (by omega), ho9.2.2.2.2.2.2.2.2.2]
  refine v_aload_n 2192 dL_law_2191 rfl rfl ?_
  refine v_iload 2194 dL_law_2192 rfl rfl ?_
  refine v_iconstv (v := 2) 2195 dL_law_2194 (by decide) rfl ?_
  refine v_iadd 2196 dL_law_2195 rfl ?_
  rw [show nI (6 * j) + 2 = nI (6 * j + 2) from nI_add (6 * j) 2]
  refine VV.know (fun ho9 _ _ => ?_)
  refine v_iald 2197 dL_law_2196 (by first | assumption | rfl) (by rw [ho9.2.2.2.2.2.2.2.2.1]; exact in_nI (by omega) (by omega)) rfl ?_
  rw [nI_clamp (by omega), ho9.2.2.2.2.2.2.2.2.2]
  refine v_aload_n 2198 dL_law_2197 rfl rfl ?_
  refine v_iload 2200 dL_law_2198 rfl rfl ?_
  refine v_iconstv (v := 3) 2201 dL_law_2200 (by decide) rfl ?_
  refine v_iadd 2202 dL_law_2201 rfl ?_
  rw [show nI (6 * j) + 3 = nI (6 * j + 3) from nI_add (6 * j) 3]
  refine VV.know (fun ho9 _ _ => ?_)
  refine v_iald 2203 dL_law_2202 (by first | assumption | rfl) (by rw [ho9.2.2.2.2.2.2.2.2.1]; exact in_nI (by omega) (by omega)) rfl ?_
  rw [nI_clamp (by omega), ho9.2.2.2.2.2.2.2.2.2]
  refine v_aload_n 2204 dL_law_2203 rfl rfl ?_
  refine v_iload 2206 dL_law_2204 rfl rfl ?_
  refine v_iconstv (v := 4) 2207 dL_law_2206 (by decide) rfl ?_
  refine v_iadd 2208 dL_law_2207 rfl ?_
  rw [show nI (6 * j) + 4 = nI (6 * j + 4) from nI_add (6 * j) 4]
  refine VV.know (fun ho9 _ _ => ?_)
  refine v_iald 2209 dL_law_2208 (by first | assumption | rfl) (by rw [ho9.2.2.2.2.2.2.2.2.1]; exact in_nI (by omega) (by omega)) rfl ?_
  rw [nI_clamp (by omega), ho9.2.2.2.2.2.2.2.2.2]
  refine v_aload_n 2210 dL_law_2209 rfl rfl ?_
  refine v_invsW (d' := 10) (k' := 6) (n' := 40) (k2 := k + 1144) (n2 := n + 14000) 2213 [_, _, _, _, _, _] dL_law_2210 lk_L_256 md_L_saw ms_L_saw rfl rfl (of_decide_eq_true rfl) rfl (by decide) rfl rfl rfl rfl (C_L_saw R1 I  l80 (fun h1 R1' te1 l1 b1 v1 => ?_))
  have R2' : Rp2 S h1 := R2.te (fun t ht => te1 t (by omega) (by omega))
  have Fr1 : fr_s h1 := (fun t a b => (Fr t a b).te (te1 t (by omega) (by omega)))
  have m1 : hp_ln h1 81 0 = 1 := by rw [(te1 81 (by omega) (by decide)).2.1]; exact l81
  show VV G 13 (k + 1144) (n + 14000) yL_law cL_law 9 (some .boolean) [] 2213 _ _ h1 Q
  refine v_istore 2215 dL_law_2213 (by decide) rfl rfl ?_
  dsimp only [List.set]
  refine v_aload_n 2216 dL_law_2215 rfl rfl ?_
  refine v_aload_n 2217 dL_law_2216 rfl rfl ?_
  refine v_iload 2219 dL_law_2217 rfl rfl ?_
  refine v_iconstv (v := 1) 2220 dL_law_2219 (by decide) rfl ?_
  refine v_iadd 2221 dL_law_2220 rfl ?_
  rw [show nI (6 * j) + 1 = nI (6 * j + 1) from nI_add (6 * j) 1]
  refine VV.know (fun ho9 _ _ => ?_)
  refine v_iald 2222 dL_law_2221 (by first | assumption | rfl) (by rw [ho9.2.2.2.2.2.2.2.2.1]; exact in_nI (by omega) (by omega)) rfl ?_
  rw [nI_clamp (by omega), ho9.2.2.2.2.2.2.2.2.2]
  refine v_aload_n 2223 dL_law_2222 rfl rfl ?_
  refine v_iload 2225 dL_law_2223 rfl rfl ?_
  refine v_iconstv (v := 2) 2226 dL_law_2225 (by decide) rfl ?_
  refine v_iadd 2227 dL_law_2226 rfl ?_
  rw [show nI (6 * j) + 2 = nI (6 * j + 2) from nI_add (6 * j) 2]
  refine VV.know (fun ho9 _ _ => ?_)
  refine v_iald 2228 dL_law_2227 (by first | assumption | rfl) (by rw [ho9.2.2.2.2.2.2.2.2.1]; exact in_nI (by omega) (by omega)) rfl ?_
  rw [nI_clamp (by omega), ho9.2.2.2.2.2.2.2.2.2]
  refine v_aload_n 2229 dL_law_2228 rfl rfl ?_
  refine v_iload 2231 dL_law_2229 rfl rfl ?_
  refine v_iconstv (v := 3) 2232 dL_law_2231 (by decide) rfl ?_
  refine v_iadd 2233 dL_law_2232 rfl ?_
  rw [show nI (6 * j) + 3 = nI (6 * j + 3) from nI_add (6 * j) 3]
  refine VV.know (fun ho9 _ _ => ?_)
  refine v_iald 2234 dL_law_2233 (by first | assumption | rfl) (by rw [ho9.2.2.2.2.2.2.2.2.1]; exact in_nI (by omega) (by omega)) rfl ?_
  rw [nI_clamp (by omega), ho9.2.2.2.2.2.2.2.2.2]
  refine v_aload_n 2235 dL_law_2234 rfl rfl ?_
  refine v_iload 2237 dL_law_2235 rfl rfl ?_
  refine v_iconstv (v := 4) 2238 dL_law_2237 (by decide) rfl ?_
  refine v_iadd 2239 dL_law_2238 rfl ?_
  rw [show nI (6 * j) + 4 = nI (6 * j + 4) from nI_add (6 * j) 4]
  refine VV.know (fun ho9 _ _ => ?_)
  refine v_iald 2240 dL_law_2239 (by first | assumption | rfl) (by rw [ho9.2.2.2.2.2.2.2.2.1]; exact in_nI (by omega) (by omega)) rfl ?_
  rw [nI_clamp (by omega), ho9.2.2.2.2.2.2.2.2.2]
  refine v_invv (d' := 9) (k' := 12) (n' := 40) (k2 := (k + 1132)) (n2 := (n + 13960)) 2243 [_, _, _, _] dL_law_2240 mt_L_258 mi_X12_saw me_X12_saw (by first | assumption | rfl) (by rfl) rfl rfl (of_decide_eq_true rfl) rfl (by decide) rfl rfl rfl rfl (C_X12_saw R2' I  (fun v2 h2 e2 R2'' c2 ke2 => ?_))
  refine v_istore 2245 dL_law_2243 (by decide) rfl rfl ?_
  dsimp only [List.set]
  refine v_aload_n 2246 dL_law_2245 rfl rfl ?_
  refine v_invv (d' := 0) (k' := 0) (n' := 0) (k2 := (k + 1132)) (n2 := (n + 13960)) 2249 [] dL_law_2246 mt_L_162 mi_X12_thrown me_X12_thrown (by first | assumption | rfl) (by rfl) rfl rfl (of_decide_eq_true rfl) rfl (by decide) rfl rfl rfl rfl (C_X12_thrown ?_)
  rw [c2]
  refine v_iload 2251 dL_law_2249 rfl rfl ?_
  refine v_icmp_eq 2256 2254 dL_law_2251 (by decide) rfl (fun c2251 => ?_) (fun c2251 => ?_)
  · refine v_iload 2258 dL_law_2256 rfl rfl ?_
    refine v_if_ne 2273 2261 dL_law_2258 (by decide) rfl (fun c2258 => ?_) (fun c2258 => ?_)
    · refine v_goto 3031 dL_law_2273 (by decide) ?_
      refine VV.less (Nat.le_refl _) (by omega) (by omega) (K _ _ _ _ _ ⟨R1'.te (fun t ht => ke2.1 t (by omega)), R2'', (iv_saw I J).1, (iv_saw I J).2, ke2.2 Fr1, by rw [(ke2.1 80 (by omega)).2.1]; exact l1, by rw [(ke2.1 81 (by omega)).2.1]; exact m1⟩)
    · have hc := nz_3 b1 c2258
      refine v_aload_n 2262 dL_law_2261 rfl rfl ?_
      refine v_iconstv (v := 0) 2263 dL_law_2262 (by decide) rfl ?_
      refine v_lald 2264 dL_law_2263 (by first | assumption | rfl) (by rw [(ke2.1 80 (by omega)).2.1, l1]; exact in_nI (m := 0) (by decide) (by decide)) rfl ?_
      rw [show Int32.toNatClampNeg 0 = 0 from rfl, (ke2.1 80 (by omega)).2.2.2.2.1, v1 hc, e2 hc]
      refine v_iload 2266 dL_law_2264 rfl rfl ?_
      refine v_i2l 2267 dL_law_2266 rfl ?_
      refine v_lcmp 2268 dL_law_2267 rfl ?_
      rw [cmp_s]
      refine v_if_eq 2273 2271 dL_law_2268 (by decide) rfl (fun c2268 => ?_) (fun c2268 => ?_)
      · refine v_goto 3031 dL_law_2273 (by decide) ?_
        refine VV.less (Nat.le_refl _) (by omega) (by omega) (K _ _ _ _ _ ⟨R1'.te (fun t ht => ke2.1 t (by omega)), R2'', (iv_saw I J).1, (iv_saw I J).2, ke2.2 Fr1, by rw [(ke2.1 80 (by omega)).2.1]; exact l1, by rw [(ke2.1 81 (by omega)).2.1]; exact m1⟩)
      · exact absurd rfl c2268
  · exact absurd rfl c2251
set_option maxRecDepth 20000 in
theorem W_29 {G : GW} {Q : RS → PH → Prop} {S : SP} {N j k n : Nat} {h : PH} {z6 z7 z8 : Option PV} (hL : gw_L G ≤ 3072) (hj : 6 * j + 6 ≤ gw_L G) (L9 : lw_I S N h) (hN : N ≤ 600) (K : ∀ S' h' z6 z7 z8, lw_I S' (N + 1) h' → VV G 13 k n yL_law cL_law 9 (some .boolean) [] 3031 [some (pv_O (7, 0)), some (pv_O (10, 0)), some (pv_O (40, 0)), some (pv_O (80, 0)), some (pv_O (81, 0)), some (pv_I (nI (6 * j))), z6, z7, z8] [] h' Q) : VV G 13 (k + 1150) (n + 14040) yL_law cL_law 9 (some .boolean) [] 2276 [some (pv_O (7, 0)), some (pv_O (10, 0)), some (pv_O (40, 0)), some (pv_O (80, 0)), some (pv_O (81, 0)), some (pv_I (nI (6 * j))), z6, z7, z8] [] h Q := by
  obtain ⟨R1, R2, I, J, Fr, l80, l81⟩ := L9
  refine v_aload_n 2277 dL_law_2276 rfl rfl ?_
  refine v_aload_n 2278 dL_law_2277 rfl rfl ?_
  refine v_iload 2280 dL_law_2278 rfl rfl ?_
  refine v_iconstv (v := 1) 2281 dL_law_2280 (by decide) rfl ?_
  refine v_iadd 2282 dL_law_2281 rfl ?_
  rw [show nI (6 * j) + 1 = nI (6 * j + 1) from nI_add (6 * j) 1]
  refine VV.know (fun ho9 _ _ => ?_)
  refine v_iald 2283 dL_law_2282 (by first | assumption | rfl) (by rw [ho9.2.2.2.2.2.2.2.2.1]; exact in_nI (by omega) (by omega)) rfl ?_
  rw [nI_clamp (by omega), ho9.2.2.2.2.2.2.2.2.2]
  refine v_aload_n 2284 dL_law_2283 rfl rfl ?_
  refine v_iload 2286 dL_law_2284 rfl rfl ?_
  refine v_iconstv (v := 2) 2287 dL_law_2286 (by decide) rfl ?_
  refine v_iadd 2288 dL_law_2287 rfl ?_
  rw [show nI (6 * j) + 2 = nI (6 * j + 2) from nI_add (6 * j) 2]
  refine VV.know (fun ho9 _ _ => ?_)
  refine v_iald 2289 dL_law_2288 (by first | assumption | rfl) (by rw [ho9.2.2.2.2.2.2.2.2.1]; exact in_nI (by omega) (by omega)) rfl ?_
  rw [nI_clamp (by omega), ho9.2.2.2.2.2.2.2.2.2]
  refine v_aload_n 2290 dL_law_2289 rfl rfl ?_
  refine v_iload 2292 dL_law_2290 rfl rfl ?_
  refine v_iconstv (v := 3) 2293 dL_law_2292 (by decide) rfl ?_
  refine v_iadd 2294 dL_law_2293 rfl ?_
  rw [show nI (6 * j) + 3 = nI (6 * j + 3) from nI_add (6 * j) 3]
  refine VV.know (fun ho9 _ _ => ?_)
  refine v_iald 2295 dL_law_2294 (by first | assumption | rfl) (by rw [ho9.2.2.2.2.2.2.2.2.1]; exact in_nI (by omega) (by omega)) rfl ?_
  rw [nI_clamp (by omega), ho9.2.2.2.2.2.2.2.2.2]
  refine v_aload_n 2296 dL_law_2295 rfl rfl ?_
  refine v_iload 2298 dL_law_2296 rfl rfl ?_
  refine v_iconstv (v := 4) 2299 dL_law_2298 (by decide) rfl ?_
  refine v_iadd 2300 dL_law_2299 rfl ?_
  rw [show nI (6 * j) + 4 = nI (6 * j + 4) from nI_add (6 * j) 4]
  refine VV.know (fun ho9 _ _ => ?_)
  refine v_iald 2301 dL_law_2300 (by first | assumption | rfl) (by rw [ho9.2.2.2.2.2.2.2.2.1]; exact in_nI (by omega) (by omega)) rfl ?_
  rw [nI_clamp (by omega), ho9.2.2.2.2.2.2.2.2.2]
  refine v_aload_n 2302 dL_law_2301 rfl rfl ?_
  refine v_invsW (d' := 9) (k' := 3) (n' := 18) (k2 := k + 1147) (n2 := n + 14022) 2305 [_, _, _, _, _, _] dL_law_2302 lk_L_259 md_L_leafAt ms_L_leafAt rfl rfl (of_decide_eq_true rfl) rfl (by decide) rfl rfl rfl rfl (C_L_leafAt R1 I  l80 (fun h1 R1' te1 l1 b1 v1 => ?_))
  have R2' : Rp2 S h1 := R2.te (fun t ht => te1 t (by omega) (by omega))
  have Fr1 : fr_s h1 := (fun t a b => (Fr t a b).te (te1 t (by omega) (by omega)))
  have m1 : hp_ln h1 81 0 = 1 := by rw [(te1 81 (by omega) (by decide)).2.1]; exact l81
  show VV G 13 (k + 1147) (n + 14022) yL_law cL_law 9 (some .boolean) [] 2305 _ _ h1 Q
  refine v_istore 2307 dL_law_2305 (by decide) rfl rfl ?_
  dsimp only [List.set]
  refine v_aload_n 2308 dL_law_2307 rfl rfl ?_
  refine v_aload_n 2309 dL_law_2308 rfl rfl ?_
  refine v_iload 2311 dL_law_2309 rfl rfl ?_
  refine v_iconstv (v := 1) 2312 dL_law_2311 (by decide) rfl ?_
  refine v_iadd 2313 dL_law_2312 rfl ?_
  rw [show nI (6 * j) + 1 = nI (6 * j + 1) from nI_add (6 * j) 1]
  refine VV.know (fun ho9 _ _ => ?_)
  refine v_iald 2314 dL_law_2313 (by first | assumption | rfl) (by rw [ho9.2.2.2.2.2.2.2.2.1]; exact in_nI (by omega) (by omega)) rfl ?_
  rw [nI_clamp (by omega), ho9.2.2.2.2.2.2.2.2.2]
  refine v_aload_n 2315 dL_law_2314 rfl rfl ?_
  refine v_iload 2317 dL_law_2315 rfl rfl ?_
  refine v_iconstv (v := 2) 2318 dL_law_2317 (by decide) rfl ?_
  refine v_iadd 2319 dL_law_2318 rfl ?_
  rw [show nI (6 * j) + 2 = nI (6 * j + 2) from nI_add (6 * j) 2]
  refine VV.know (fun ho9 _ _ => ?_)
  refine v_iald 2320 dL_law_2319 (by first | assumption | rfl) (by rw [ho9.2.2.2.2.2.2.2.2.1]; exact in_nI (by omega) (by omega)) rfl ?_
  rw [nI_clamp (by omega), ho9.2.2.2.2.2.2.2.2.2]
  refine v_aload_n 2321 dL_law_2320 rfl rfl ?_
  refine v_iload 2323 dL_law_2321 rfl rfl ?_
  refine v_iconstv (v := 3) 2324 dL_law_2323 (by decide) rfl ?_
  refine v_iadd 2325 dL_law_2324 rfl ?_
  rw [show nI (6 * j) + 3 = nI (6 * j + 3) from nI_add (6 * j) 3]
  refine VV.know (fun ho9 _ _ => ?_)
  refine v_iald 2326 dL_law_2325 (by first | assumption | rfl) (by rw [ho9.2.2.2.2.2.2.2.2.1]; exact in_nI (by omega) (by omega)) rfl ?_
  rw [nI_clamp (by omega), ho9.2.2.2.2.2.2.2.2.2]
  refine v_aload_n 2327 dL_law_2326 rfl rfl ?_
  refine v_iload 2329 dL_law_2327 rfl rfl ?_
  refine v_iconstv (v := 4) 2330 dL_law_2329 (by decide) rfl ?_
  refine v_iadd 2331 dL_law_2330 rfl ?_
  rw [show nI (6 * j) + 4 = nI (6 * j + 4) from nI_add (6 * j) 4]
  refine VV.know (fun ho9 _ _ => ?_)
  refine v_iald 2332 dL_law_2331 (by first | assumption | rfl) (by rw [ho9.2.2.2.2.2.2.2.2.1]; exact in_nI (by omega) (by omega)) rfl ?_
  rw [nI_clamp (by omega), ho9.2.2.2.2.2.2.2.2.2]
  refine v_invv (d' := 9) (k' := 0) (n' := 0) (k2 := (k + 1147)) (n2 := (n + 14022)) 2335 [_, _, _, _] dL_law_2332 mt_L_261 mi_X12_leafAt me_X12_leafAt (by first | assumption | rfl) (by rfl) rfl rfl (of_decide_eq_true rfl) rfl (by decide) rfl rfl rfl rfl (C_X12_leafAt R2' I  (fun v2 h2 e2 R2'' c2 ke2 => ?_))
  refine v_istore 2337 dL_law_2335 (by decide) rfl rfl ?_
  dsimp only [List.set]
  refine v_aload_n 2338 dL_law_2337 rfl rfl ?_
  refine v_invv (d' := 0) (k' := 0) (n' := 0) (k2 := (k + 1147)) (n2 := (n + 14022)) 2341 [] dL_law_2338 mt_L_162 mi_X12_thrown me_X12_thrown (by first | assumption | rfl) (by rfl) rfl rfl (of_decide_eq_true rfl) rfl (by decide) rfl rfl rfl rfl (C_X12_thrown ?_)
  rw [c2]
  refine v_iload 2343 dL_law_2341 rfl rfl ?_
  refine v_icmp_eq 2348 2346 dL_law_2343 (by decide) rfl (fun c2343 => ?_) (fun c2343 => ?_)
  · refine v_iload 2350 dL_law_2348 rfl rfl ?_
    refine v_if_ne 2365 2353 dL_law_2350 (by decide) rfl (fun c2350 => ?_) (fun c2350 => ?_)
    · refine v_goto 3031 dL_law_2365 (by decide) ?_
      refine VV.less (Nat.le_refl _) (by omega) (by omega) (K _ _ _ _ _ ⟨R1'.te (fun t ht => ke2.1 t (by omega)), R2'', (I.m (Nat.le_succ N)), J, ke2.2 Fr1, by rw [(ke2.1 80 (by omega)).2.1]; exact l1, by rw [(ke2.1 81 (by omega)).2.1]; exact m1⟩)
    · have hc := nz_3 b1 c2350
      refine v_aload_n 2354 dL_law_2353 rfl rfl ?_
      refine v_iconstv (v := 0) 2355 dL_law_2354 (by decide) rfl ?_
      refine v_lald 2356 dL_law_2355 (by first | assumption | rfl) (by rw [(ke2.1 80 (by omega)).2.1, l1]; exact in_nI (m := 0) (by decide) (by decide)) rfl ?_
      rw [show Int32.toNatClampNeg 0 = 0 from rfl, (ke2.1 80 (by omega)).2.2.2.2.1, v1 hc, e2 hc]
      refine v_iload 2358 dL_law_2356 rfl rfl ?_
      refine v_i2l 2359 dL_law_2358 rfl ?_
      refine v_lcmp 2360 dL_law_2359 rfl ?_
      rw [cmp_s]
      refine v_if_eq 2365 2363 dL_law_2360 (by decide) rfl (fun c2360 => ?_) (fun c2360 => ?_)
      · refine v_goto 3031 dL_law_2365 (by decide) ?_
        refine VV.less (Nat.le_refl _) (by omega) (by omega) (K _ _ _ _ _ ⟨R1'.te (fun t ht => ke2.1 t (by omega)), R2'', (I.m (Nat.le_succ N)), J, ke2.2 Fr1, by rw [(ke2.1 80 (by omega)).2.1]; exact l1, by rw [(ke2.1 81 (by omega)).2.1]; exact m1⟩)
      · exact absurd rfl c2360
  · exact absurd rfl c2343
set_option maxRecDepth 20000 in
theorem W_30 {G : GW} {Q : RS → PH → Prop} {S : SP} {N j k n : Nat} {h : PH} {z6 z7 z8 : Option PV} (hL : gw_L G ≤ 3072) (hj : 6 * j + 6 ≤ gw_L G) (L9 : lw_I S N h) (hN : N ≤ 600) (K : ∀ S' h' z6 z7 z8, lw_I S' (N + 1) h' → VV G 13 k n yL_law cL_law 9 (some .boolean) [] 3031 [some (pv_O (7, 0)), some (pv_O (10, 0)), some (pv_O (40, 0)), some (pv_O (80, 0)), some (pv_O (81, 0)), some (pv_I (nI (6 * j))), z6, z7, z8] [] h' Q) : VV G 13 (k + 1150) (n + 14040) yL_law cL_law 9 (some .boolean) [] 2368 [some (pv_O (7, 0)), some (pv_O (10, 0)), some (pv_O (40, 0)), some (pv_O (80, 0)), some (pv_O (81, 0)), some (pv_I (nI (6 * j))), z6, z7, z8] [] h Q := by
  obtain ⟨R1, R2, I, J, Fr, l80, l81⟩ := L9
  refine v_aload_n 2369 dL_law_2368 rfl rfl ?_
  refine v_aload_n 2370 dL_law_2369 rfl rfl ?_
  refine v_iload 2372 dL_law_2370 rfl rfl ?_
  refine v_iconstv (v := 1) 2373 dL_law_2372 (by decide) rfl ?_
  refine v_iadd 2374 dL_law_2373 rfl ?_
  rw [show nI (6 * j) + 1 = nI (6 * j + 1) from nI_add (6 * j) 1]
  refine VV.know (fun ho9 _ _ => ?_)
  refine v_iald 2375 dL_law_2374 (by first | assumption | rfl) (by rw [ho9.2.2.2.2.2.2.2.2.1]; exact in_nI (by omega) (by omega)) rfl ?_
  rw [nI_clamp (by omega), ho9.2.2.2.2.2.2.2.2.2]
  refine v_aload_n 2376 dL_law_2375 rfl rfl ?_
  refine v_iload 2378 dL_law_2376 rfl rfl ?_
  refine v_iconstv (v := 2) 2379 dL_law_2378 (by decide) rfl ?_
  refine v_iadd 2380 dL_law_2379 rfl ?_
  rw [show nI (6 * j) + 2 = nI (6 * j + 2) from nI_add (6 * j) 2]
  refine VV.know (fun ho9 _ _ => ?_)
  refine v_iald 2381 dL_law_2380 (by first | assumption | rfl) (by rw [ho9.2.2.2.2.2.2.2.2.1]; exact in_nI (by omega) (by omega)) rfl ?_
  rw [nI_clamp (by omega), ho9.2.2.2.2.2.2.2.2.2]
  refine v_aload_n 2382 dL_law_2381 rfl rfl ?_
  refine v_invsW (d' := 8) (k' := 2) (n' := 12) (k2 := k + 1148) (n2 := n + 14028) 2385 [_, _, _, _] dL_law_2382 lk_L_262 md_L_contrast ms_L_contrast rfl rfl (of_decide_eq_true rfl) rfl (by decide) rfl rfl rfl rfl (C_L_contrast R1 I  l80 (fun h1 R1' te1 l1 b1 v1 => ?_))
  have R2' : Rp2 S h1 := R2.te (fun t ht => te1 t (by omega) (by omega))
  have Fr1 : fr_s h1 := (fun t a b => (Fr t a b).te (te1 t (by omega) (by omega)))
  have m1 : hp_ln h1 81 0 = 1 := by rw [(te1 81 (by omega) (by decide)).2.1]; exact l81
  show VV G 13 (k + 1148) (n + 14028) yL_law cL_law 9 (some .boolean) [] 2385 _ _ h1 Q
  refine v_istore 2387 dL_law_2385 (by decide) rfl rfl ?_
  dsimp only [List.set]
  refine v_aload_n 2388 dL_law_2387 rfl rfl ?_
  refine v_aload_n 2389 dL_law_2388 rfl rfl ?_
  refine v_iload 2391 dL_law_2389 rfl rfl ?_
  refine v_iconstv (v := 1) 2392 dL_law_2391 (by decide) rfl ?_
  refine v_iadd 2393 dL_law_2392 rfl ?_
  rw [show nI (6 * j) + 1 = nI (6 * j + 1) from nI_add (6 * j) 1]
  refine VV.know (fun ho9 _ _ => ?_)
  refine v_iald 2394 dL_law_2393 (by first | assumption | rfl) (by rw [ho9.2.2.2.2.2.2.2.2.1]; exact in_nI (by omega) (by omega)) rfl ?_
  rw [nI_clamp (by omega), ho9.2.2.2.2.2.2.2.2.2]
  refine v_aload_n 2395 dL_law_2394 rfl rfl ?_
  refine v_iload 2397 dL_law_2395 rfl rfl ?_
  refine v_iconstv (v := 2) 2398 dL_law_2397 (by decide) rfl ?_
  refine v_iadd 2399 dL_law_2398 rfl ?_
  rw [show nI (6 * j) + 2 = nI (6 * j + 2) from nI_add (6 * j) 2]
  refine VV.know (fun ho9 _ _ => ?_)
  refine v_iald 2400 dL_law_2399 (by first | assumption | rfl) (by rw [ho9.2.2.2.2.2.2.2.2.1]; exact in_nI (by omega) (by omega)) rfl ?_
  rw [nI_clamp (by omega), ho9.2.2.2.2.2.2.2.2.2]
  refine v_invv (d' := 9) (k' := 0) (n' := 0) (k2 := (k + 1148)) (n2 := (n + 14028)) 2403 [_, _] dL_law_2400 mt_L_264 mi_X12_contrast me_X12_contrast (by first | assumption | rfl) (by rfl) rfl rfl (of_decide_eq_true rfl) rfl (by decide) rfl rfl rfl rfl (C_X12_contrast R2' I  (fun v2 h2 e2 R2'' c2 ke2 => ?_))
  refine v_istore 2405 dL_law_2403 (by decide) rfl rfl ?_
  dsimp only [List.set]
  refine v_aload_n 2406 dL_law_2405 rfl rfl ?_
  refine v_invv (d' := 0) (k' := 0) (n' := 0) (k2 := (k + 1148)) (n2 := (n + 14028)) 2409 [] dL_law_2406 mt_L_162 mi_X12_thrown me_X12_thrown (by first | assumption | rfl) (by rfl) rfl rfl (of_decide_eq_true rfl) rfl (by decide) rfl rfl rfl rfl (C_X12_thrown ?_)
  rw [c2]
  refine v_iload 2411 dL_law_2409 rfl rfl ?_
  refine v_icmp_eq 2416 2414 dL_law_2411 (by decide) rfl (fun c2411 => ?_) (fun c2411 => ?_)
  · refine v_iload 2418 dL_law_2416 rfl rfl ?_
    refine v_if_ne 2433 2421 dL_law_2418 (by decide) rfl (fun c2418 => ?_) (fun c2418 => ?_)
    · refine v_goto 3031 dL_law_2433 (by decide) ?_
      refine VV.less (Nat.le_refl _) (by omega) (by omega) (K _ _ _ _ _ ⟨R1'.te (fun t ht => ke2.1 t (by omega)), R2'', (I.m (Nat.le_succ N)), J, ke2.2 Fr1, by rw [(ke2.1 80 (by omega)).2.1]; exact l1, by rw [(ke2.1 81 (by omega)).2.1]; exact m1⟩)
    · have hc := nz_3 b1 c2418
      refine v_aload_n 2422 dL_law_2421 rfl rfl ?_
      refine v_iconstv (v := 0) 2423 dL_law_2422 (by decide) rfl ?_
      refine v_lald 2424 dL_law_2423 (by first | assumption | rfl) (by rw [(ke2.1 80 (by omega)).2.1, l1]; exact in_nI (m := 0) (by decide) (by decide)) rfl ?_
      rw [show Int32.toNatClampNeg 0 = 0 from rfl, (ke2.1 80 (by omega)).2.2.2.2.1, v1 hc, e2 hc]
      refine v_iload 2426 dL_law_2424 rfl rfl ?_
      refine v_i2l 2427 dL_law_2426 rfl ?_
      refine v_lcmp 2428 dL_law_2427 rfl ?_
      rw [cmp_s]
      refine v_if_eq 2433 2431 dL_law_2428 (by decide) rfl (fun c2428 => ?_) (fun c2428 => ?_)
      · refine v_goto 3031 dL_law_2433 (by decide) ?_
        refine VV.less (Nat.le_refl _) (by omega) (by omega) (K _ _ _ _ _ ⟨R1'.te (fun t ht => ke2.1 t (by omega)), R2'', (I.m (Nat.le_succ N)), J, ke2.2 Fr1, by rw [(ke2.1 80 (by omega)).2.1]; exact l1, by rw [(ke2.1 81 (by omega)).2.1]; exact m1⟩)
      · exact absurd rfl c2428
  · exact absurd rfl c2411
set_option maxRecDepth 20000 in
theorem W_31 {G : GW} {Q : RS → PH → Prop} {S : SP} {N j k n : Nat} {h : PH} {z6 z7 z8 : Option PV} (hL : gw_L G ≤ 3072) (hj : 6 * j + 6 ≤ gw_L G) (L9 : lw_I S N h) (hN : N ≤ 600) (K : ∀ S' h' z6 z7 z8, lw_I S' (N + 1) h' → VV G 13 k n yL_law cL_law 9 (some .boolean) [] 3031 [some (pv_O (7, 0)), some (pv_O (10, 0)), some (pv_O (40, 0)), some (pv_O (80, 0)), some (pv_O (81, 0)), some (pv_I (nI (6 * j))), z6, z7, z8] [] h' Q) : VV G 13 (k + 1150) (n + 14040) yL_law cL_law 9 (some .boolean) [] 2436 [some (pv_O (7, 0)), some (pv_O (10, 0)), some (pv_O (40, 0)), some (pv_O (80, 0)), some (pv_O (81, 0)), some (pv_I (nI (6 * j))), z6, z7, z8] [] h Q := by
  obtain ⟨R1, R2, I, J, Fr, l80, l81⟩ := L9
  refine v_aload_n 2437 dL_law_2436 rfl rfl ?_
  refine v_aload_n 2438 dL_law_2437 rfl rfl ?_
  refine v_iload 2440 dL_law_2438 rfl rfl ?_
  refine v_iconstv (v := 1) 2441 dL_law_2440 (by decide) rfl ?_
  refine v_iadd 2442 dL_law_2441 rfl ?_
  rw [show nI (6 * j) + 1 = nI (6 * j + 1) from nI_add (6 * j) 1]
  refine VV.know (fun ho9 _ _ => ?_)
  refine v_iald 2443 dL_law_2442 (by first | assumption | rfl) (by rw [ho9.2.2.2.2.2.2.2.2.1]; exact in_nI (by omega) (by omega)) rfl ?_
  rw [nI_clamp (by omega), ho9.2.2.2.2.2.2.2.2.2]
  refine v_aload_n 2444 dL_law_2443 rfl rfl ?_
  refine v_iload 2446 dL_law_2444 rfl rfl ?_
  refine v_iconstv (v := 2) 2447 dL_law_2446 (by decide) rfl ?_
  refine v_iadd 2448 dL_law_2447 rfl ?_
  rw [show nI (6 * j) + 2 = nI (6 * j + 2) from nI_add (6 * j) 2]
  refine VV.know (fun ho9 _ _ => ?_)
  refine v_iald 2449 dL_law_2448 (by first | assumption | rfl) (by rw [ho9.2.2.2.2.2.2.2.2.1]; exact in_nI (by omega) (by omega)) rfl ?_
  rw [nI_clamp (by omega), ho9.2.2.2.2.2.2.2.2.2]
  refine v_i2c 2450 dL_law_2449 rfl ?_
  refine v_aload_n 2451 dL_law_2450 rfl rfl ?_
  refine v_iload 2453 dL_law_2451 rfl rfl ?_
  refine v_iconstv (v := 3) 2454 dL_law_2453 (by decide) rfl ?_
  refine v_iadd 2455 dL_law_2454 rfl ?_
  rw [show nI (6 * j) + 3 = nI (6 * j + 3) from nI_add (6 * j) 3]
  refine VV.know (fun ho9 _ _ => ?_)
  refine v_iald 2456 dL_law_2455 (by first | assumption | rfl) (by rw [ho9.2.2.2.2.2.2.2.2.1]; exact in_nI (by omega) (by omega)) rfl ?_
  rw [nI_clamp (by omega), ho9.2.2.2.2.2.2.2.2.2]
  refine v_aload_n 2457 dL_law_2456 rfl rfl ?_
  refine v_iload 2459 dL_law_2457 rfl rfl ?_
  refine v_iconstv (v := 4) 2460 dL_law_2459 (by decide) rfl ?_
  refine v_iadd 2461 dL_law_2460 rfl ?_
  rw [show nI (6 * j) + 4 = nI (6 * j + 4) from nI_add (6 * j) 4]
  refine VV.know (fun ho9 _ _ => ?_)
  refine v_iald 2462 dL_law_2461 (by first | assumption | rfl) (by rw [ho9.2.2.2.2.2.2.2.2.1]; exact in_nI (by omega) (by omega)) rfl ?_
  rw [nI_clamp (by omega), ho9.2.2.2.2.2.2.2.2.2]
  refine v_aload_n 2463 dL_law_2462 rfl rfl ?_
  refine v_invsW (d' := 8) (k' := 2) (n' := 12) (k2 := k + 1148) (n2 := n + 14028) 2466 [_, _, _, _, _, _] dL_law_2463 lk_L_265 md_L_sand ms_L_sand rfl rfl (of_decide_eq_true rfl) rfl (by decide) rfl rfl rfl rfl (C_L_sand R1 I  l80 (fun h1 R1' te1 l1 b1 v1 => ?_))
  have R2' : Rp2 S h1 := R2.te (fun t ht => te1 t (by omega) (by omega))
  have Fr1 : fr_s h1 := (fun t a b => (Fr t a b).te (te1 t (by omega) (by omega)))
  have m1 : hp_ln h1 81 0 = 1 := by rw [(te1 81 (by omega) (by decide)).2.1]; exact l81
  show VV G 13 (k + 1148) (n + 14028) yL_law cL_law 9 (some .boolean) [] 2466 _ _ h1 Q
  refine v_istore 2468 dL_law_2466 (by decide) rfl rfl ?_
  dsimp only [List.set]
  refine v_aload_n 2469 dL_law_2468 rfl rfl ?_
  refine v_aload_n 2470 dL_law_2469 rfl rfl ?_
  refine v_iload 2472 dL_law_2470 rfl rfl ?_
  refine v_iconstv (v := 1) 2473 dL_law_2472 (by decide) rfl ?_
  refine v_iadd 2474 dL_law_2473 rfl ?_
  rw [show nI (6 * j) + 1 = nI (6 * j + 1) from nI_add (6 * j) 1]
  refine VV.know (fun ho9 _ _ => ?_)
  refine v_iald 2475 dL_law_2474 (by first | assumption | rfl) (by rw [ho9.2.2.2.2.2.2.2.2.1]; exact in_nI (by omega) (by omega)) rfl ?_
  rw [nI_clamp (by omega), ho9.2.2.2.2.2.2.2.2.2]
  refine v_aload_n 2476 dL_law_2475 rfl rfl ?_
  refine v_iload 2478 dL_law_2476 rfl rfl ?_
  refine v_iconstv (v := 2) 2479 dL_law_2478 (by decide) rfl ?_
  refine v_iadd 2480 dL_law_2479 rfl ?_
  rw [show nI (6 * j) + 2 = nI (6 * j + 2) from nI_add (6 * j) 2]
  refine VV.know (fun ho9 _ _ => ?_)
  refine v_iald 2481 dL_law_2480 (by first | assumption | rfl) (by rw [ho9.2.2.2.2.2.2.2.2.1]; exact in_nI (by omega) (by omega)) rfl ?_
  rw [nI_clamp (by omega), ho9.2.2.2.2.2.2.2.2.2]
  refine v_i2c 2482 dL_law_2481 rfl ?_
  refine v_aload_n 2483 dL_law_2482 rfl rfl ?_
  refine v_iload 2485 dL_law_2483 rfl rfl ?_
  refine v_iconstv (v := 3) 2486 dL_law_2485 (by decide) rfl ?_
  refine v_iadd 2487 dL_law_2486 rfl ?_
  rw [show nI (6 * j) + 3 = nI (6 * j + 3) from nI_add (6 * j) 3]
  refine VV.know (fun ho9 _ _ => ?_)
  refine v_iald 2488 dL_law_2487 (by first | assumption | rfl) (by rw [ho9.2.2.2.2.2.2.2.2.1]; exact in_nI (by omega) (by omega)) rfl ?_
  rw [nI_clamp (by omega), ho9.2.2.2.2.2.2.2.2.2]
  refine v_aload_n 2489 dL_law_2488 rfl rfl ?_
  refine v_iload 2491 dL_law_2489 rfl rfl ?_
  refine v_iconstv (v := 4) 2492 dL_law_2491 (by decide) rfl ?_
  refine v_iadd 2493 dL_law_2492 rfl ?_
  rw [show nI (6 * j) + 4 = nI (6 * j + 4) from nI_add (6 * j) 4]
  refine VV.know (fun ho9 _ _ => ?_)
  refine v_iald 2494 dL_law_2493 (by first | assumption | rfl) (by rw [ho9.2.2.2.2.2.2.2.2.1]; exact in_nI (by omega) (by omega)) rfl ?_
  rw [nI_clamp (by omega), ho9.2.2.2.2.2.2.2.2.2]
  refine v_invv (d' := 9) (k' := 0) (n' := 0) (k2 := (k + 1148)) (n2 := (n + 14028)) 2497 [_, _, _, _] dL_law_2494 mt_L_268 mi_X12_sand me_X12_sand (by first | assumption | rfl) (by rfl) rfl rfl (of_decide_eq_true rfl) rfl (by decide) rfl rfl rfl rfl (C_X12_sand R2' I (cr_ _) (fun v2 h2 e2 R2'' c2 ke2 => ?_))
  refine v_istore 2499 dL_law_2497 (by decide) rfl rfl ?_
  dsimp only [List.set]
  refine v_aload_n 2500 dL_law_2499 rfl rfl ?_
  refine v_invv (d' := 0) (k' := 0) (n' := 0) (k2 := (k + 1148)) (n2 := (n + 14028)) 2503 [] dL_law_2500 mt_L_162 mi_X12_thrown me_X12_thrown (by first | assumption | rfl) (by rfl) rfl rfl (of_decide_eq_true rfl) rfl (by decide) rfl rfl rfl rfl (C_X12_thrown ?_)
  rw [c2]
  refine v_iload 2505 dL_law_2503 rfl rfl ?_
  refine v_icmp_eq 2510 2508 dL_law_2505 (by decide) rfl (fun c2505 => ?_) (fun c2505 => ?_)
  · refine v_iload 2512 dL_law_2510 rfl rfl ?_
    refine v_if_ne 2527 2515 dL_law_2512 (by decide) rfl (fun c2512 => ?_) (fun c2512 => ?_)
    · refine v_goto 3031 dL_law_2527 (by decide) ?_
      refine VV.less (Nat.le_refl _) (by omega) (by omega) (K _ _ _ _ _ ⟨R1'.te (fun t ht => ke2.1 t (by omega)), R2'', (iv_sand I), (j2_sand J), ke2.2 Fr1, by rw [(ke2.1 80 (by omega)).2.1]; exact l1, by rw [(ke2.1 81 (by omega)).2.1]; exact m1⟩)
    · have hc := nz_3 b1 c2512
      refine v_aload_n 2516 dL_law_2515 rfl rfl ?_
      refine v_iconstv (v := 0) 2517 dL_law_2516 (by decide) rfl ?_
      refine v_lald 2518 dL_law_2517 (by first | assumption | rfl) (by rw [(ke2.1 80 (by omega)).2.1, l1]; exact in_nI (m := 0) (by decide) (by decide)) rfl ?_
      rw [show Int32.toNatClampNeg 0 = 0 from rfl, (ke2.1 80 (by omega)).2.2.2.2.1, v1 hc, e2 hc]
      refine v_iload 2520 dL_law_2518 rfl rfl ?_
      refine v_i2l 2521 dL_law_2520 rfl ?_
      refine v_lcmp 2522 dL_law_2521 rfl ?_
      rw [cmp_s]
      refine v_if_eq 2527 2525 dL_law_2522 (by decide) rfl (fun c2522 => ?_) (fun c2522 => ?_)
      · refine v_goto 3031 dL_law_2527 (by decide) ?_
        refine VV.less (Nat.le_refl _) (by omega) (by omega) (K _ _ _ _ _ ⟨R1'.te (fun t ht => ke2.1 t (by omega)), R2'', (iv_sand I), (j2_sand J), ke2.2 Fr1, by rw [(ke2.1 80 (by omega)).2.1]; exact l1, by rw [(ke2.1 81 (by omega)).2.1]; exact m1⟩)
      · exact absurd rfl c2522
  · exact absurd rfl c2505
set_option maxRecDepth 20000 in
theorem W_32 {G : GW} {Q : RS → PH → Prop} {S : SP} {N j k n : Nat} {h : PH} {z6 z7 z8 : Option PV} (hL : gw_L G ≤ 3072) (hj : 6 * j + 6 ≤ gw_L G) (L9 : lw_I S N h) (hN : N ≤ 600) (K : ∀ S' h' z6 z7 z8, lw_I S' (N + 1) h' → VV G 13 k n yL_law cL_law 9 (some .boolean) [] 3031 [some (pv_O (7, 0)), some (pv_O (10, 0)), some (pv_O (40, 0)), some (pv_O (80, 0)), some (pv_O (81, 0)), some (pv_I (nI (6 * j))), z6, z7, z8] [] h' Q) : VV G 13 (k + 1150) (n + 14040) yL_law cL_law 9 (some .boolean) [] 2530 [some (pv_O (7, 0)), some (pv_O (10, 0)), some (pv_O (40, 0)), some (pv_O (80, 0)), some (pv_O (81, 0)), some (pv_I (nI (6 * j))), z6, z7, z8] [] h Q := by
  obtain ⟨R1, R2, I, J, Fr, l80, l81⟩ := L9
  refine v_aload_n 2531 dL_law_2530 rfl rfl ?_
  refine v_aload_n 2532 dL_law_2531 rfl rfl ?_
  refine v_iload 2534 dL_law_2532 rfl rfl ?_
  refine v_iconstv (v := 1) 2535 dL_law_2534 (by decide) rfl ?_
  refine v_iadd 2536 dL_law_2535 rfl ?_
  rw [show nI (6 * j) + 1 = nI (6 * j + 1) from nI_add (6 * j) 1]
  refine VV.know (fun ho9 _ _ => ?_)
  refine v_iald 2537 dL_law_2536 (by first | assumption | rfl) (by rw [ho9.2.2.2.2.2.2.2.2.1]; exact in_nI (by omega) (by omega)) rfl ?_
  rw [nI_clamp (by omega), ho9.2.2.2.2.2.2.2.2.2]
  refine v_aload_n 2538 dL_law_2537 rfl rfl ?_
  refine v_invsW (d' := 8) (k' := 1) (n' := 6) (k2 := k + 1149) (n2 := n + 14034) 2541 [_, _, _] dL_law_2538 lk_L_269 md_L_burnt ms_L_burnt rfl rfl (of_decide_eq_true rfl) rfl (by decide) rfl rfl rfl rfl (C_L_burnt R1 I  l80 (fun h1 R1' te1 l1 b1 v1 => ?_))
  have R2' : Rp2 S h1 := R2.te (fun t ht => te1 t (by omega) (by omega))
  have Fr1 : fr_s h1 := (fun t a b => (Fr t a b).te (te1 t (by omega) (by omega)))
  have m1 : hp_ln h1 81 0 = 1 := by rw [(te1 81 (by omega) (by decide)).2.1]; exact l81
  show VV G 13 (k + 1149) (n + 14034) yL_law cL_law 9 (some .boolean) [] 2541 _ _ h1 Q
  refine v_istore 2543 dL_law_2541 (by decide) rfl rfl ?_
  dsimp only [List.set]
  refine v_aload_n 2544 dL_law_2543 rfl rfl ?_
  refine v_aload_n 2545 dL_law_2544 rfl rfl ?_
  refine v_iload 2547 dL_law_2545 rfl rfl ?_
  refine v_iconstv (v := 1) 2548 dL_law_2547 (by decide) rfl ?_
  refine v_iadd 2549 dL_law_2548 rfl ?_
  rw [show nI (6 * j) + 1 = nI (6 * j + 1) from nI_add (6 * j) 1]
  refine VV.know (fun ho9 _ _ => ?_)
  refine v_iald 2550 dL_law_2549 (by first | assumption | rfl) (by rw [ho9.2.2.2.2.2.2.2.2.1]; exact in_nI (by omega) (by omega)) rfl ?_
  rw [nI_clamp (by omega), ho9.2.2.2.2.2.2.2.2.2]
  refine v_invv (d' := 9) (k' := 0) (n' := 0) (k2 := (k + 1149)) (n2 := (n + 14034)) 2553 [_] dL_law_2550 mt_L_271 mi_X12_burnt me_X12_burnt (by first | assumption | rfl) (by rfl) rfl rfl (of_decide_eq_true rfl) rfl (by decide) rfl rfl rfl rfl (C_X12_burnt R2' I  (fun v2 h2 e2 R2'' c2 ke2 => ?_))
  refine v_istore 2555 dL_law_2553 (by decide) rfl rfl ?_
  dsimp only [List.set]
  refine v_aload_n 2556 dL_law_2555 rfl rfl ?_
  refine v_invv (d' := 0) (k' := 0) (n' := 0) (k2 := (k + 1149)) (n2 := (n + 14034)) 2559 [] dL_law_2556 mt_L_162 mi_X12_thrown me_X12_thrown (by first | assumption | rfl) (by rfl) rfl rfl (of_decide_eq_true rfl) rfl (by decide) rfl rfl rfl rfl (C_X12_thrown ?_)
  rw [c2]
  refine v_iload 2561 dL_law_2559 rfl rfl ?_
  refine v_icmp_eq 2566 2564 dL_law_2561 (by decide) rfl (fun c2561 => ?_) (fun c2561 => ?_)
  · refine v_iload 2568 dL_law_2566 rfl rfl ?_
    refine v_if_ne 2583 2571 dL_law_2568 (by decide) rfl (fun c2568 => ?_) (fun c2568 => ?_)
    · refine v_goto 3031 dL_law_2583 (by decide) ?_
      refine VV.less (Nat.le_refl _) (by omega) (by omega) (K _ _ _ _ _ ⟨R1'.te (fun t ht => ke2.1 t (by omega)), R2'', (I.m (Nat.le_succ N)), J, ke2.2 Fr1, by rw [(ke2.1 80 (by omega)).2.1]; exact l1, by rw [(ke2.1 81 (by omega)).2.1]; exact m1⟩)
    · have hc := nz_3 b1 c2568
      refine v_aload_n 2572 dL_law_2571 rfl rfl ?_
      refine v_iconstv (v := 0) 2573 dL_law_2572 (by decide) rfl ?_
      refine v_lald 2574 dL_law_2573 (by first | assumption | rfl) (by rw [(ke2.1 80 (by omega)).2.1, l1]; exact in_nI (m := 0) (by decide) (by decide)) rfl ?_
      rw [show Int32.toNatClampNeg 0 = 0 from rfl, (ke2.1 80 (by omega)).2.2.2.2.1, v1 hc, e2 hc]
      refine v_iload 2576 dL_law_2574 rfl rfl ?_
      refine v_i2l 2577 dL_law_2576 rfl ?_
      refine v_lcmp 2578 dL_law_2577 rfl ?_
      rw [cmp_s]
      refine v_if_eq 2583 2581 dL_law_2578 (by decide) rfl (fun c2578 => ?_) (fun c2578 => ?_)
      · refine v_goto 3031 dL_law_2583 (by decide) ?_
        refine VV.less (Nat.le_refl _) (by omega) (by omega) (K _ _ _ _ _ ⟨R1'.te (fun t ht => ke2.1 t (by omega)), R2'', (I.m (Nat.le_succ N)), J, ke2.2 Fr1, by rw [(ke2.1 80 (by omega)).2.1]; exact l1, by rw [(ke2.1 81 (by omega)).2.1]; exact m1⟩)
      · exact absurd rfl c2578
  · exact absurd rfl c2561
set_option maxRecDepth 20000 in
theorem W_33 {G : GW} {Q : RS → PH → Prop} {S : SP} {N j k n : Nat} {h : PH} {z6 z7 z8 : Option PV} (hL : gw_L G ≤ 3072) (hj : 6 * j + 6 ≤ gw_L G) (L9 : lw_I S N h) (hN : N ≤ 600) (K : ∀ S' h' z6 z7 z8, lw_I S' (N + 1) h' → VV G 13 k n yL_law cL_law 9 (some .boolean) [] 3031 [some (pv_O (7, 0)), some (pv_O (10, 0)), some (pv_O (40, 0)), some (pv_O (80, 0)), some (pv_O (81, 0)), some (pv_I (nI (6 * j))), z6, z7, z8] [] h' Q) : VV G 13 (k + 1150) (n + 14040) yL_law cL_law 9 (some .boolean) [] 2586 [some (pv_O (7, 0)), some (pv_O (10, 0)), some (pv_O (40, 0)), some (pv_O (80, 0)), some (pv_O (81, 0)), some (pv_I (nI (6 * j))), z6, z7, z8] [] h Q := by
  obtain ⟨R1, R2, I, J, Fr, l80, l81⟩ := L9
  refine v_aload_n 2587 dL_law_2586 rfl rfl ?_
  refine v_aload_n 2588 dL_law_2587 rfl rfl ?_
  refine v_iload 2590 dL_law_2588 rfl rfl ?_
  refine v_iconstv (v := 1) 2591 dL_law_2590 (by decide) rfl ?_
  refine v_iadd 2592 dL_law_2591 rfl ?_
  rw [show nI (6 * j) + 1 = nI (6 * j + 1) from nI_add (6 * j) 1]
  refine VV.know (fun ho9 _ _ => ?_)
  refine v_iald 2593 dL_law_2592 (by first | assumption | rfl) (by rw [ho9.2.2.2.2.2.2.2.2.1]; exact in_nI (by omega) (by omega)) rfl ?_
  rw [nI_clamp (by omega), ho9.2.2.2.2.2.2.2.2.2]
  refine v_aload_n 2594 dL_law_2593 rfl rfl ?_
  refine v_iload 2596 dL_law_2594 rfl rfl ?_
  refine v_iconstv (v := 2) 2597 dL_law_2596 (by decide) rfl ?_
  refine v_iadd 2598 dL_law_2597 rfl ?_
  rw [show nI (6 * j) + 2 = nI (6 * j + 2) from nI_add (6 * j) 2]
  refine VV.know (fun ho9 _ _ => ?_)
  refine v_iald 2599 dL_law_2598 (by first | assumption | rfl) (by rw [ho9.2.2.2.2.2.2.2.2.1]; exact in_nI (by omega) (by omega)) rfl ?_
  rw [nI_clamp (by omega), ho9.2.2.2.2.2.2.2.2.2]
  refine v_aload_n 2600 dL_law_2599 rfl rfl ?_
  refine v_iload 2602 dL_law_2600 rfl rfl ?_
  refine v_iconstv (v := 3) 2603 dL_law_2602 (by decide) rfl ?_
  refine v_iadd 2604 dL_law_2603 rfl ?_
  rw [show nI (6 * j) + 3 = nI (6 * j + 3) from nI_add (6 * j) 3]
  refine VV.know (fun ho9 _ _ => ?_)
  refine v_iald 2605 dL_law_2604 (by first | assumption | rfl) (by rw [ho9.2.2.2.2.2.2.2.2.1]; exact in_nI (by omega) (by omega)) rfl ?_
  rw [nI_clamp (by omega), ho9.2.2.2.2.2.2.2.2.2]
  refine v_aload_n 2606 dL_law_2605 rfl rfl ?_
  refine v_invsW (d' := 7) (k' := 1) (n' := 6) (k2 := k + 1149) (n2 := n + 14034) 2609 [_, _, _, _, _] dL_law_2606 lk_L_272 md_L_gap ms_L_gap rfl rfl (of_decide_eq_true rfl) rfl (by decide) rfl rfl rfl rfl (C_L_gap R1 I  l80 (fun h1 R1' te1 l1 b1 v1 => ?_))
  have R2' : Rp2 S h1 := R2.te (fun t ht => te1 t (by omega) (by omega))
  have Fr1 : fr_s h1 := (fun t a b => (Fr t a b).te (te1 t (by omega) (by omega)))
  have m1 : hp_ln h1 81 0 = 1 := by rw [(te1 81 (by omega) (by decide)).2.1]; exact l81
  show VV G 13 (k + 1149) (n + 14034) yL_law cL_law 9 (some .boolean) [] 2609 _ _ h1 Q
  refine v_istore 2611 dL_law_2609 (by decide) rfl rfl ?_
  dsimp only [List.set]
  refine v_aload_n 2612 dL_law_2611 rfl rfl ?_
  refine v_aload_n 2613 dL_law_2612 rfl rfl ?_
  refine v_iload 2615 dL_law_2613 rfl rfl ?_
  refine v_iconstv (v := 1) 2616 dL_law_2615 (by decide) rfl ?_
  refine v_iadd 2617 dL_law_2616 rfl ?_
  rw [show nI (6 * j) + 1 = nI (6 * j + 1) from nI_add (6 * j) 1]
  refine VV.know (fun ho9 _ _ => ?_)
  refine v_iald 2618 dL_law_2617 (by first | assumption | rfl) (by rw [ho9.2.2.2.2.2.2.2.2.1]; exact in_nI (by omega) (by omega)) rfl ?_
  rw [nI_clamp (by omega), ho9.2.2.2.2.2.2.2.2.2]
  refine v_aload_n 2619 dL_law_2618 rfl rfl ?_
  refine v_iload 2621 dL_law_2619 rfl rfl ?_
  refine v_iconstv (v := 2) 2622 dL_law_2621 (by decide) rfl ?_
  refine v_iadd 2623 dL_law_2622 rfl ?_
  rw [show nI (6 * j) + 2 = nI (6 * j + 2) from nI_add (6 * j) 2]
  refine VV.know (fun ho9 _ _ => ?_)
  refine v_iald 2624 dL_law_2623 (by first | assumption | rfl) (by rw [ho9.2.2.2.2.2.2.2.2.1]; exact in_nI (by omega) (by omega)) rfl ?_
  rw [nI_clamp (by omega), ho9.2.2.2.2.2.2.2.2.2]
  refine v_aload_n 2625 dL_law_2624 rfl rfl ?_
  refine v_iload 2627 dL_law_2625 rfl rfl ?_
  refine v_iconstv (v := 3) 2628 dL_law_2627 (by decide) rfl ?_
  refine v_iadd 2629 dL_law_2628 rfl ?_
  rw [show nI (6 * j) + 3 = nI (6 * j + 3) from nI_add (6 * j) 3]
  refine VV.know (fun ho9 _ _ => ?_)
  refine v_iald 2630 dL_law_2629 (by first | assumption | rfl) (by rw [ho9.2.2.2.2.2.2.2.2.1]; exact in_nI (by omega) (by omega)) rfl ?_
  rw [nI_clamp (by omega), ho9.2.2.2.2.2.2.2.2.2]
  refine v_invv (d' := 9) (k' := 0) (n' := 0) (k2 := (k + 1149)) (n2 := (n + 14034)) 2633 [_, _, _] dL_law_2630 mt_L_274 mi_X12_gap me_X12_gap (by first | assumption | rfl) (by rfl) rfl rfl (of_decide_eq_true rfl) rfl (by decide) rfl rfl rfl rfl (C_X12_gap R2' I  (fun v2 h2 e2 R2'' c2 ke2 => ?_))
  refine v_istore 2635 dL_law_2633 (by decide) rfl rfl ?_
  dsimp only [List.set]
  refine v_aload_n 2636 dL_law_2635 rfl rfl ?_
  refine v_invv (d' := 0) (k' := 0) (n' := 0) (k2 := (k + 1149)) (n2 := (n + 14034)) 2639 [] dL_law_2636 mt_L_162 mi_X12_thrown me_X12_thrown (by first | assumption | rfl) (by rfl) rfl rfl (of_decide_eq_true rfl) rfl (by decide) rfl rfl rfl rfl (C_X12_thrown ?_)
  rw [c2]
  refine v_iload 2641 dL_law_2639 rfl rfl ?_
  refine v_icmp_eq 2646 2644 dL_law_2641 (by decide) rfl (fun c2641 => ?_) (fun c2641 => ?_)
  · refine v_iload 2648 dL_law_2646 rfl rfl ?_
    refine v_if_ne 2663 2651 dL_law_2648 (by decide) rfl (fun c2648 => ?_) (fun c2648 => ?_)
    · refine v_goto 3031 dL_law_2663 (by decide) ?_
      refine VV.less (Nat.le_refl _) (by omega) (by omega) (K _ _ _ _ _ ⟨R1'.te (fun t ht => ke2.1 t (by omega)), R2'', (I.m (Nat.le_succ N)), J, ke2.2 Fr1, by rw [(ke2.1 80 (by omega)).2.1]; exact l1, by rw [(ke2.1 81 (by omega)).2.1]; exact m1⟩)
    · have hc := nz_3 b1 c2648
      refine v_aload_n 2652 dL_law_2651 rfl rfl ?_
      refine v_iconstv (v := 0) 2653 dL_law_2652 (by decide) rfl ?_
      refine v_lald 2654 dL_law_2653 (by first | assumption | rfl) (by rw [(ke2.1 80 (by omega)).2.1, l1]; exact in_nI (m := 0) (by decide) (by decide)) rfl ?_
      rw [show Int32.toNatClampNeg 0 = 0 from rfl, (ke2.1 80 (by omega)).2.2.2.2.1, v1 hc, e2 hc]
      refine v_iload 2656 dL_law_2654 rfl rfl ?_
      refine v_i2l 2657 dL_law_2656 rfl ?_
      refine v_lcmp 2658 dL_law_2657 rfl ?_
      rw [cmp_s]
      refine v_if_eq 2663 2661 dL_law_2658 (by decide) rfl (fun c2658 => ?_) (fun c2658 => ?_)
      · refine v_goto 3031 dL_law_2663 (by decide) ?_
        refine VV.less (Nat.le_refl _) (by omega) (by omega) (K _ _ _ _ _ ⟨R1'.te (fun t ht => ke2.1 t (by omega)), R2'', (I.m (Nat.le_succ N)), J, ke2.2 Fr1, by rw [(ke2.1 80 (by omega)).2.1]; exact l1, by rw [(ke2.1 81 (by omega)).2.1]; exact m1⟩)
      · exact absurd rfl c2658
  · exact absurd rfl c2641
set_option maxRecDepth 20000 in
theorem W_34 {G : GW} {Q : RS → PH → Prop} {S : SP} {N j k n : Nat} {h : PH} {z6 z7 z8 : Option PV} (hL : gw_L G ≤ 3072) (hj : 6 * j + 6 ≤ gw_L G) (L9 : lw_I S N h) (hN : N ≤ 600) (K : ∀ S' h' z6 z7 z8, lw_I S' (N + 1) h' → VV G 13 k n yL_law cL_law 9 (some .boolean) [] 3031 [some (pv_O (7, 0)), some (pv_O (10, 0)), some (pv_O (40, 0)), some (pv_O (80, 0)), some (pv_O (81, 0)), some (pv_I (nI (6 * j))), z6, z7, z8] [] h' Q) : VV G 13 (k + 1150) (n + 14040) yL_law cL_law 9 (some .boolean) [] 2666 [some (pv_O (7, 0)), some (pv_O (10, 0)), some (pv_O (40, 0)), some (pv_O (80, 0)), some (pv_O (81, 0)), some (pv_I (nI (6 * j))), z6, z7, z8] [] h Q := by
  obtain ⟨R1, R2, I, J, Fr, l80, l81⟩ := L9
  refine v_aload_n 2667 dL_law_2666 rfl rfl ?_
  refine v_aload_n 2668 dL_law_2667 rfl rfl ?_
  refine v_iload 2670 dL_law_2668 rfl rfl ?_
  refine v_iconstv (v := 1) 2671 dL_law_2670 (by decide) rfl ?_
  refine v_iadd 2672 dL_law_2671 rfl ?_
  rw [show nI (6 * j) + 1 = nI (6 * j + 1) from nI_add (6 * j) 1]
  refine VV.know (fun ho9 _ _ => ?_)
  refine v_iald 2673 dL_law_2672 (by first | assumption | rfl) (by rw [ho9.2.2.2.2.2.2.2.2.1]; exact in_nI (by omega) (by omega)) rfl ?_
  rw [nI_clamp (by omega), ho9.2.2.2.2.2.2.2.2.2]
  refine v_invv (d' := 3) (k' := 0) (n' := 0) (k2 := (k + 1150)) (n2 := (n + 14040)) 2676 [_] dL_law_2673 mt_L_275 mi_X6_offcuts me_X6_offcuts (by first | assumption | rfl) (by rfl) rfl rfl (of_decide_eq_true rfl) rfl (by decide) rfl rfl rfl rfl (C_X6_offcuts R1 I ?_)
  have h1e : ∃ h1, h1 = h := ⟨h, rfl⟩
  obtain ⟨h1, rfl⟩ := h1e
  have R1' := R1
  have te1 : ∀ t, t < 10 ∨ 40 ≤ t → ¬ t = 80 → hp_te h1 h1 t := fun _ _ _ => hp_te.rf
  have l1 := l80
  have R2' : Rp2 S h1 := R2.te (fun t ht => te1 t (by omega) (by omega))
  have Fr1 : fr_s h1 := (fun t a b => (Fr t a b).te (te1 t (by omega) (by omega)))
  have m1 : hp_ln h1 81 0 = 1 := by rw [(te1 81 (by omega) (by decide)).2.1]; exact l81
  
  refine v_aload_n 2677 dL_law_2676 rfl rfl ?_
  refine v_aload_n 2678 dL_law_2677 rfl rfl ?_
  refine v_iload 2680 dL_law_2678 rfl rfl ?_
  refine v_iconstv (v := 1) 2681 dL_law_2680 (by decide) rfl ?_
  refine v_iadd 2682 dL_law_2681 rfl ?_
  rw [show nI (6 * j) + 1 = nI (6 * j + 1) from nI_add (6 * j) 1]
  refine VV.know (fun ho9 _ _ => ?_)
  refine v_iald 2683 dL_law_2682 (by first | assumption | rfl) (by rw [ho9.2.2.2.2.2.2.2.2.1]; exact in_nI (by omega) (by omega)) rfl ?_
  rw [nI_clamp (by omega), ho9.2.2.2.2.2.2.2.2.2]
  refine v_invv (d' := 9) (k' := 1) (n' := 4) (k2 := (k + 1149)) (n2 := (n + 14036)) 2686 [_] dL_law_2683 mt_L_278 mi_X12_offcuts me_X12_offcuts (by first | assumption | rfl) (by rfl) rfl rfl (of_decide_eq_true rfl) rfl (by decide) rfl rfl rfl rfl (C_X12_offcuts R2' I J Fr1 (fun h2 R2'' ke2 => ?_))
  refine v_icmp_eq 3031 2689 dL_law_2686 (by decide) rfl (fun c2686 => ?_) (fun c2686 => ?_)
  · refine VV.less (Nat.le_refl _) (by omega) (by omega) (K _ _ _ _ _ ⟨R1'.te (fun t ht => ke2.1 t (by omega)), R2'', (I.m (Nat.le_succ N)), J, ke2.2 Fr1, by rw [(ke2.1 80 (by omega)).2.1]; exact l1, by rw [(ke2.1 81 (by omega)).2.1]; exact m1⟩)
  · exact absurd rfl c2686
set_option maxRecDepth 20000 in
theorem W_35 {G : GW} {Q : RS → PH → Prop} {S : SP} {N j k n : Nat} {h : PH} {z6 z7 z8 : Option PV} (hL : gw_L G ≤ 3072) (hj : 6 * j + 6 ≤ gw_L G) (L9 : lw_I S N h) (hN : N ≤ 600) (K : ∀ S' h' z6 z7 z8, lw_I S' (N + 1) h' → VV G 13 k n yL_law cL_law 9 (some .boolean) [] 3031 [some (pv_O (7, 0)), some (pv_O (10, 0)), some (pv_O (40, 0)), some (pv_O (80, 0)), some (pv_O (81, 0)), some (pv_I (nI (6 * j))), z6, z7, z8] [] h' Q) : VV G 13 (k + 1150) (n + 14040) yL_law cL_law 9 (some .boolean) [] 2691 [some (pv_O (7, 0)), some (pv_O (10, 0)), some (pv_O (40, 0)), some (pv_O (80, 0)), some (pv_O (81, 0)), some (pv_I (nI (6 * j))), z6, z7, z8] [] h Q := by
  obtain ⟨R1, R2, I, J, Fr, l80, l81⟩ := L9
  refine v_aload_n 2692 dL_law_2691 rfl rfl ?_
  refine v_aload_n 2693 dL_law_2692 rfl rfl ?_
  refine v_iload 2695 dL_law_2693 rfl rfl ?_
  refine v_iconstv (v := 1) 2696 dL_law_2695 (by decide) rfl ?_
  refine v_iadd 2697 dL_law_2696 rfl ?_
  rw [show nI (6 * j) + 1 = nI (6 * j + 1) from nI_add (6 * j) 1]
  refine VV.know (fun ho9 _ _ => ?_)
  refine v_iald 2698 dL_law_2697 (by first | assumption | rfl) (by rw [ho9.2.2.2.2.2.2.2.2.1]; exact in_nI (by omega) (by omega)) rfl ?_
  rw [nI_clamp (by omega), ho9.2.2.2.2.2.2.2.2.2]
  refine v_aload_n 2699 dL_law_2698 rfl rfl ?_
  refine v_iload 2701 dL_law_2699 rfl rfl ?_
  refine v_iconstv (v := 2) 2702 dL_law_2701 (by decide) rfl ?_
  refine v_iadd 2703 dL_law_2702 rfl ?_
  rw [show nI (6 * j) + 2 = nI (6 * j + 2) from nI_add (6 * j) 2]
  refine VV.know (fun ho9 _ _ => ?_)
  refine v_iald 2704 dL_law_2703 (by first | assumption | rfl) (by rw [ho9.2.2.2.2.2.2.2.2.1]; exact in_nI (by omega) (by omega)) rfl ?_
  rw [nI_clamp (by omega), ho9.2.2.2.2.2.2.2.2.2]
  refine v_aload_n 2705 dL_law_2704 rfl rfl ?_
  refine v_invsW (d' := 9) (k' := 2) (n' := 12) (k2 := k + 1148) (n2 := n + 14028) 2708 [_, _, _, _] dL_law_2705 lk_L_279 md_L_takeOffcut ms_L_takeOffcut rfl rfl (of_decide_eq_true rfl) rfl (by decide) rfl rfl rfl rfl (C_L_takeOffcut R1 I  l80 (fun h1 R1' te1 l1 b1 v1 => ?_))
  have R2' : Rp2 S h1 := R2.te (fun t ht => te1 t (by omega) (by omega))
  have Fr1 : fr_s h1 := (fun t a b => (Fr t a b).te (te1 t (by omega) (by omega)))
  have m1 : hp_ln h1 81 0 = 1 := by rw [(te1 81 (by omega) (by decide)).2.1]; exact l81
  show VV G 13 (k + 1148) (n + 14028) yL_law cL_law 9 (some .boolean) [] 2708 _ _ h1 Q
  refine v_istore 2710 dL_law_2708 (by decide) rfl rfl ?_
  dsimp only [List.set]
  refine v_aload_n 2711 dL_law_2710 rfl rfl ?_
  refine v_aload_n 2712 dL_law_2711 rfl rfl ?_
  refine v_iload 2714 dL_law_2712 rfl rfl ?_
  refine v_iconstv (v := 1) 2715 dL_law_2714 (by decide) rfl ?_
  refine v_iadd 2716 dL_law_2715 rfl ?_
  rw [show nI (6 * j) + 1 = nI (6 * j + 1) from nI_add (6 * j) 1]
  refine VV.know (fun ho9 _ _ => ?_)
  refine v_iald 2717 dL_law_2716 (by first | assumption | rfl) (by rw [ho9.2.2.2.2.2.2.2.2.1]; exact in_nI (by omega) (by omega)) rfl ?_
  rw [nI_clamp (by omega), ho9.2.2.2.2.2.2.2.2.2]
  refine v_aload_n 2718 dL_law_2717 rfl rfl ?_
  refine v_iload 2720 dL_law_2718 rfl rfl ?_
  refine v_iconstv (v := 2) 2721 dL_law_2720 (by decide) rfl ?_
  refine v_iadd 2722 dL_law_2721 rfl ?_
  rw [show nI (6 * j) + 2 = nI (6 * j + 2) from nI_add (6 * j) 2]
  refine VV.know (fun ho9 _ _ => ?_)
  refine v_iald 2723 dL_law_2722 (by first | assumption | rfl) (by rw [ho9.2.2.2.2.2.2.2.2.1]; exact in_nI (by omega) (by omega)) rfl ?_
  rw [nI_clamp (by omega), ho9.2.2.2.2.2.2.2.2.2]
  refine v_invv (d' := 9) (k' := 0) (n' := 0) (k2 := (k + 1148)) (n2 := (n + 14028)) 2726 [_, _] dL_law_2723 mt_L_281 mi_X12_takeOffcut me_X12_takeOffcut (by first | assumption | rfl) (by rfl) rfl rfl (of_decide_eq_true rfl) rfl (by decide) rfl rfl rfl rfl (C_X12_takeOffcut R2' I J (fun v2 h2 e2 R2'' c2 ke2 => ?_))
  refine v_istore 2728 dL_law_2726 (by decide) rfl rfl ?_
  dsimp only [List.set]
  refine v_aload_n 2729 dL_law_2728 rfl rfl ?_
  refine v_invv (d' := 0) (k' := 0) (n' := 0) (k2 := (k + 1148)) (n2 := (n + 14028)) 2732 [] dL_law_2729 mt_L_162 mi_X12_thrown me_X12_thrown (by first | assumption | rfl) (by rfl) rfl rfl (of_decide_eq_true rfl) rfl (by decide) rfl rfl rfl rfl (C_X12_thrown ?_)
  rw [c2]
  refine v_iload 2734 dL_law_2732 rfl rfl ?_
  refine v_icmp_eq 2739 2737 dL_law_2734 (by decide) rfl (fun c2734 => ?_) (fun c2734 => ?_)
  · refine v_iload 2741 dL_law_2739 rfl rfl ?_
    refine v_if_ne 2756 2744 dL_law_2741 (by decide) rfl (fun c2741 => ?_) (fun c2741 => ?_)
    · refine v_goto 3031 dL_law_2756 (by decide) ?_
      refine VV.less (Nat.le_refl _) (by omega) (by omega) (K _ _ _ _ _ ⟨R1'.te (fun t ht => ke2.1 t (by omega)), R2'', (iv_take I), (j2_take J), ke2.2 Fr1, by rw [(ke2.1 80 (by omega)).2.1]; exact l1, by rw [(ke2.1 81 (by omega)).2.1]; exact m1⟩)
    · have hc := nz_3 b1 c2741
      refine v_aload_n 2745 dL_law_2744 rfl rfl ?_
      refine v_iconstv (v := 0) 2746 dL_law_2745 (by decide) rfl ?_
      refine v_lald 2747 dL_law_2746 (by first | assumption | rfl) (by rw [(ke2.1 80 (by omega)).2.1, l1]; exact in_nI (m := 0) (by decide) (by decide)) rfl ?_
      rw [show Int32.toNatClampNeg 0 = 0 from rfl, (ke2.1 80 (by omega)).2.2.2.2.1, v1 hc, e2 hc]
      refine v_iload 2749 dL_law_2747 rfl rfl ?_
      refine v_i2l 2750 dL_law_2749 rfl ?_
      refine v_lcmp 2751 dL_law_2750 rfl ?_
      rw [cmp_s]
      refine v_if_eq 2756 2754 dL_law_2751 (by decide) rfl (fun c2751 => ?_) (fun c2751 => ?_)
      · refine v_goto 3031 dL_law_2756 (by decide) ?_
        refine VV.less (Nat.le_refl _) (by omega) (by omega) (K _ _ _ _ _ ⟨R1'.te (fun t ht => ke2.1 t (by omega)), R2'', (iv_take I), (j2_take J), ke2.2 Fr1, by rw [(ke2.1 80 (by omega)).2.1]; exact l1, by rw [(ke2.1 81 (by omega)).2.1]; exact m1⟩)
      · exact absurd rfl c2751
  · exact absurd rfl c2734
set_option maxRecDepth 20000 in
theorem W_36 {G : GW} {Q : RS → PH → Prop} {S : SP} {N j k n : Nat} {h : PH} {z6 z7 z8 : Option PV} (hL : gw_L G ≤ 3072) (hj : 6 * j + 6 ≤ gw_L G) (L9 : lw_I S N h) (hN : N ≤ 600) (K : ∀ S' h' z6 z7 z8, lw_I S' (N + 1) h' → VV G 13 k n yL_law cL_law 9 (some .boolean) [] 3031 [some (pv_O (7, 0)), some (pv_O (10, 0)), some (pv_O (40, 0)), some (pv_O (80, 0)), some (pv_O (81, 0)), some (pv_I (nI (6 * j))), z6, z7, z8] [] h' Q) : VV G 13 (k + 1150) (n + 14040) yL_law cL_law 9 (some .boolean) [] 2759 [some (pv_O (7, 0)), some (pv_O (10, 0)), some (pv_O (40, 0)), some (pv_O (80, 0)), some (pv_O (81, 0)), some (pv_I (nI (6 * j))), z6, z7, z8] [] h Q := by
  obtain ⟨R1, R2, I, J, Fr, l80, l81⟩ := L9
  refine v_aload_n 2760 dL_law_2759 rfl rfl ?_
  refine v_aload_n 2761 dL_law_2760 rfl rfl ?_
  refine v_iload 2763 dL_law_2761 rfl rfl ?_
  refine v_iconstv (v := 1) 2764 dL_law_2763 (by decide) rfl ?_
  refine v_iadd 2765 dL_law_2764 rfl ?_
  rw [show nI (6 * j) + 1 = nI (6 * j + 1) from nI_add (6 * j) 1]
  refine VV.know (fun ho9 _ _ => ?_)
  refine v_iald 2766 dL_law_2765 (by first | assumption | rfl) (by rw [ho9.2.2.2.2.2.2.2.2.1]; exact in_nI (by omega) (by omega)) rfl ?_
  rw [nI_clamp (by omega), ho9.2.2.2.2.2.2.2.2.2]
  refine v_i2c 2767 dL_law_2766 rfl ?_
  refine v_aload_n 2768 dL_law_2767 rfl rfl ?_
  refine v_invsW (d' := 7) (k' := 1) (n' := 6) (k2 := k + 1149) (n2 := n + 14034) 2771 [_, _, _] dL_law_2768 lk_L_282 md_L_account ms_L_account rfl rfl (of_decide_eq_true rfl) rfl (by decide) rfl rfl rfl rfl (C_L_account R1 I  l80 (fun h1 R1' te1 l1 b1 v1 => ?_))
  have R2' : Rp2 S h1 := R2.te (fun t ht => te1 t (by omega) (by omega))
  have Fr1 : fr_s h1 := (fun t a b => (Fr t a b).te (te1 t (by omega) (by omega)))
  have m1 : hp_ln h1 81 0 = 1 := by rw [(te1 81 (by omega) (by decide)).2.1]; exact l81
  show VV G 13 (k + 1149) (n + 14034) yL_law cL_law 9 (some .boolean) [] 2771 _ _ h1 Q
  refine v_istore 2773 dL_law_2771 (by decide) rfl rfl ?_
  dsimp only [List.set]
  refine v_aload_n 2774 dL_law_2773 rfl rfl ?_
  refine v_aload_n 2775 dL_law_2774 rfl rfl ?_
  refine v_iload 2777 dL_law_2775 rfl rfl ?_
  refine v_iconstv (v := 1) 2778 dL_law_2777 (by decide) rfl ?_
  refine v_iadd 2779 dL_law_2778 rfl ?_
  rw [show nI (6 * j) + 1 = nI (6 * j + 1) from nI_add (6 * j) 1]
  refine VV.know (fun ho9 _ _ => ?_)
  refine v_iald 2780 dL_law_2779 (by first | assumption | rfl) (by rw [ho9.2.2.2.2.2.2.2.2.1]; exact in_nI (by omega) (by omega)) rfl ?_
  rw [nI_clamp (by omega), ho9.2.2.2.2.2.2.2.2.2]
  refine v_i2c 2781 dL_law_2780 rfl ?_
  refine v_invv (d' := 9) (k' := 3) (n' := 15) (k2 := (k + 1146)) (n2 := (n + 14019)) 2784 [_] dL_law_2781 mt_L_285 mi_X12_account me_X12_account (by first | assumption | rfl) (by rfl) rfl rfl (of_decide_eq_true rfl) rfl (by decide) rfl rfl rfl rfl (C_X12_account R2' I J Fr1 (cr_ _) (fun v2 h2 e2 R2'' c2 ke2 => ?_))
  refine v_istore 2786 dL_law_2784 (by decide) rfl rfl ?_
  dsimp only [List.set]
  refine v_aload_n 2787 dL_law_2786 rfl rfl ?_
  refine v_invv (d' := 0) (k' := 0) (n' := 0) (k2 := (k + 1146)) (n2 := (n + 14019)) 2790 [] dL_law_2787 mt_L_162 mi_X12_thrown me_X12_thrown (by first | assumption | rfl) (by rfl) rfl rfl (of_decide_eq_true rfl) rfl (by decide) rfl rfl rfl rfl (C_X12_thrown ?_)
  rw [c2]
  refine v_iload 2792 dL_law_2790 rfl rfl ?_
  refine v_icmp_eq 2797 2795 dL_law_2792 (by decide) rfl (fun c2792 => ?_) (fun c2792 => ?_)
  · refine v_iload 2799 dL_law_2797 rfl rfl ?_
    refine v_if_ne 2814 2802 dL_law_2799 (by decide) rfl (fun c2799 => ?_) (fun c2799 => ?_)
    · refine v_goto 3031 dL_law_2814 (by decide) ?_
      refine VV.less (Nat.le_refl _) (by omega) (by omega) (K _ _ _ _ _ ⟨R1'.te (fun t ht => ke2.1 t (by omega)), R2'', (I.m (Nat.le_succ N)), J, ke2.2 Fr1, by rw [(ke2.1 80 (by omega)).2.1]; exact l1, by rw [(ke2.1 81 (by omega)).2.1]; exact m1⟩)
    · have hc := nz_3 b1 c2799
      refine v_aload_n 2803 dL_law_2802 rfl rfl ?_
      refine v_iconstv (v := 0) 2804 dL_law_2803 (by decide) rfl ?_
      refine v_lald 2805 dL_law_2804 (by first | assumption | rfl) (by rw [(ke2.1 80 (by omega)).2.1, l1]; exact in_nI (m := 0) (by decide) (by decide)) rfl ?_
      rw [show Int32.toNatClampNeg 0 = 0 from rfl, (ke2.1 80 (by omega)).2.2.2.2.1, v1 hc, e2 hc]
      refine v_iload 2807 dL_law_2805 rfl rfl ?_
      refine v_i2l 2808 dL_law_2807 rfl ?_
      refine v_lcmp 2809 dL_law_2808 rfl ?_
      rw [cmp_s]
      refine v_if_eq 2814 2812 dL_law_2809 (by decide) rfl (fun c2809 => ?_) (fun c2809 => ?_)
      · refine v_goto 3031 dL_law_2814 (by decide) ?_
        refine VV.less (Nat.le_refl _) (by omega) (by omega) (K _ _ _ _ _ ⟨R1'.te (fun t ht => ke2.1 t (by omega)), R2'', (I.m (Nat.le_succ N)), J, ke2.2 Fr1, by rw [(ke2.1 80 (by omega)).2.1]; exact l1, by rw [(ke2.1 81 (by omega)).2.1]; exact m1⟩)
      · exact absurd rfl c2809
  · exact absurd rfl c2792
set_option maxRecDepth 20000 in
theorem W_37 {G : GW} {Q : RS → PH → Prop} {S : SP} {N j k n : Nat} {h : PH} {z6 z7 z8 : Option PV} (hL : gw_L G ≤ 3072) (hj : 6 * j + 6 ≤ gw_L G) (L9 : lw_I S N h) (hN : N ≤ 600) (K : ∀ S' h' z6 z7 z8, lw_I S' (N + 1) h' → VV G 13 k n yL_law cL_law 9 (some .boolean) [] 3031 [some (pv_O (7, 0)), some (pv_O (10, 0)), some (pv_O (40, 0)), some (pv_O (80, 0)), some (pv_O (81, 0)), some (pv_I (nI (6 * j))), z6, z7, z8] [] h' Q) : VV G 13 (k + 1150) (n + 14040) yL_law cL_law 9 (some .boolean) [] 2817 [some (pv_O (7, 0)), some (pv_O (10, 0)), some (pv_O (40, 0)), some (pv_O (80, 0)), some (pv_O (81, 0)), some (pv_I (nI (6 * j))), z6, z7, z8] [] h Q := by
  obtain ⟨R1, R2, I, J, Fr, l80, l81⟩ := L9
  refine v_aload_n 2818 dL_law_2817 rfl rfl ?_
  refine v_aload_n 2819 dL_law_2818 rfl rfl ?_
  refine v_iload 2821 dL_law_2819 rfl rfl ?_
  refine v_iconstv (v := 1) 2822 dL_law_2821 (by decide) rfl ?_
  refine v_iadd 2823 dL_law_2822 rfl ?_
  rw [show nI (6 * j) + 1 = nI (6 * j + 1) from nI_add (6 * j) 1]
  refine VV.know (fun ho9 _ _ => ?_)
  refine v_iald 2824 dL_law_2823 (by first | assumption | rfl) (by rw [ho9.2.2.2.2.2.2.2.2.1]; exact in_nI (by omega) (by omega)) rfl ?_
  rw [nI_clamp (by omega), ho9.2.2.2.2.2.2.2.2.2]
  refine v_aload_n 2825 dL_law_2824 rfl rfl ?_
  refine v_invsW (d' := 8) (k' := 1) (n' := 6) (k2 := k + 1149) (n2 := n + 14034) 2828 [_, _, _] dL_law_2825 lk_L_286 md_L_price ms_L_price rfl rfl (of_decide_eq_true rfl) rfl (by decide) rfl rfl rfl rfl (C_L_price R1 I  l80 (fun h1 R1' te1 l1 b1 v1 => ?_))
  have R2' : Rp2 S h1 := R2.te (fun t ht => te1 t (by omega) (by omega))
  have Fr1 : fr_s h1 := (fun t a b => (Fr t a b).te (te1 t (by omega) (by omega)))
  have m1 : hp_ln h1 81 0 = 1 := by rw [(te1 81 (by omega) (by decide)).2.1]; exact l81
  show VV G 13 (k + 1149) (n + 14034) yL_law cL_law 9 (some .boolean) [] 2828 _ _ h1 Q
  refine v_istore 2830 dL_law_2828 (by decide) rfl rfl ?_
  dsimp only [List.set]
  refine v_aload_n 2831 dL_law_2830 rfl rfl ?_
  refine v_aload_n 2832 dL_law_2831 rfl rfl ?_
  refine v_iload 2834 dL_law_2832 rfl rfl ?_
  refine v_iconstv (v := 1) 2835 dL_law_2834 (by decide) rfl ?_
  refine v_iadd 2836 dL_law_2835 rfl ?_
  rw [show nI (6 * j) + 1 = nI (6 * j + 1) from nI_add (6 * j) 1]
  refine VV.know (fun ho9 _ _ => ?_)
  refine v_iald 2837 dL_law_2836 (by first | assumption | rfl) (by rw [ho9.2.2.2.2.2.2.2.2.1]; exact in_nI (by omega) (by omega)) rfl ?_
  rw [nI_clamp (by omega), ho9.2.2.2.2.2.2.2.2.2]
  refine v_invv (d' := 9) (k' := 0) (n' := 0) (k2 := (k + 1149)) (n2 := (n + 14034)) 2840 [_] dL_law_2837 mt_L_288 mi_X12_price me_X12_price (by first | assumption | rfl) (by rfl) rfl rfl (of_decide_eq_true rfl) rfl (by decide) rfl rfl rfl rfl (C_X12_price R2' I  (fun v2 h2 e2 R2'' c2 ke2 => ?_))
  refine v_istore 2842 dL_law_2840 (by decide) rfl rfl ?_
  dsimp only [List.set]
  refine v_aload_n 2843 dL_law_2842 rfl rfl ?_
  refine v_invv (d' := 0) (k' := 0) (n' := 0) (k2 := (k + 1149)) (n2 := (n + 14034)) 2846 [] dL_law_2843 mt_L_162 mi_X12_thrown me_X12_thrown (by first | assumption | rfl) (by rfl) rfl rfl (of_decide_eq_true rfl) rfl (by decide) rfl rfl rfl rfl (C_X12_thrown ?_)
  rw [c2]
  refine v_iload 2848 dL_law_2846 rfl rfl ?_
  refine v_icmp_eq 2853 2851 dL_law_2848 (by decide) rfl (fun c2848 => ?_) (fun c2848 => ?_)
  · refine v_iload 2855 dL_law_2853 rfl rfl ?_
    refine v_if_ne 2870 2858 dL_law_2855 (by decide) rfl (fun c2855 => ?_) (fun c2855 => ?_)
    · refine v_goto 3031 dL_law_2870 (by decide) ?_
      refine VV.less (Nat.le_refl _) (by omega) (by omega) (K _ _ _ _ _ ⟨R1'.te (fun t ht => ke2.1 t (by omega)), R2'', (I.m (Nat.le_succ N)), J, ke2.2 Fr1, by rw [(ke2.1 80 (by omega)).2.1]; exact l1, by rw [(ke2.1 81 (by omega)).2.1]; exact m1⟩)
    · have hc := nz_3 b1 c2855
      refine v_aload_n 2859 dL_law_2858 rfl rfl ?_
      refine v_iconstv (v := 0) 2860 dL_law_2859 (by decide) rfl ?_
      refine v_lald 2861 dL_law_2860 (by first | assumption | rfl) (by rw [(ke2.1 80 (by omega)).2.1, l1]; exact in_nI (m := 0) (by decide) (by decide)) rfl ?_
      rw [show Int32.toNatClampNeg 0 = 0 from rfl, (ke2.1 80 (by omega)).2.2.2.2.1, v1 hc, e2 hc]
      refine v_iload 2863 dL_law_2861 rfl rfl ?_
      refine v_i2l 2864 dL_law_2863 rfl ?_
      refine v_lcmp 2865 dL_law_2864 rfl ?_
      rw [cmp_s]
      refine v_if_eq 2870 2868 dL_law_2865 (by decide) rfl (fun c2865 => ?_) (fun c2865 => ?_)
      · refine v_goto 3031 dL_law_2870 (by decide) ?_
        refine VV.less (Nat.le_refl _) (by omega) (by omega) (K _ _ _ _ _ ⟨R1'.te (fun t ht => ke2.1 t (by omega)), R2'', (I.m (Nat.le_succ N)), J, ke2.2 Fr1, by rw [(ke2.1 80 (by omega)).2.1]; exact l1, by rw [(ke2.1 81 (by omega)).2.1]; exact m1⟩)
      · exact absurd rfl c2865
  · exact absurd rfl c2848
set_option maxRecDepth 20000 in
theorem W_40 {G : GW} {Q : RS → PH → Prop} {S : SP} {N j k n : Nat} {h : PH} {z6 z7 z8 : Option PV} (hL : gw_L G ≤ 3072) (hj : 6 * j + 6 ≤ gw_L G) (L9 : lw_I S N h) (hN : N ≤ 600) (K : ∀ S' h' z6 z7 z8, lw_I S' (N + 1) h' → VV G 13 k n yL_law cL_law 9 (some .boolean) [] 3031 [some (pv_O (7, 0)), some (pv_O (10, 0)), some (pv_O (40, 0)), some (pv_O (80, 0)), some (pv_O (81, 0)), some (pv_I (nI (6 * j))), z6, z7, z8] [] h' Q) : VV G 13 (k + 1150) (n + 14040) yL_law cL_law 9 (some .boolean) [] 3004 [some (pv_O (7, 0)), some (pv_O (10, 0)), some (pv_O (40, 0)), some (pv_O (80, 0)), some (pv_O (81, 0)), some (pv_I (nI (6 * j))), z6, z7, z8] [] h Q := by
  obtain ⟨R1, R2, I, J, Fr, l80, l81⟩ := L9
  refine v_aload_n 3005 dL_law_3004 rfl rfl ?_
  refine v_invv (d' := 3) (k' := 0) (n' := 0) (k2 := (k + 1150)) (n2 := (n + 14040)) 3008 [] dL_law_3005 mt_L_296 mi_X6_checksum me_X6_checksum (by first | assumption | rfl) (by rfl) rfl rfl (of_decide_eq_true rfl) rfl (by decide) rfl rfl rfl rfl (C_X6_checksum R1 I ?_)
  have h1e : ∃ h1, h1 = h := ⟨h, rfl⟩
  obtain ⟨h1, rfl⟩ := h1e
  have R1' := R1
  have te1 : ∀ t, t < 10 ∨ 40 ≤ t → ¬ t = 80 → hp_te h1 h1 t := fun _ _ _ => hp_te.rf
  have l1 := l80
  have R2' : Rp2 S h1 := R2.te (fun t ht => te1 t (by omega) (by omega))
  have Fr1 : fr_s h1 := (fun t a b => (Fr t a b).te (te1 t (by omega) (by omega)))
  have m1 : hp_ln h1 81 0 = 1 := by rw [(te1 81 (by omega) (by decide)).2.1]; exact l81
  
  refine v_aload_n 3009 dL_law_3008 rfl rfl ?_
  refine v_invv (d' := 9) (k' := 519) (n' := 12564) (k2 := (k + 631)) (n2 := (n + 1476)) 3012 [] dL_law_3009 mt_L_300 mi_X12_checksum me_X12_checksum (by first | assumption | rfl) (by rfl) rfl rfl (of_decide_eq_true rfl) rfl (by decide) rfl rfl rfl rfl (C_X12_checksum R2' I Fr1 (fun h2 R2'' ke2 => ?_))
  refine v_lcmp 3013 dL_law_3012 rfl ?_
  rw [cmp_s]
  refine v_if_eq 3031 3016 dL_law_3013 (by decide) rfl (fun c3013 => ?_) (fun c3013 => ?_)
  · refine VV.less (Nat.le_refl _) (by omega) (by omega) (K _ _ _ _ _ ⟨R1'.te (fun t ht => ke2.1 t (by omega)), R2'', (I.m (Nat.le_succ N)), J, ke2.2 Fr1, by rw [(ke2.1 80 (by omega)).2.1]; exact l1, by rw [(ke2.1 81 (by omega)).2.1]; exact m1⟩)
  · exact absurd rfl c3013
set_option maxRecDepth 20000 in
theorem W_41 {G : GW} {Q : RS → PH → Prop} {S : SP} {N j k n : Nat} {h : PH} {z6 z7 z8 : Option PV} (hL : gw_L G ≤ 3072) (hj : 6 * j + 6 ≤ gw_L G) (L9 : lw_I S N h) (hN : N ≤ 600) (K : ∀ S' h' z6 z7 z8, lw_I S' (N + 1) h' → VV G 13 k n yL_law cL_law 9 (some .boolean) [] 3031 [some (pv_O (7, 0)), some (pv_O (10, 0)), some (pv_O (40, 0)), some (pv_O (80, 0)), some (pv_O (81, 0)), some (pv_I (nI (6 * j))), z6, z7, z8] [] h' Q) : VV G 13 (k + 1150) (n + 14040) yL_law cL_law 9 (some .boolean) [] 3018 [some (pv_O (7, 0)), some (pv_O (10, 0)), some (pv_O (40, 0)), some (pv_O (80, 0)), some (pv_O (81, 0)), some (pv_I (nI (6 * j))), z6, z7, z8] [] h Q := by
  obtain ⟨R1, R2, I, J, Fr, l80, l81⟩ := L9
  refine v_aload_n 3019 dL_law_3018 rfl rfl ?_
  refine v_invv (d' := 6) (k' := 0) (n' := 0) (k2 := (k + 1150)) (n2 := (n + 14040)) 3022 [] dL_law_3019 mt_L_301 mi_X6_isTrue me_X6_isTrue (by first | assumption | rfl) (by rfl) rfl rfl (of_decide_eq_true rfl) rfl (by decide) rfl rfl rfl rfl (C_X6_isTrue R1 I ?_)
  have h1e : ∃ h1, h1 = h := ⟨h, rfl⟩
  obtain ⟨h1, rfl⟩ := h1e
  have R1' := R1
  have te1 : ∀ t, t < 10 ∨ 40 ≤ t → ¬ t = 80 → hp_te h1 h1 t := fun _ _ _ => hp_te.rf
  have l1 := l80
  have R2' : Rp2 S h1 := R2.te (fun t ht => te1 t (by omega) (by omega))
  have Fr1 : fr_s h1 := (fun t a b => (Fr t a b).te (te1 t (by omega) (by omega)))
  have m1 : hp_ln h1 81 0 = 1 := by rw [(te1 81 (by omega) (by decide)).2.1]; exact l81
  
  refine v_aload_n 3023 dL_law_3022 rfl rfl ?_
  refine v_invv (d' := 9) (k' := 0) (n' := 0) (k2 := (k + 1150)) (n2 := (n + 14040)) 3026 [] dL_law_3023 mt_L_305 mi_X12_isTrue me_X12_isTrue (by first | assumption | rfl) (by rfl) rfl rfl (of_decide_eq_true rfl) rfl (by decide) rfl rfl rfl rfl (C_X12_isTrue R2' I  (fun h2 R2'' ke2 => ?_))
  refine v_icmp_eq 3031 3029 dL_law_3026 (by decide) rfl (fun c3026 => ?_) (fun c3026 => ?_)
  · refine VV.less (Nat.le_refl _) (by omega) (by omega) (K _ _ _ _ _ ⟨R1'.te (fun t ht => ke2.1 t (by omega)), R2'', (I.m (Nat.le_succ N)), J, ke2.2 Fr1, by rw [(ke2.1 80 (by omega)).2.1]; exact l1, by rw [(ke2.1 81 (by omega)).2.1]; exact m1⟩)
  · exact absurd rfl c3026
