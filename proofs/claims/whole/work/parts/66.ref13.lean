theorem ni_m1 {b : Nat} (h : b < 2 ^ 31) : ¬ nI b = -1 := fun e => by
  have e1 := congrArg Int32.toInt e
  rw [nI_toInt h] at e1
  have e2 : (-1 : Int32).toInt = -1 := rfl
  omega
theorem C_rm {G : GW} {h : PH} {Q : RS → PH → Prop} {m tl ta n : Nat} {f : Nat → RN} (htl : tg_k tl = some (.inl 3)) (hta : tg_k ta = some (.inr g_O)) (q : q_l h tl ta n f) (h10 : 10 ≤ tl) (h11 : 10 ≤ ta) (hne : ta ≠ tl) (h51 : tl ≠ 5) (h52 : ta ≠ 5) (hm : m < n) (hel : ∀ k, k < n → f k = (0, 0) ∨ ob_ok (f k).1) (hq : ∀ h', q_l h' tl ta (n - 1) (fun k => if k < m then f k else f (k + 1)) → (∀ t, t ≠ tl → t ≠ ta → hp_te h h' t) → Q (.inl (some (pv_O (f m)))) h') : VV G 2 0 0 yJx4a65c_remove_915e3 cJx4a65c_remove_915e3 4 (some (.object "java/lang/Object")) [] 0 (vv_en 4 [pv_O (tl, 0), pv_I (nI m)]) [] h Q := by
  obtain ⟨cap, L⟩ := q
  exact C_Jx4a65c_remove_915e3 htl hta L h10 h11 hne h51 h52 hm hel (fun h' L' te' _ => hq h' ⟨cap, L'⟩ te')
theorem Rp2.rm {S : SP} {h h' : PH} {b : Nat} (R : Rp2 S h) (te : ∀ t, t ≠ 54 → t ≠ 60 → hp_te h h' t) (L : q_l h' 54 60 (nn_ S 5 - 1) (fun k => if k < b then (45, S.2.2 k) else (45, S.2.2 (k + 1)))) : Rp2 (S.1, c_up S.2.1 5 (nn_ S 5 - 1), fun k => if k < b then S.2.2 k else S.2.2 (k + 1)) h' := by
  obtain ⟨L0, L1, L2, L3, L4, L5⟩ := R.2.1
  have T : ∀ t, t ≠ 54 ∧ t ≠ 60 → hp_te h h' t := fun t q => te t q.1 q.2
  exact R.ls rfl (fun t ht => T t (by omega)) ⟨L0.te (T _ (by decide)) (T _ (by decide)) (T _ (by decide)), L1.te (T _ (by decide)) (T _ (by decide)) (T _ (by decide)), L2.te (T _ (by decide)) (T _ (by decide)) (T _ (by decide)), (L3.te (T _ (by decide)) (T _ (by decide)) (T _ (by decide))).f (fun k hk => by show _ = (4, c_up S.2.1 5 (nn_ S 5 - 1) (10 + k) + 128); rw [c_ne (by omega)]), L.f (fun k hk => by show _ = (45, if k < b then S.2.2 k else S.2.2 (k + 1)); split <;> rfl), L5.te (T _ (by decide)) (T _ (by decide)) (T _ (by decide))⟩
set_option maxRecDepth 20000 in
theorem L_X12_takeOffcut {G : GW} {h : PH} {Q : RS → PH → Prop} {S : SP} {N : Nat} (R : Rp2 S h) (I : Iv S N) (J : J2 S) (e0 : hp_vi h 40 0 0 = 0) {w d : Int32} (hqN : bo_ S w d (nn_ S 5) = none → Q (.inl (some (pv_I (-1)))) (hp_seti h 40 0 0 2)) (hqS : ∀ b, bo_ S w d (nn_ S 5) = some b → ∀ h', Rp2 (tk_ S b) h' → hp_vi h' 40 0 0 = 0 → ke_ h h' → Q (.inl (some (pv_I (o_w S b)))) h') : ∀ fuel : Nat, ∀ (k : Nat) (o : Option Nat) (z5 z6 z7 : Option PV), k ≤ nn_ S 5 → nn_ S 5 - k < fuel → bo_ S w d k = o → VV G 9 0 0 yX12_takeOffcut cX12_takeOffcut 8 (some .int) [] 50 [some (pv_O (40, 0)), some (pv_I w), some (pv_I d), some (pv_I (bi_ o)), some (pv_I (nI k)), z5, z6, z7] [] h Q := by
  intro fuel
  induction fuel with
  | zero =>
    intro k o z5 z6 z7 h1 h2
    omega
  | succ fuel ih =>
    intro k o zz5 zz6 zz7 h1 h2 hb
    obtain ⟨z0, z1, z2, z3, z4, z5⟩ := I.cs
    cases o with
    | none =>
      rw [show bi_ none = (-1 : Int32) from rfl]
      refine v_iload 52 dX12_takeOffcut_50 rfl rfl ?_
      refine v_aload_n 53 dX12_takeOffcut_52 rfl rfl ?_
      refine v_getfr 56 dX12_takeOffcut_53 fl_X12_25 (by first | assumption | rfl) (by rfl) rfl ?_
      rw [R.1.1.2.2.2.2.2.1]
      refine v_invf (z := ("java/util/ArrayList", TJx4a65c, 3)) (d' := 0) (k' := 0) (n' := 0) (k2 := 0) (n2 := 0) 61 [] dX12_takeOffcut_56 mf_X12_38 md_Jx4a65c_size_8abf5 mi_Jx4a65c_size_8abf5 se_Jx4a65c_size_8abf5 (by simp [g_fw]; rfl) ⟨by decide, by decide +kernel⟩ (by first | assumption | rfl) (by rfl) rfl rfl (of_decide_eq_true rfl) rfl (by decide) rfl rfl rfl rfl (C_sz (tl := 54) (ta := 60) rfl rfl R.2.1.2.2.2.2.1 ?_)
      refine v_icmp_ge 204 64 dX12_takeOffcut_61 (by decide) rfl (fun c61 => ?_) (fun c61 => ?_)
      · have hkm : k = nn_ S 5 := by
          rcases Nat.lt_or_ge k (nn_ S 5) with q | q
          · exact absurd c61 (nI_ge q (by omega))
          · omega
        subst hkm
        refine v_aload_n 205 dX12_takeOffcut_204 rfl rfl ?_
        refine v_iload_n 206 dX12_takeOffcut_205 rfl rfl ?_
        refine v_iconstv (v := -1) 207 dX12_takeOffcut_206 (by decide) rfl ?_
        refine v_icmp_ne 214 210 dX12_takeOffcut_207 (by decide) rfl (fun c207 => ?_) (fun c207 => ?_)
        · exact absurd rfl c207
        · refine v_iconstv (v := 1) 211 dX12_takeOffcut_210 (by decide) rfl ?_
          refine v_goto 215 dX12_takeOffcut_211 (by decide) ?_
          refine v_iconstv (v := 2) 216 dX12_takeOffcut_215 (by decide) rfl ?_
          refine v_invv (d' := 0) (k' := 0) (n' := 0) (k2 := 0) (n2 := 0) 219 [_, _] dX12_takeOffcut_216 mt_X12_67 mi_X12_fails me_X12_fails (by first | assumption | rfl) (by rfl) rfl rfl (of_decide_eq_true rfl) rfl (by decide) rfl rfl rfl rfl (C_f1 e0 (by decide) ?_)
          refine v_if_eq 224 222 dX12_takeOffcut_219 (by decide) rfl (fun c219 => ?_) (fun c219 => ?_)
          · first | exact absurd c219 (by decide) | exact absurd rfl c219 | exact absurd (of_decide_eq_true rfl) c219
          · refine v_iconstv (v := -1) 223 dX12_takeOffcut_222 (by decide) rfl ?_
            refine v_ireturn dX12_takeOffcut_223 rfl ?_
            exact hqN hb
      · have hkm : k < nn_ S 5 := by
          rcases Nat.lt_or_ge k (nn_ S 5) with q | q
          · exact q
          · exact absurd (nI_le q (by omega)) c61
        refine v_aload_n 65 dX12_takeOffcut_64 rfl rfl ?_
        refine v_getfr 68 dX12_takeOffcut_65 fl_X12_25 (by first | assumption | rfl) (by rfl) rfl ?_
        rw [R.1.1.2.2.2.2.2.1]
        refine v_iload 70 dX12_takeOffcut_68 rfl rfl ?_
        refine v_invf (z := ("java/util/ArrayList", TJx4a65c, 3)) (d' := 2) (k' := 0) (n' := 0) (k2 := 0) (n2 := 0) 75 [_] dX12_takeOffcut_70 mf_X12_90 md_Jx4a65c_get_915e3 mi_Jx4a65c_get_915e3 se_Jx4a65c_get_915e3 (by simp [g_fw]; rfl) ⟨by decide, by decide +kernel⟩ (by first | assumption | rfl) (by rfl) rfl rfl (of_decide_eq_true rfl) rfl (by decide) rfl rfl rfl rfl (C_gt (tl := 54) (ta := 60) rfl rfl R.2.1.2.2.2.2.1 (ok_i.of hkm (by omega)) ?_)
        rw [show cl_ (nI k) = k from nI_clamp (by omega)]
        refine v_castI 78 dX12_takeOffcut_75 rfl cl_X12_359 rfl ?_
        refine v_astore 80 dX12_takeOffcut_78 (by decide) rfl rfl ?_
        dsimp only [List.set]
        refine v_aload 82 dX12_takeOffcut_80 rfl rfl ?_
        refine v_iconstv (v := 0) 83 dX12_takeOffcut_82 (by decide) rfl ?_
        refine v_iald 84 dX12_takeOffcut_83 (by first | assumption | rfl) (by rw [R.ln (t := 45) (by decide), J k (by omega)]; exact in_nI (m := 0) (by decide) (by decide)) rfl ?_
        rw [R.vi (t := 45) (by decide), show Int32.toNatClampNeg 0 = 0 from rfl]
        refine v_iload_n 85 dX12_takeOffcut_84 rfl rfl ?_
        refine v_icmp_lt 100 88 dX12_takeOffcut_85 (by decide) rfl (fun c85 => ?_) (fun c85 => ?_)
        · refine v_iconstv (v := 0) 101 dX12_takeOffcut_100 (by decide) rfl ?_
          refine v_istore 103 dX12_takeOffcut_101 (by decide) rfl rfl ?_
          dsimp only [List.set]
          refine v_iload_n 104 dX12_takeOffcut_103 rfl rfl ?_
          refine v_iconstv (v := -1) 105 dX12_takeOffcut_104 (by decide) rfl ?_
          refine v_icmp_eq 174 108 dX12_takeOffcut_105 (by decide) rfl (fun c105 => ?_) (fun c105 => ?_)
          · refine v_iconstv (v := 1) 175 dX12_takeOffcut_174 (by decide) rfl ?_
            refine v_goto 179 dX12_takeOffcut_175 (by decide) ?_
            refine v_istore 181 dX12_takeOffcut_179 (by decide) rfl rfl ?_
            dsimp only [List.set]
            refine v_iload 183 dX12_takeOffcut_181 rfl rfl ?_
            refine v_if_eq 196 186 dX12_takeOffcut_183 (by decide) rfl (fun c183 => ?_) (fun c183 => ?_)
            · refine v_iload_n 197 dX12_takeOffcut_196 rfl rfl ?_
              refine v_istore_n 198 dX12_takeOffcut_197 (by decide) rfl rfl ?_
              dsimp only [List.set]
              refine v_iinc 201 dX12_takeOffcut_198 rfl (by decide) rfl rfl ?_
              dsimp only [List.set]
              refine v_goto 50 dX12_takeOffcut_201 (by decide) ?_
              rw [show nI k + Int32.ofInt 1 = nI (k + 1) from nI_1 k]
              have er : bo_ S w d (k + 1) = none := Eq.trans (if_neg (fun q => by first | exact absurd q.1.1 (Int32.not_le.mpr c85) | exact absurd q.1.2 (Int32.not_le.mpr c93))) hb
              exact ih (k + 1) _ _ _ _ (by omega) (by omega) er
            · first | exact absurd c183 (by decide) | exact absurd rfl c183 | exact absurd (of_decide_eq_true rfl) c183
          · exact absurd rfl c105
        · refine v_aload 90 dX12_takeOffcut_88 rfl rfl ?_
          refine v_iconstv (v := 1) 91 dX12_takeOffcut_90 (by decide) rfl ?_
          refine v_iald 92 dX12_takeOffcut_91 (by first | assumption | rfl) (by rw [R.ln (t := 45) (by decide), J k (by omega)]; exact in_nI (m := 1) (by decide) (by decide)) rfl ?_
          rw [R.vi (t := 45) (by decide), show Int32.toNatClampNeg 1 = 1 from rfl]
          refine v_iload_n 93 dX12_takeOffcut_92 rfl rfl ?_
          refine v_icmp_lt 100 96 dX12_takeOffcut_93 (by decide) rfl (fun c93 => ?_) (fun c93 => ?_)
          · refine v_iconstv (v := 0) 101 dX12_takeOffcut_100 (by decide) rfl ?_
            refine v_istore 103 dX12_takeOffcut_101 (by decide) rfl rfl ?_
            dsimp only [List.set]
            refine v_iload_n 104 dX12_takeOffcut_103 rfl rfl ?_
            refine v_iconstv (v := -1) 105 dX12_takeOffcut_104 (by decide) rfl ?_
            refine v_icmp_eq 174 108 dX12_takeOffcut_105 (by decide) rfl (fun c105 => ?_) (fun c105 => ?_)
            · refine v_iconstv (v := 1) 175 dX12_takeOffcut_174 (by decide) rfl ?_
              refine v_goto 179 dX12_takeOffcut_175 (by decide) ?_
              refine v_istore 181 dX12_takeOffcut_179 (by decide) rfl rfl ?_
              dsimp only [List.set]
              refine v_iload 183 dX12_takeOffcut_181 rfl rfl ?_
              refine v_if_eq 196 186 dX12_takeOffcut_183 (by decide) rfl (fun c183 => ?_) (fun c183 => ?_)
              · refine v_iload_n 197 dX12_takeOffcut_196 rfl rfl ?_
                refine v_istore_n 198 dX12_takeOffcut_197 (by decide) rfl rfl ?_
                dsimp only [List.set]
                refine v_iinc 201 dX12_takeOffcut_198 rfl (by decide) rfl rfl ?_
                dsimp only [List.set]
                refine v_goto 50 dX12_takeOffcut_201 (by decide) ?_
                rw [show nI k + Int32.ofInt 1 = nI (k + 1) from nI_1 k]
                have er : bo_ S w d (k + 1) = none := Eq.trans (if_neg (fun q => by first | exact absurd q.1.1 (Int32.not_le.mpr c85) | exact absurd q.1.2 (Int32.not_le.mpr c93))) hb
                exact ih (k + 1) _ _ _ _ (by omega) (by omega) er
              · first | exact absurd c183 (by decide) | exact absurd rfl c183 | exact absurd (of_decide_eq_true rfl) c183
            · exact absurd rfl c105
          · refine v_iconstv (v := 1) 97 dX12_takeOffcut_96 (by decide) rfl ?_
            refine v_goto 101 dX12_takeOffcut_97 (by decide) ?_
            refine v_istore 103 dX12_takeOffcut_101 (by decide) rfl rfl ?_
            dsimp only [List.set]
            refine v_iload_n 104 dX12_takeOffcut_103 rfl rfl ?_
            refine v_iconstv (v := -1) 105 dX12_takeOffcut_104 (by decide) rfl ?_
            refine v_icmp_eq 174 108 dX12_takeOffcut_105 (by decide) rfl (fun c105 => ?_) (fun c105 => ?_)
            · refine v_iconstv (v := 1) 175 dX12_takeOffcut_174 (by decide) rfl ?_
              refine v_goto 179 dX12_takeOffcut_175 (by decide) ?_
              refine v_istore 181 dX12_takeOffcut_179 (by decide) rfl rfl ?_
              dsimp only [List.set]
              refine v_iload 183 dX12_takeOffcut_181 rfl rfl ?_
              refine v_if_eq 196 186 dX12_takeOffcut_183 (by decide) rfl (fun c183 => ?_) (fun c183 => ?_)
              · first | exact absurd c183 (by decide) | exact absurd rfl c183 | exact absurd (of_decide_eq_true rfl) c183
              · refine v_iload 188 dX12_takeOffcut_186 rfl rfl ?_
                refine v_if_eq 196 191 dX12_takeOffcut_188 (by decide) rfl (fun c188 => ?_) (fun c188 => ?_)
                · first | exact absurd c188 (by decide) | exact absurd rfl c188 | exact absurd (of_decide_eq_true rfl) c188
                · refine v_iload 193 dX12_takeOffcut_191 rfl rfl ?_
                  refine v_goto 197 dX12_takeOffcut_193 (by decide) ?_
                  refine v_istore_n 198 dX12_takeOffcut_197 (by decide) rfl rfl ?_
                  dsimp only [List.set]
                  refine v_iinc 201 dX12_takeOffcut_198 rfl (by decide) rfl rfl ?_
                  dsimp only [List.set]
                  refine v_goto 50 dX12_takeOffcut_201 (by decide) ?_
                  rw [show nI k + Int32.ofInt 1 = nI (k + 1) from nI_1 k]
                  have er : bo_ S w d (k + 1) = some k := if_pos ⟨⟨Int32.not_lt.mp c85, Int32.not_lt.mp c93⟩, fun b9 e9 => by rw [hb] at e9; cases e9⟩
                  exact ih (k + 1) _ _ _ _ (by omega) (by omega) er
            · exact absurd rfl c105
    | some b =>
      have hbk := bo_lt S w d k b hb
      rw [show bi_ (some b) = nI b from rfl]
      refine v_iload 52 dX12_takeOffcut_50 rfl rfl ?_
      refine v_aload_n 53 dX12_takeOffcut_52 rfl rfl ?_
      refine v_getfr 56 dX12_takeOffcut_53 fl_X12_25 (by first | assumption | rfl) (by rfl) rfl ?_
      rw [R.1.1.2.2.2.2.2.1]
      refine v_invf (z := ("java/util/ArrayList", TJx4a65c, 3)) (d' := 0) (k' := 0) (n' := 0) (k2 := 0) (n2 := 0) 61 [] dX12_takeOffcut_56 mf_X12_38 md_Jx4a65c_size_8abf5 mi_Jx4a65c_size_8abf5 se_Jx4a65c_size_8abf5 (by simp [g_fw]; rfl) ⟨by decide, by decide +kernel⟩ (by first | assumption | rfl) (by rfl) rfl rfl (of_decide_eq_true rfl) rfl (by decide) rfl rfl rfl rfl (C_sz (tl := 54) (ta := 60) rfl rfl R.2.1.2.2.2.2.1 ?_)
      refine v_icmp_ge 204 64 dX12_takeOffcut_61 (by decide) rfl (fun c61 => ?_) (fun c61 => ?_)
      · have hkm : k = nn_ S 5 := by
          rcases Nat.lt_or_ge k (nn_ S 5) with q | q
          · exact absurd c61 (nI_ge q (by omega))
          · omega
        subst hkm
        refine v_aload_n 205 dX12_takeOffcut_204 rfl rfl ?_
        refine v_iload_n 206 dX12_takeOffcut_205 rfl rfl ?_
        refine v_iconstv (v := -1) 207 dX12_takeOffcut_206 (by decide) rfl ?_
        refine v_icmp_ne 214 210 dX12_takeOffcut_207 (by decide) rfl (fun c207 => ?_) (fun c207 => ?_)
        · refine v_iconstv (v := 0) 215 dX12_takeOffcut_214 (by decide) rfl ?_
          refine v_iconstv (v := 2) 216 dX12_takeOffcut_215 (by decide) rfl ?_
          refine v_invv (d' := 0) (k' := 0) (n' := 0) (k2 := 0) (n2 := 0) 219 [_, _] dX12_takeOffcut_216 mt_X12_67 mi_X12_fails me_X12_fails (by first | assumption | rfl) (by rfl) rfl rfl (of_decide_eq_true rfl) rfl (by decide) rfl rfl rfl rfl (C_f0 e0 ?_)
          refine v_if_eq 224 222 dX12_takeOffcut_219 (by decide) rfl (fun c219 => ?_) (fun c219 => ?_)
          · refine v_aload_n 225 dX12_takeOffcut_224 rfl rfl ?_
            refine v_getfr 228 dX12_takeOffcut_225 fl_X12_25 (by first | assumption | rfl) (by rfl) rfl ?_
            rw [R.1.1.2.2.2.2.2.1]
            refine v_iload_n 229 dX12_takeOffcut_228 rfl rfl ?_
            refine v_invf (z := ("java/util/ArrayList", TJx4a65c, 3)) (d' := 2) (k' := 0) (n' := 0) (k2 := 0) (n2 := 0) 234 [_] dX12_takeOffcut_229 mf_X12_364 md_Jx4a65c_remove_915e3 mi_Jx4a65c_remove_915e3 se_Jx4a65c_remove_915e3 (by simp [g_fw]; rfl) ⟨by decide, by decide +kernel⟩ (by first | assumption | rfl) (by rfl) rfl rfl (of_decide_eq_true rfl) rfl (by decide) rfl rfl rfl rfl (C_rm (tl := 54) (ta := 60) (m := b) (f := fun k => (45, S.2.2 k)) rfl rfl R.2.1.2.2.2.2.1 (by decide) (by decide) (by decide) (by decide) (by decide) (by omega) (fun k hk => Or.inr ob_45) (fun h9 L9 te9 => ?_))
            have E45 := te9 45 (by decide) (by decide)
            refine v_castI 237 dX12_takeOffcut_234 rfl cl_X12_359 rfl ?_
            refine v_astore 239 dX12_takeOffcut_237 (by decide) rfl rfl ?_
            dsimp only [List.set]
            refine v_aload_n 240 dX12_takeOffcut_239 rfl rfl ?_
            refine v_dup 241 dX12_takeOffcut_240 rfl rfl ?_
            refine v_getfi 244 dX12_takeOffcut_241 fl_X12_367 (by first | assumption | rfl) (by rfl) rfl ?_
            rw [show hp_vi h9 40 0 6 = hp_vi S.1 40 0 6 from by rw [(te9 40 (by decide) (by decide)).2.2.1]; exact R.1.2 6 (by decide) (by decide)]
            refine v_aload 246 dX12_takeOffcut_244 rfl rfl ?_
            refine v_iconstv (v := 0) 247 dX12_takeOffcut_246 (by decide) rfl ?_
            refine v_iald 248 dX12_takeOffcut_247 (by first | assumption | rfl) (by show vp_in _ (hp_ln h9 45 (S.2.2 b)); rw [E45.2.1, R.ln (t := 45) (by decide), J b (by omega)]; exact in_nI (m := 0) (by decide) (by decide)) rfl ?_
            rw [E45.2.2.1, R.vi (t := 45) (by decide), show Int32.toNatClampNeg 0 = 0 from rfl]
            refine v_aload 250 dX12_takeOffcut_248 rfl rfl ?_
            refine v_iconstv (v := 1) 251 dX12_takeOffcut_250 (by decide) rfl ?_
            refine v_iald 252 dX12_takeOffcut_251 (by first | assumption | rfl) (by show vp_in _ (hp_ln h9 45 (S.2.2 b)); rw [E45.2.1, R.ln (t := 45) (by decide), J b (by omega)]; exact in_nI (m := 1) (by decide) (by decide)) rfl ?_
            rw [E45.2.2.1, R.vi (t := 45) (by decide), show Int32.toNatClampNeg 1 = 1 from rfl]
            refine v_imul 253 dX12_takeOffcut_252 rfl ?_
            refine v_iadd 254 dX12_takeOffcut_253 rfl ?_
            refine v_putfi 257 dX12_takeOffcut_254 pf_X12_takeOffcut_367 (by first | assumption | rfl) (by first | assumption | decide) (by rfl) rfl rfl rfl ?_
            refine v_aload 259 dX12_takeOffcut_257 rfl rfl ?_
            refine v_iconstv (v := 0) 260 dX12_takeOffcut_259 (by decide) rfl ?_
            refine v_iald 261 dX12_takeOffcut_260 (by first | assumption | rfl) (by show vp_in _ (hp_ln h9 45 (S.2.2 b)); rw [E45.2.1, R.ln (t := 45) (by decide), J b (by omega)]; exact in_nI (m := 0) (by decide) (by decide)) rfl ?_
            rw [hp_seti_ne (by simp), E45.2.2.1, R.vi (t := 45) (by decide), show Int32.toNatClampNeg 0 = 0 from rfl]
            refine v_ireturn dX12_takeOffcut_261 rfl ?_
            exact hqS b hb _ ((R.rm te9 L9).g' (by decide)) ((hp_seti_ne (by simp)).trans (by rw [(te9 40 (by decide) (by decide)).2.2.1]; exact e0)) ((ke_.te te9 (by decide) (by decide)).tr (ke_.i (by decide) (by decide)))
          · first | exact absurd c219 (by decide) | exact absurd rfl c219 | exact absurd (of_decide_eq_true rfl) c219
        · exact absurd c207 (ni_m1 (by omega))
      · have hkm : k < nn_ S 5 := by
          rcases Nat.lt_or_ge k (nn_ S 5) with q | q
          · exact q
          · exact absurd (nI_le q (by omega)) c61
        refine v_aload_n 65 dX12_takeOffcut_64 rfl rfl ?_
        refine v_getfr 68 dX12_takeOffcut_65 fl_X12_25 (by first | assumption | rfl) (by rfl) rfl ?_
        rw [R.1.1.2.2.2.2.2.1]
        refine v_iload 70 dX12_takeOffcut_68 rfl rfl ?_
        refine v_invf (z := ("java/util/ArrayList", TJx4a65c, 3)) (d' := 2) (k' := 0) (n' := 0) (k2 := 0) (n2 := 0) 75 [_] dX12_takeOffcut_70 mf_X12_90 md_Jx4a65c_get_915e3 mi_Jx4a65c_get_915e3 se_Jx4a65c_get_915e3 (by simp [g_fw]; rfl) ⟨by decide, by decide +kernel⟩ (by first | assumption | rfl) (by rfl) rfl rfl (of_decide_eq_true rfl) rfl (by decide) rfl rfl rfl rfl (C_gt (tl := 54) (ta := 60) rfl rfl R.2.1.2.2.2.2.1 (ok_i.of hkm (by omega)) ?_)
        rw [show cl_ (nI k) = k from nI_clamp (by omega)]
        refine v_castI 78 dX12_takeOffcut_75 rfl cl_X12_359 rfl ?_
        refine v_astore 80 dX12_takeOffcut_78 (by decide) rfl rfl ?_
        dsimp only [List.set]
        refine v_aload 82 dX12_takeOffcut_80 rfl rfl ?_
        refine v_iconstv (v := 0) 83 dX12_takeOffcut_82 (by decide) rfl ?_
        refine v_iald 84 dX12_takeOffcut_83 (by first | assumption | rfl) (by rw [R.ln (t := 45) (by decide), J k (by omega)]; exact in_nI (m := 0) (by decide) (by decide)) rfl ?_
        rw [R.vi (t := 45) (by decide), show Int32.toNatClampNeg 0 = 0 from rfl]
        refine v_iload_n 85 dX12_takeOffcut_84 rfl rfl ?_
        refine v_icmp_lt 100 88 dX12_takeOffcut_85 (by decide) rfl (fun c85 => ?_) (fun c85 => ?_)
        · refine v_iconstv (v := 0) 101 dX12_takeOffcut_100 (by decide) rfl ?_
          refine v_istore 103 dX12_takeOffcut_101 (by decide) rfl rfl ?_
          dsimp only [List.set]
          refine v_iload_n 104 dX12_takeOffcut_103 rfl rfl ?_
          refine v_iconstv (v := -1) 105 dX12_takeOffcut_104 (by decide) rfl ?_
          refine v_icmp_eq 174 108 dX12_takeOffcut_105 (by decide) rfl (fun c105 => ?_) (fun c105 => ?_)
          · exact absurd c105 (ni_m1 (by omega))
          · refine v_aload 110 dX12_takeOffcut_108 rfl rfl ?_
            refine v_iconstv (v := 0) 111 dX12_takeOffcut_110 (by decide) rfl ?_
            refine v_iald 112 dX12_takeOffcut_111 (by first | assumption | rfl) (by rw [R.ln (t := 45) (by decide), J k (by omega)]; exact in_nI (m := 0) (by decide) (by decide)) rfl ?_
            rw [R.vi (t := 45) (by decide), show Int32.toNatClampNeg 0 = 0 from rfl]
            refine v_aload_n 113 dX12_takeOffcut_112 rfl rfl ?_
            refine v_getfr 116 dX12_takeOffcut_113 fl_X12_25 (by first | assumption | rfl) (by rfl) rfl ?_
            rw [R.1.1.2.2.2.2.2.1]
            refine v_iload_n 117 dX12_takeOffcut_116 rfl rfl ?_
            refine v_invf (z := ("java/util/ArrayList", TJx4a65c, 3)) (d' := 2) (k' := 0) (n' := 0) (k2 := 0) (n2 := 0) 122 [_] dX12_takeOffcut_117 mf_X12_90 md_Jx4a65c_get_915e3 mi_Jx4a65c_get_915e3 se_Jx4a65c_get_915e3 (by simp [g_fw]; rfl) ⟨by decide, by decide +kernel⟩ (by first | assumption | rfl) (by rfl) rfl rfl (of_decide_eq_true rfl) rfl (by decide) rfl rfl rfl rfl (C_gt (tl := 54) (ta := 60) rfl rfl R.2.1.2.2.2.2.1 (ok_i.of (show b < nn_ S 5 by omega) (by omega)) ?_)
            rw [show cl_ (nI b) = b from nI_clamp (by omega)]
            refine v_castI 125 dX12_takeOffcut_122 rfl cl_X12_359 rfl ?_
            refine v_iconstv (v := 0) 126 dX12_takeOffcut_125 (by decide) rfl ?_
            refine v_iald 127 dX12_takeOffcut_126 (by first | assumption | rfl) (by rw [R.ln (t := 45) (by decide), J b (by omega)]; exact in_nI (m := 0) (by decide) (by decide)) rfl ?_
            rw [R.vi (t := 45) (by decide), show Int32.toNatClampNeg 0 = 0 from rfl]
            refine v_icmp_lt 174 130 dX12_takeOffcut_127 (by decide) rfl (fun c127 => ?_) (fun c127 => ?_)
            · refine v_iconstv (v := 1) 175 dX12_takeOffcut_174 (by decide) rfl ?_
              refine v_goto 179 dX12_takeOffcut_175 (by decide) ?_
              refine v_istore 181 dX12_takeOffcut_179 (by decide) rfl rfl ?_
              dsimp only [List.set]
              refine v_iload 183 dX12_takeOffcut_181 rfl rfl ?_
              refine v_if_eq 196 186 dX12_takeOffcut_183 (by decide) rfl (fun c183 => ?_) (fun c183 => ?_)
              · refine v_iload_n 197 dX12_takeOffcut_196 rfl rfl ?_
                refine v_istore_n 198 dX12_takeOffcut_197 (by decide) rfl rfl ?_
                dsimp only [List.set]
                refine v_iinc 201 dX12_takeOffcut_198 rfl (by decide) rfl rfl ?_
                dsimp only [List.set]
                refine v_goto 50 dX12_takeOffcut_201 (by decide) ?_
                rw [show nI k + Int32.ofInt 1 = nI (k + 1) from nI_1 k]
                have er : bo_ S w d (k + 1) = some b := Eq.trans (if_neg (fun q => by first | exact absurd q.1.1 (Int32.not_le.mpr c85) | exact absurd q.1.2 (Int32.not_le.mpr c93))) hb
                exact ih (k + 1) _ _ _ _ (by omega) (by omega) er
              · first | exact absurd c183 (by decide) | exact absurd rfl c183 | exact absurd (of_decide_eq_true rfl) c183
            · refine v_aload 132 dX12_takeOffcut_130 rfl rfl ?_
              refine v_iconstv (v := 0) 133 dX12_takeOffcut_132 (by decide) rfl ?_
              refine v_iald 134 dX12_takeOffcut_133 (by first | assumption | rfl) (by rw [R.ln (t := 45) (by decide), J k (by omega)]; exact in_nI (m := 0) (by decide) (by decide)) rfl ?_
              rw [R.vi (t := 45) (by decide), show Int32.toNatClampNeg 0 = 0 from rfl]
              refine v_aload_n 135 dX12_takeOffcut_134 rfl rfl ?_
              refine v_getfr 138 dX12_takeOffcut_135 fl_X12_25 (by first | assumption | rfl) (by rfl) rfl ?_
              rw [R.1.1.2.2.2.2.2.1]
              refine v_iload_n 139 dX12_takeOffcut_138 rfl rfl ?_
              refine v_invf (z := ("java/util/ArrayList", TJx4a65c, 3)) (d' := 2) (k' := 0) (n' := 0) (k2 := 0) (n2 := 0) 144 [_] dX12_takeOffcut_139 mf_X12_90 md_Jx4a65c_get_915e3 mi_Jx4a65c_get_915e3 se_Jx4a65c_get_915e3 (by simp [g_fw]; rfl) ⟨by decide, by decide +kernel⟩ (by first | assumption | rfl) (by rfl) rfl rfl (of_decide_eq_true rfl) rfl (by decide) rfl rfl rfl rfl (C_gt (tl := 54) (ta := 60) rfl rfl R.2.1.2.2.2.2.1 (ok_i.of (show b < nn_ S 5 by omega) (by omega)) ?_)
              rw [show cl_ (nI b) = b from nI_clamp (by omega)]
              refine v_castI 147 dX12_takeOffcut_144 rfl cl_X12_359 rfl ?_
              refine v_iconstv (v := 0) 148 dX12_takeOffcut_147 (by decide) rfl ?_
              refine v_iald 149 dX12_takeOffcut_148 (by first | assumption | rfl) (by rw [R.ln (t := 45) (by decide), J b (by omega)]; exact in_nI (m := 0) (by decide) (by decide)) rfl ?_
              rw [R.vi (t := 45) (by decide), show Int32.toNatClampNeg 0 = 0 from rfl]
              refine v_icmp_ne 178 152 dX12_takeOffcut_149 (by decide) rfl (fun c149 => ?_) (fun c149 => ?_)
              · refine v_iconstv (v := 0) 179 dX12_takeOffcut_178 (by decide) rfl ?_
                refine v_istore 181 dX12_takeOffcut_179 (by decide) rfl rfl ?_
                dsimp only [List.set]
                refine v_iload 183 dX12_takeOffcut_181 rfl rfl ?_
                refine v_if_eq 196 186 dX12_takeOffcut_183 (by decide) rfl (fun c183 => ?_) (fun c183 => ?_)
                · refine v_iload_n 197 dX12_takeOffcut_196 rfl rfl ?_
                  refine v_istore_n 198 dX12_takeOffcut_197 (by decide) rfl rfl ?_
                  dsimp only [List.set]
                  refine v_iinc 201 dX12_takeOffcut_198 rfl (by decide) rfl rfl ?_
                  dsimp only [List.set]
                  refine v_goto 50 dX12_takeOffcut_201 (by decide) ?_
                  rw [show nI k + Int32.ofInt 1 = nI (k + 1) from nI_1 k]
                  have er : bo_ S w d (k + 1) = some b := Eq.trans (if_neg (fun q => by first | exact absurd q.1.1 (Int32.not_le.mpr c85) | exact absurd q.1.2 (Int32.not_le.mpr c93))) hb
                  exact ih (k + 1) _ _ _ _ (by omega) (by omega) er
                · first | exact absurd c183 (by decide) | exact absurd rfl c183 | exact absurd (of_decide_eq_true rfl) c183
              · refine v_aload 154 dX12_takeOffcut_152 rfl rfl ?_
                refine v_iconstv (v := 1) 155 dX12_takeOffcut_154 (by decide) rfl ?_
                refine v_iald 156 dX12_takeOffcut_155 (by first | assumption | rfl) (by rw [R.ln (t := 45) (by decide), J k (by omega)]; exact in_nI (m := 1) (by decide) (by decide)) rfl ?_
                rw [R.vi (t := 45) (by decide), show Int32.toNatClampNeg 1 = 1 from rfl]
                refine v_aload_n 157 dX12_takeOffcut_156 rfl rfl ?_
                refine v_getfr 160 dX12_takeOffcut_157 fl_X12_25 (by first | assumption | rfl) (by rfl) rfl ?_
                rw [R.1.1.2.2.2.2.2.1]
                refine v_iload_n 161 dX12_takeOffcut_160 rfl rfl ?_
                refine v_invf (z := ("java/util/ArrayList", TJx4a65c, 3)) (d' := 2) (k' := 0) (n' := 0) (k2 := 0) (n2 := 0) 166 [_] dX12_takeOffcut_161 mf_X12_90 md_Jx4a65c_get_915e3 mi_Jx4a65c_get_915e3 se_Jx4a65c_get_915e3 (by simp [g_fw]; rfl) ⟨by decide, by decide +kernel⟩ (by first | assumption | rfl) (by rfl) rfl rfl (of_decide_eq_true rfl) rfl (by decide) rfl rfl rfl rfl (C_gt (tl := 54) (ta := 60) rfl rfl R.2.1.2.2.2.2.1 (ok_i.of (show b < nn_ S 5 by omega) (by omega)) ?_)
                rw [show cl_ (nI b) = b from nI_clamp (by omega)]
                refine v_castI 169 dX12_takeOffcut_166 rfl cl_X12_359 rfl ?_
                refine v_iconstv (v := 1) 170 dX12_takeOffcut_169 (by decide) rfl ?_
                refine v_iald 171 dX12_takeOffcut_170 (by first | assumption | rfl) (by rw [R.ln (t := 45) (by decide), J b (by omega)]; exact in_nI (m := 1) (by decide) (by decide)) rfl ?_
                rw [R.vi (t := 45) (by decide), show Int32.toNatClampNeg 1 = 1 from rfl]
                refine v_icmp_ge 178 174 dX12_takeOffcut_171 (by decide) rfl (fun c171 => ?_) (fun c171 => ?_)
                · refine v_iconstv (v := 0) 179 dX12_takeOffcut_178 (by decide) rfl ?_
                  refine v_istore 181 dX12_takeOffcut_179 (by decide) rfl rfl ?_
                  dsimp only [List.set]
                  refine v_iload 183 dX12_takeOffcut_181 rfl rfl ?_
                  refine v_if_eq 196 186 dX12_takeOffcut_183 (by decide) rfl (fun c183 => ?_) (fun c183 => ?_)
                  · refine v_iload_n 197 dX12_takeOffcut_196 rfl rfl ?_
                    refine v_istore_n 198 dX12_takeOffcut_197 (by decide) rfl rfl ?_
                    dsimp only [List.set]
                    refine v_iinc 201 dX12_takeOffcut_198 rfl (by decide) rfl rfl ?_
                    dsimp only [List.set]
                    refine v_goto 50 dX12_takeOffcut_201 (by decide) ?_
                    rw [show nI k + Int32.ofInt 1 = nI (k + 1) from nI_1 k]
                    have er : bo_ S w d (k + 1) = some b := Eq.trans (if_neg (fun q => by first | exact absurd q.1.1 (Int32.not_le.mpr c85) | exact absurd q.1.2 (Int32.not_le.mpr c93))) hb
                    exact ih (k + 1) _ _ _ _ (by omega) (by omega) er
                  · first | exact absurd c183 (by decide) | exact absurd rfl c183 | exact absurd (of_decide_eq_true rfl) c183
                · refine v_iconstv (v := 1) 175 dX12_takeOffcut_174 (by decide) rfl ?_
                  refine v_goto 179 dX12_takeOffcut_175 (by decide) ?_
                  refine v_istore 181 dX12_takeOffcut_179 (by decide) rfl rfl ?_
                  dsimp only [List.set]
                  refine v_iload 183 dX12_takeOffcut_181 rfl rfl ?_
                  refine v_if_eq 196 186 dX12_takeOffcut_183 (by decide) rfl (fun c183 => ?_) (fun c183 => ?_)
                  · refine v_iload_n 197 dX12_takeOffcut_196 rfl rfl ?_
                    refine v_istore_n 198 dX12_takeOffcut_197 (by decide) rfl rfl ?_
                    dsimp only [List.set]
                    refine v_iinc 201 dX12_takeOffcut_198 rfl (by decide) rfl rfl ?_
                    dsimp only [List.set]
                    refine v_goto 50 dX12_takeOffcut_201 (by decide) ?_
                    rw [show nI k + Int32.ofInt 1 = nI (k + 1) from nI_1 k]
                    have er : bo_ S w d (k + 1) = some b := Eq.trans (if_neg (fun q => by first | exact absurd q.1.1 (Int32.not_le.mpr c85) | exact absurd q.1.2 (Int32.not_le.mpr c93))) hb
                    exact ih (k + 1) _ _ _ _ (by omega) (by omega) er
                  · first | exact absurd c183 (by decide) | exact absurd rfl c183 | exact absurd (of_decide_eq_true rfl) c183
        · refine v_aload 90 dX12_takeOffcut_88 rfl rfl ?_
          refine v_iconstv (v := 1) 91 dX12_takeOffcut_90 (by decide) rfl ?_
          refine v_iald 92 dX12_takeOffcut_91 (by first | assumption | rfl) (by rw [R.ln (t := 45) (by decide), J k (by omega)]; exact in_nI (m := 1) (by decide) (by decide)) rfl ?_
          rw [R.vi (t := 45) (by decide), show Int32.toNatClampNeg 1 = 1 from rfl]
          refine v_iload_n 93 dX12_takeOffcut_92 rfl rfl ?_
          refine v_icmp_lt 100 96 dX12_takeOffcut_93 (by decide) rfl (fun c93 => ?_) (fun c93 => ?_)
          · refine v_iconstv (v := 0) 101 dX12_takeOffcut_100 (by decide) rfl ?_
            refine v_istore 103 dX12_takeOffcut_101 (by decide) rfl rfl ?_
            dsimp only [List.set]
            refine v_iload_n 104 dX12_takeOffcut_103 rfl rfl ?_
            refine v_iconstv (v := -1) 105 dX12_takeOffcut_104 (by decide) rfl ?_
            refine v_icmp_eq 174 108 dX12_takeOffcut_105 (by decide) rfl (fun c105 => ?_) (fun c105 => ?_)
            · exact absurd c105 (ni_m1 (by omega))
            · refine v_aload 110 dX12_takeOffcut_108 rfl rfl ?_
              refine v_iconstv (v := 0) 111 dX12_takeOffcut_110 (by decide) rfl ?_
              refine v_iald 112 dX12_takeOffcut_111 (by first | assumption | rfl) (by rw [R.ln (t := 45) (by decide), J k (by omega)]; exact in_nI (m := 0) (by decide) (by decide)) rfl ?_
              rw [R.vi (t := 45) (by decide), show Int32.toNatClampNeg 0 = 0 from rfl]
              refine v_aload_n 113 dX12_takeOffcut_112 rfl rfl ?_
              refine v_getfr 116 dX12_takeOffcut_113 fl_X12_25 (by first | assumption | rfl) (by rfl) rfl ?_
              rw [R.1.1.2.2.2.2.2.1]
              refine v_iload_n 117 dX12_takeOffcut_116 rfl rfl ?_
              refine v_invf (z := ("java/util/ArrayList", TJx4a65c, 3)) (d' := 2) (k' := 0) (n' := 0) (k2 := 0) (n2 := 0) 122 [_] dX12_takeOffcut_117 mf_X12_90 md_Jx4a65c_get_915e3 mi_Jx4a65c_get_915e3 se_Jx4a65c_get_915e3 (by simp [g_fw]; rfl) ⟨by decide, by decide +kernel⟩ (by first | assumption | rfl) (by rfl) rfl rfl (of_decide_eq_true rfl) rfl (by decide) rfl rfl rfl rfl (C_gt (tl := 54) (ta := 60) rfl rfl R.2.1.2.2.2.2.1 (ok_i.of (show b < nn_ S 5 by omega) (by omega)) ?_)
              rw [show cl_ (nI b) = b from nI_clamp (by omega)]
              refine v_castI 125 dX12_takeOffcut_122 rfl cl_X12_359 rfl ?_
              refine v_iconstv (v := 0) 126 dX12_takeOffcut_125 (by decide) rfl ?_
              refine v_iald 127 dX12_takeOffcut_126 (by first | assumption | rfl) (by rw [R.ln (t := 45) (by decide), J b (by omega)]; exact in_nI (m := 0) (by decide) (by decide)) rfl ?_
              rw [R.vi (t := 45) (by decide), show Int32.toNatClampNeg 0 = 0 from rfl]
              refine v_icmp_lt 174 130 dX12_takeOffcut_127 (by decide) rfl (fun c127 => ?_) (fun c127 => ?_)
              · refine v_iconstv (v := 1) 175 dX12_takeOffcut_174 (by decide) rfl ?_
                refine v_goto 179 dX12_takeOffcut_175 (by decide) ?_
                refine v_istore 181 dX12_takeOffcut_179 (by decide) rfl rfl ?_
                dsimp only [List.set]
                refine v_iload 183 dX12_takeOffcut_181 rfl rfl ?_
                refine v_if_eq 196 186 dX12_takeOffcut_183 (by decide) rfl (fun c183 => ?_) (fun c183 => ?_)
                · refine v_iload_n 197 dX12_takeOffcut_196 rfl rfl ?_
                  refine v_istore_n 198 dX12_takeOffcut_197 (by decide) rfl rfl ?_
                  dsimp only [List.set]
                  refine v_iinc 201 dX12_takeOffcut_198 rfl (by decide) rfl rfl ?_
                  dsimp only [List.set]
                  refine v_goto 50 dX12_takeOffcut_201 (by decide) ?_
                  rw [show nI k + Int32.ofInt 1 = nI (k + 1) from nI_1 k]
                  have er : bo_ S w d (k + 1) = some b := Eq.trans (if_neg (fun q => by first | exact absurd q.1.1 (Int32.not_le.mpr c85) | exact absurd q.1.2 (Int32.not_le.mpr c93))) hb
                  exact ih (k + 1) _ _ _ _ (by omega) (by omega) er
                · first | exact absurd c183 (by decide) | exact absurd rfl c183 | exact absurd (of_decide_eq_true rfl) c183
              · refine v_aload 132 dX12_takeOffcut_130 rfl rfl ?_
                refine v_iconstv (v := 0) 133 dX12_takeOffcut_132 (by decide) rfl ?_
                refine v_iald 134 dX12_takeOffcut_133 (by first | assumption | rfl) (by rw [R.ln (t := 45) (by decide), J k (by omega)]; exact in_nI (m := 0) (by decide) (by decide)) rfl ?_
                rw [R.vi (t := 45) (by decide), show Int32.toNatClampNeg 0 = 0 from rfl]
                refine v_aload_n 135 dX12_takeOffcut_134 rfl rfl ?_
                refine v_getfr 138 dX12_takeOffcut_135 fl_X12_25 (by first | assumption | rfl) (by rfl) rfl ?_
                rw [R.1.1.2.2.2.2.2.1]
                refine v_iload_n 139 dX12_takeOffcut_138 rfl rfl ?_
                refine v_invf (z := ("java/util/ArrayList", TJx4a65c, 3)) (d' := 2) (k' := 0) (n' := 0) (k2 := 0) (n2 := 0) 144 [_] dX12_takeOffcut_139 mf_X12_90 md_Jx4a65c_get_915e3 mi_Jx4a65c_get_915e3 se_Jx4a65c_get_915e3 (by simp [g_fw]; rfl) ⟨by decide, by decide +kernel⟩ (by first | assumption | rfl) (by rfl) rfl rfl (of_decide_eq_true rfl) rfl (by decide) rfl rfl rfl rfl (C_gt (tl := 54) (ta := 60) rfl rfl R.2.1.2.2.2.2.1 (ok_i.of (show b < nn_ S 5 by omega) (by omega)) ?_)
                rw [show cl_ (nI b) = b from nI_clamp (by omega)]
                refine v_castI 147 dX12_takeOffcut_144 rfl cl_X12_359 rfl ?_
                refine v_iconstv (v := 0) 148 dX12_takeOffcut_147 (by decide) rfl ?_
                refine v_iald 149 dX12_takeOffcut_148 (by first | assumption | rfl) (by rw [R.ln (t := 45) (by decide), J b (by omega)]; exact in_nI (m := 0) (by decide) (by decide)) rfl ?_
                rw [R.vi (t := 45) (by decide), show Int32.toNatClampNeg 0 = 0 from rfl]
                refine v_icmp_ne 178 152 dX12_takeOffcut_149 (by decide) rfl (fun c149 => ?_) (fun c149 => ?_)
                · refine v_iconstv (v := 0) 179 dX12_takeOffcut_178 (by decide) rfl ?_
                  refine v_istore 181 dX12_takeOffcut_179 (by decide) rfl rfl ?_
                  dsimp only [List.set]
                  refine v_iload 183 dX12_takeOffcut_181 rfl rfl ?_
                  refine v_if_eq 196 186 dX12_takeOffcut_183 (by decide) rfl (fun c183 => ?_) (fun c183 => ?_)
                  · refine v_iload_n 197 dX12_takeOffcut_196 rfl rfl ?_
                    refine v_istore_n 198 dX12_takeOffcut_197 (by decide) rfl rfl ?_
                    dsimp only [List.set]
                    refine v_iinc 201 dX12_takeOffcut_198 rfl (by decide) rfl rfl ?_
                    dsimp only [List.set]
                    refine v_goto 50 dX12_takeOffcut_201 (by decide) ?_
                    rw [show nI k + Int32.ofInt 1 = nI (k + 1) from nI_1 k]
                    have er : bo_ S w d (k + 1) = some b := Eq.trans (if_neg (fun q => by first | exact absurd q.1.1 (Int32.not_le.mpr c85) | exact absurd q.1.2 (Int32.not_le.mpr c93))) hb
                    exact ih (k + 1) _ _ _ _ (by omega) (by omega) er
                  · first | exact absurd c183 (by decide) | exact absurd rfl c183 | exact absurd (of_decide_eq_true rfl) c183
                · refine v_aload 154 dX12_takeOffcut_152 rfl rfl ?_
                  refine v_iconstv (v := 1) 155 dX12_takeOffcut_154 (by decide) rfl ?_
                  refine v_iald 156 dX12_takeOffcut_155 (by first | assumption | rfl) (by rw [R.ln (t := 45) (by decide), J k (by omega)]; exact in_nI (m := 1) (by decide) (by decide)) rfl ?_
                  rw [R.vi (t := 45) (by decide), show Int32.toNatClampNeg 1 = 1 from rfl]
                  refine v_aload_n 157 dX12_takeOffcut_156 rfl rfl ?_
                  refine v_getfr 160 dX12_takeOffcut_157 fl_X12_25 (by first | assumption | rfl) (by rfl) rfl ?_
                  rw [R.1.1.2.2.2.2.2.1]
                  refine v_iload_n 161 dX12_takeOffcut_160 rfl rfl ?_
                  refine v_invf (z := ("java/util/ArrayList", TJx4a65c, 3)) (d' := 2) (k' := 0) (n' := 0) (k2 := 0) (n2 := 0) 166 [_] dX12_takeOffcut_161 mf_X12_90 md_Jx4a65c_get_915e3 mi_Jx4a65c_get_915e3 se_Jx4a65c_get_915e3 (by simp [g_fw]; rfl) ⟨by decide, by decide +kernel⟩ (by first | assumption | rfl) (by rfl) rfl rfl (of_decide_eq_true rfl) rfl (by decide) rfl rfl rfl rfl (C_gt (tl := 54) (ta := 60) rfl rfl R.2.1.2.2.2.2.1 (ok_i.of (show b < nn_ S 5 by omega) (by omega)) ?_)
                  rw [show cl_ (nI b) = b from nI_clamp (by omega)]
                  refine v_castI 169 dX12_takeOffcut_166 rfl cl_X12_359 rfl ?_
                  refine v_iconstv (v := 1) 170 dX12_takeOffcut_169 (by decide) rfl ?_
                  refine v_iald 171 dX12_takeOffcut_170 (by first | assumption | rfl) (by rw [R.ln (t := 45) (by decide), J b (by omega)]; exact in_nI (m := 1) (by decide) (by decide)) rfl ?_
                  rw [R.vi (t := 45) (by decide), show Int32.toNatClampNeg 1 = 1 from rfl]
                  refine v_icmp_ge 178 174 dX12_takeOffcut_171 (by decide) rfl (fun c171 => ?_) (fun c171 => ?_)
                  · refine v_iconstv (v := 0) 179 dX12_takeOffcut_178 (by decide) rfl ?_
                    refine v_istore 181 dX12_takeOffcut_179 (by decide) rfl rfl ?_
                    dsimp only [List.set]
                    refine v_iload 183 dX12_takeOffcut_181 rfl rfl ?_
                    refine v_if_eq 196 186 dX12_takeOffcut_183 (by decide) rfl (fun c183 => ?_) (fun c183 => ?_)
                    · refine v_iload_n 197 dX12_takeOffcut_196 rfl rfl ?_
                      refine v_istore_n 198 dX12_takeOffcut_197 (by decide) rfl rfl ?_
                      dsimp only [List.set]
                      refine v_iinc 201 dX12_takeOffcut_198 rfl (by decide) rfl rfl ?_
                      dsimp only [List.set]
                      refine v_goto 50 dX12_takeOffcut_201 (by decide) ?_
                      rw [show nI k + Int32.ofInt 1 = nI (k + 1) from nI_1 k]
                      have er : bo_ S w d (k + 1) = some b := Eq.trans (if_neg (fun q => by first | exact absurd q.1.1 (Int32.not_le.mpr c85) | exact absurd q.1.2 (Int32.not_le.mpr c93))) hb
                      exact ih (k + 1) _ _ _ _ (by omega) (by omega) er
                    · first | exact absurd c183 (by decide) | exact absurd rfl c183 | exact absurd (of_decide_eq_true rfl) c183
                  · refine v_iconstv (v := 1) 175 dX12_takeOffcut_174 (by decide) rfl ?_
                    refine v_goto 179 dX12_takeOffcut_175 (by decide) ?_
                    refine v_istore 181 dX12_takeOffcut_179 (by decide) rfl rfl ?_
                    dsimp only [List.set]
                    refine v_iload 183 dX12_takeOffcut_181 rfl rfl ?_
                    refine v_if_eq 196 186 dX12_takeOffcut_183 (by decide) rfl (fun c183 => ?_) (fun c183 => ?_)
                    · refine v_iload_n 197 dX12_takeOffcut_196 rfl rfl ?_
                      refine v_istore_n 198 dX12_takeOffcut_197 (by decide) rfl rfl ?_
                      dsimp only [List.set]
                      refine v_iinc 201 dX12_takeOffcut_198 rfl (by decide) rfl rfl ?_
                      dsimp only [List.set]
                      refine v_goto 50 dX12_takeOffcut_201 (by decide) ?_
                      rw [show nI k + Int32.ofInt 1 = nI (k + 1) from nI_1 k]
                      have er : bo_ S w d (k + 1) = some b := Eq.trans (if_neg (fun q => by first | exact absurd q.1.1 (Int32.not_le.mpr c85) | exact absurd q.1.2 (Int32.not_le.mpr c93))) hb
                      exact ih (k + 1) _ _ _ _ (by omega) (by omega) er
                    · first | exact absurd c183 (by decide) | exact absurd rfl c183 | exact absurd (of_decide_eq_true rfl) c183
          · refine v_iconstv (v := 1) 97 dX12_takeOffcut_96 (by decide) rfl ?_
            refine v_goto 101 dX12_takeOffcut_97 (by decide) ?_
            refine v_istore 103 dX12_takeOffcut_101 (by decide) rfl rfl ?_
            dsimp only [List.set]
            refine v_iload_n 104 dX12_takeOffcut_103 rfl rfl ?_
            refine v_iconstv (v := -1) 105 dX12_takeOffcut_104 (by decide) rfl ?_
            refine v_icmp_eq 174 108 dX12_takeOffcut_105 (by decide) rfl (fun c105 => ?_) (fun c105 => ?_)
            · exact absurd c105 (ni_m1 (by omega))
            · refine v_aload 110 dX12_takeOffcut_108 rfl rfl ?_
              refine v_iconstv (v := 0) 111 dX12_takeOffcut_110 (by decide) rfl ?_
              refine v_iald 112 dX12_takeOffcut_111 (by first | assumption | rfl) (by rw [R.ln (t := 45) (by decide), J k (by omega)]; exact in_nI (m := 0) (by decide) (by decide)) rfl ?_
              rw [R.vi (t := 45) (by decide), show Int32.toNatClampNeg 0 = 0 from rfl]
              refine v_aload_n 113 dX12_takeOffcut_112 rfl rfl ?_
              refine v_getfr 116 dX12_takeOffcut_113 fl_X12_25 (by first | assumption | rfl) (by rfl) rfl ?_
              rw [R.1.1.2.2.2.2.2.1]
              refine v_iload_n 117 dX12_takeOffcut_116 rfl rfl ?_
              refine v_invf (z := ("java/util/ArrayList", TJx4a65c, 3)) (d' := 2) (k' := 0) (n' := 0) (k2 := 0) (n2 := 0) 122 [_] dX12_takeOffcut_117 mf_X12_90 md_Jx4a65c_get_915e3 mi_Jx4a65c_get_915e3 se_Jx4a65c_get_915e3 (by simp [g_fw]; rfl) ⟨by decide, by decide +kernel⟩ (by first | assumption | rfl) (by rfl) rfl rfl (of_decide_eq_true rfl) rfl (by decide) rfl rfl rfl rfl (C_gt (tl := 54) (ta := 60) rfl rfl R.2.1.2.2.2.2.1 (ok_i.of (show b < nn_ S 5 by omega) (by omega)) ?_)
              rw [show cl_ (nI b) = b from nI_clamp (by omega)]
              refine v_castI 125 dX12_takeOffcut_122 rfl cl_X12_359 rfl ?_
              refine v_iconstv (v := 0) 126 dX12_takeOffcut_125 (by decide) rfl ?_
              refine v_iald 127 dX12_takeOffcut_126 (by first | assumption | rfl) (by rw [R.ln (t := 45) (by decide), J b (by omega)]; exact in_nI (m := 0) (by decide) (by decide)) rfl ?_
              rw [R.vi (t := 45) (by decide), show Int32.toNatClampNeg 0 = 0 from rfl]
              refine v_icmp_lt 174 130 dX12_takeOffcut_127 (by decide) rfl (fun c127 => ?_) (fun c127 => ?_)
              · refine v_iconstv (v := 1) 175 dX12_takeOffcut_174 (by decide) rfl ?_
                refine v_goto 179 dX12_takeOffcut_175 (by decide) ?_
                refine v_istore 181 dX12_takeOffcut_179 (by decide) rfl rfl ?_
                dsimp only [List.set]
                refine v_iload 183 dX12_takeOffcut_181 rfl rfl ?_
                refine v_if_eq 196 186 dX12_takeOffcut_183 (by decide) rfl (fun c183 => ?_) (fun c183 => ?_)
                · first | exact absurd c183 (by decide) | exact absurd rfl c183 | exact absurd (of_decide_eq_true rfl) c183
                · refine v_iload 188 dX12_takeOffcut_186 rfl rfl ?_
                  refine v_if_eq 196 191 dX12_takeOffcut_188 (by decide) rfl (fun c188 => ?_) (fun c188 => ?_)
                  · first | exact absurd c188 (by decide) | exact absurd rfl c188 | exact absurd (of_decide_eq_true rfl) c188
                  · refine v_iload 193 dX12_takeOffcut_191 rfl rfl ?_
                    refine v_goto 197 dX12_takeOffcut_193 (by decide) ?_
                    refine v_istore_n 198 dX12_takeOffcut_197 (by decide) rfl rfl ?_
                    dsimp only [List.set]
                    refine v_iinc 201 dX12_takeOffcut_198 rfl (by decide) rfl rfl ?_
                    dsimp only [List.set]
                    refine v_goto 50 dX12_takeOffcut_201 (by decide) ?_
                    rw [show nI k + Int32.ofInt 1 = nI (k + 1) from nI_1 k]
                    have er : bo_ S w d (k + 1) = some k := if_pos ⟨⟨Int32.not_lt.mp c85, Int32.not_lt.mp c93⟩, fun b9 e9 => by obtain rfl := Option.some.inj (hb.symm.trans e9); first | exact Or.inl c127 | exact Or.inr ⟨c149, Int32.not_le.mp c171⟩⟩
                    exact ih (k + 1) _ _ _ _ (by omega) (by omega) er
              · refine v_aload 132 dX12_takeOffcut_130 rfl rfl ?_
                refine v_iconstv (v := 0) 133 dX12_takeOffcut_132 (by decide) rfl ?_
                refine v_iald 134 dX12_takeOffcut_133 (by first | assumption | rfl) (by rw [R.ln (t := 45) (by decide), J k (by omega)]; exact in_nI (m := 0) (by decide) (by decide)) rfl ?_
                rw [R.vi (t := 45) (by decide), show Int32.toNatClampNeg 0 = 0 from rfl]
                refine v_aload_n 135 dX12_takeOffcut_134 rfl rfl ?_
                refine v_getfr 138 dX12_takeOffcut_135 fl_X12_25 (by first | assumption | rfl) (by rfl) rfl ?_
                rw [R.1.1.2.2.2.2.2.1]
                refine v_iload_n 139 dX12_takeOffcut_138 rfl rfl ?_
                refine v_invf (z := ("java/util/ArrayList", TJx4a65c, 3)) (d' := 2) (k' := 0) (n' := 0) (k2 := 0) (n2 := 0) 144 [_] dX12_takeOffcut_139 mf_X12_90 md_Jx4a65c_get_915e3 mi_Jx4a65c_get_915e3 se_Jx4a65c_get_915e3 (by simp [g_fw]; rfl) ⟨by decide, by decide +kernel⟩ (by first | assumption | rfl) (by rfl) rfl rfl (of_decide_eq_true rfl) rfl (by decide) rfl rfl rfl rfl (C_gt (tl := 54) (ta := 60) rfl rfl R.2.1.2.2.2.2.1 (ok_i.of (show b < nn_ S 5 by omega) (by omega)) ?_)
                rw [show cl_ (nI b) = b from nI_clamp (by omega)]
                refine v_castI 147 dX12_takeOffcut_144 rfl cl_X12_359 rfl ?_
                refine v_iconstv (v := 0) 148 dX12_takeOffcut_147 (by decide) rfl ?_
                refine v_iald 149 dX12_takeOffcut_148 (by first | assumption | rfl) (by rw [R.ln (t := 45) (by decide), J b (by omega)]; exact in_nI (m := 0) (by decide) (by decide)) rfl ?_
                rw [R.vi (t := 45) (by decide), show Int32.toNatClampNeg 0 = 0 from rfl]
                refine v_icmp_ne 178 152 dX12_takeOffcut_149 (by decide) rfl (fun c149 => ?_) (fun c149 => ?_)
                · refine v_iconstv (v := 0) 179 dX12_takeOffcut_178 (by decide) rfl ?_
                  refine v_istore 181 dX12_takeOffcut_179 (by decide) rfl rfl ?_
                  dsimp only [List.set]
                  refine v_iload 183 dX12_takeOffcut_181 rfl rfl ?_
                  refine v_if_eq 196 186 dX12_takeOffcut_183 (by decide) rfl (fun c183 => ?_) (fun c183 => ?_)
                  · first | exact absurd c183 (by decide) | exact absurd rfl c183 | exact absurd (of_decide_eq_true rfl) c183
                  · refine v_iload 188 dX12_takeOffcut_186 rfl rfl ?_
                    refine v_if_eq 196 191 dX12_takeOffcut_188 (by decide) rfl (fun c188 => ?_) (fun c188 => ?_)
                    · refine v_iload_n 197 dX12_takeOffcut_196 rfl rfl ?_
                      refine v_istore_n 198 dX12_takeOffcut_197 (by decide) rfl rfl ?_
                      dsimp only [List.set]
                      refine v_iinc 201 dX12_takeOffcut_198 rfl (by decide) rfl rfl ?_
                      dsimp only [List.set]
                      refine v_goto 50 dX12_takeOffcut_201 (by decide) ?_
                      rw [show nI k + Int32.ofInt 1 = nI (k + 1) from nI_1 k]
                      have er : bo_ S w d (k + 1) = some b := Eq.trans (if_neg (fun q => by rcases q.2 b hb with y | y <;> first | exact c127 y | exact c149 y.1 | exact absurd y.2 (Int32.not_lt.mpr c171))) hb
                      exact ih (k + 1) _ _ _ _ (by omega) (by omega) er
                    · first | exact absurd c188 (by decide) | exact absurd rfl c188 | exact absurd (of_decide_eq_true rfl) c188
                · refine v_aload 154 dX12_takeOffcut_152 rfl rfl ?_
                  refine v_iconstv (v := 1) 155 dX12_takeOffcut_154 (by decide) rfl ?_
                  refine v_iald 156 dX12_takeOffcut_155 (by first | assumption | rfl) (by rw [R.ln (t := 45) (by decide), J k (by omega)]; exact in_nI (m := 1) (by decide) (by decide)) rfl ?_
                  rw [R.vi (t := 45) (by decide), show Int32.toNatClampNeg 1 = 1 from rfl]
                  refine v_aload_n 157 dX12_takeOffcut_156 rfl rfl ?_
                  refine v_getfr 160 dX12_takeOffcut_157 fl_X12_25 (by first | assumption | rfl) (by rfl) rfl ?_
                  rw [R.1.1.2.2.2.2.2.1]
                  refine v_iload_n 161 dX12_takeOffcut_160 rfl rfl ?_
                  refine v_invf (z := ("java/util/ArrayList", TJx4a65c, 3)) (d' := 2) (k' := 0) (n' := 0) (k2 := 0) (n2 := 0) 166 [_] dX12_takeOffcut_161 mf_X12_90 md_Jx4a65c_get_915e3 mi_Jx4a65c_get_915e3 se_Jx4a65c_get_915e3 (by simp [g_fw]; rfl) ⟨by decide, by decide +kernel⟩ (by first | assumption | rfl) (by rfl) rfl rfl (of_decide_eq_true rfl) rfl (by decide) rfl rfl rfl rfl (C_gt (tl := 54) (ta := 60) rfl rfl R.2.1.2.2.2.2.1 (ok_i.of (show b < nn_ S 5 by omega) (by omega)) ?_)
                  rw [show cl_ (nI b) = b from nI_clamp (by omega)]
                  refine v_castI 169 dX12_takeOffcut_166 rfl cl_X12_359 rfl ?_
                  refine v_iconstv (v := 1) 170 dX12_takeOffcut_169 (by decide) rfl ?_
                  refine v_iald 171 dX12_takeOffcut_170 (by first | assumption | rfl) (by rw [R.ln (t := 45) (by decide), J b (by omega)]; exact in_nI (m := 1) (by decide) (by decide)) rfl ?_
                  rw [R.vi (t := 45) (by decide), show Int32.toNatClampNeg 1 = 1 from rfl]
                  refine v_icmp_ge 178 174 dX12_takeOffcut_171 (by decide) rfl (fun c171 => ?_) (fun c171 => ?_)
                  · refine v_iconstv (v := 0) 179 dX12_takeOffcut_178 (by decide) rfl ?_
                    refine v_istore 181 dX12_takeOffcut_179 (by decide) rfl rfl ?_
                    dsimp only [List.set]
                    refine v_iload 183 dX12_takeOffcut_181 rfl rfl ?_
                    refine v_if_eq 196 186 dX12_takeOffcut_183 (by decide) rfl (fun c183 => ?_) (fun c183 => ?_)
                    · first | exact absurd c183 (by decide) | exact absurd rfl c183 | exact absurd (of_decide_eq_true rfl) c183
                    · refine v_iload 188 dX12_takeOffcut_186 rfl rfl ?_
                      refine v_if_eq 196 191 dX12_takeOffcut_188 (by decide) rfl (fun c188 => ?_) (fun c188 => ?_)
                      · refine v_iload_n 197 dX12_takeOffcut_196 rfl rfl ?_
                        refine v_istore_n 198 dX12_takeOffcut_197 (by decide) rfl rfl ?_
                        dsimp only [List.set]
                        refine v_iinc 201 dX12_takeOffcut_198 rfl (by decide) rfl rfl ?_
                        dsimp only [List.set]
                        refine v_goto 50 dX12_takeOffcut_201 (by decide) ?_
                        rw [show nI k + Int32.ofInt 1 = nI (k + 1) from nI_1 k]
                        have er : bo_ S w d (k + 1) = some b := Eq.trans (if_neg (fun q => by rcases q.2 b hb with y | y <;> first | exact c127 y | exact c149 y.1 | exact absurd y.2 (Int32.not_lt.mpr c171))) hb
                        exact ih (k + 1) _ _ _ _ (by omega) (by omega) er
                      · first | exact absurd c188 (by decide) | exact absurd rfl c188 | exact absurd (of_decide_eq_true rfl) c188
                  · refine v_iconstv (v := 1) 175 dX12_takeOffcut_174 (by decide) rfl ?_
                    refine v_goto 179 dX12_takeOffcut_175 (by decide) ?_
                    refine v_istore 181 dX12_takeOffcut_179 (by decide) rfl rfl ?_
                    dsimp only [List.set]
                    refine v_iload 183 dX12_takeOffcut_181 rfl rfl ?_
                    refine v_if_eq 196 186 dX12_takeOffcut_183 (by decide) rfl (fun c183 => ?_) (fun c183 => ?_)
                    · first | exact absurd c183 (by decide) | exact absurd rfl c183 | exact absurd (of_decide_eq_true rfl) c183
                    · refine v_iload 188 dX12_takeOffcut_186 rfl rfl ?_
                      refine v_if_eq 196 191 dX12_takeOffcut_188 (by decide) rfl (fun c188 => ?_) (fun c188 => ?_)
                      · first | exact absurd c188 (by decide) | exact absurd rfl c188 | exact absurd (of_decide_eq_true rfl) c188
                      · refine v_iload 193 dX12_takeOffcut_191 rfl rfl ?_
                        refine v_goto 197 dX12_takeOffcut_193 (by decide) ?_
                        refine v_istore_n 198 dX12_takeOffcut_197 (by decide) rfl rfl ?_
                        dsimp only [List.set]
                        refine v_iinc 201 dX12_takeOffcut_198 rfl (by decide) rfl rfl ?_
                        dsimp only [List.set]
                        refine v_goto 50 dX12_takeOffcut_201 (by decide) ?_
                        rw [show nI k + Int32.ofInt 1 = nI (k + 1) from nI_1 k]
                        have er : bo_ S w d (k + 1) = some k := if_pos ⟨⟨Int32.not_lt.mp c85, Int32.not_lt.mp c93⟩, fun b9 e9 => by obtain rfl := Option.some.inj (hb.symm.trans e9); first | exact Or.inl c127 | exact Or.inr ⟨c149, Int32.not_le.mp c171⟩⟩
                        exact ih (k + 1) _ _ _ _ (by omega) (by omega) er
set_option maxRecDepth 20000 in
theorem C_X12_takeOffcut {G : GW} {h : PH} {Q : RS → PH → Prop} {S : SP} {N : Nat} (R : Rp2 S h) (I : Iv S N) (J : J2 S) {w d : Int32} (hq : ∀ v h', ((op_takeOffcut S w d).1 = 0 → v = (op_takeOffcut S w d).2.1) → Rp2 (op_takeOffcut S w d).2.2 h' → hp_vi h' 40 0 0 = nI (op_takeOffcut S w d).1 → ke_ h h' → Q (.inl (some (pv_I v))) h') : VV G 9 0 0 yX12_takeOffcut cX12_takeOffcut 8 (some .int) [] 0 (vv_en 8 [pv_O (40, 0), pv_I w, pv_I d]) [] h Q := by
  show VV G 9 0 0 yX12_takeOffcut cX12_takeOffcut 8 (some .int) [] 0 [some (pv_O (40, 0)), some (pv_I w), some (pv_I d), none, none, none, none, none] [] h Q
  obtain ⟨z0, z1, z2, z3, z4, z5⟩ := I.cs
  refine v_aload_n 1 dX12_takeOffcut_0 rfl rfl ?_
  refine v_invv (d' := 0) (k' := 0) (n' := 0) (k2 := 0) (n2 := 0) 4 [] dX12_takeOffcut_1 mt_X12_48 mi_X12_begins me_X12_begins (by first | assumption | rfl) (by rfl) rfl rfl (of_decide_eq_true rfl) rfl (by decide) rfl rfl rfl rfl (C2_begins R (fun h0 R e0 ke0 => ?_))
  refine v_aload_n 5 dX12_takeOffcut_4 rfl rfl ?_
  refine v_iload_n 6 dX12_takeOffcut_5 rfl rfl ?_
  refine v_i2l 7 dX12_takeOffcut_6 rfl ?_
  refine v_ldc2 10 dX12_takeOffcut_7 cn_X12_360 rfl rfl ?_
  refine v_ldc2 13 dX12_takeOffcut_10 cn_X12_362 rfl rfl ?_
  refine v_invs (d' := 0) (k' := 0) (n' := 0) (k2 := 0) (n2 := 0) 16 [_, _, _] dX12_takeOffcut_13 mt_X12_44 ms_X12_in rfl rfl (of_decide_eq_true rfl) rfl (by decide) rfl rfl rfl rfl (C_in2 (lo := 50) (hi := 4000) rfl (by decide) (by decide) (fun a13 => ?_) (fun b13 => ?_))
  · refine v_if_eq 31 19 dX12_takeOffcut_16 (by decide) rfl (fun c16 => ?_) (fun c16 => ?_)
    · first | exact absurd c16 (by decide) | exact absurd rfl c16 | exact absurd (of_decide_eq_true rfl) c16
    · refine v_iload_n 20 dX12_takeOffcut_19 rfl rfl ?_
      refine v_i2l 21 dX12_takeOffcut_20 rfl ?_
      refine v_lconst (v := 1) 22 dX12_takeOffcut_21 (by decide) rfl ?_
      refine v_ldc2 25 dX12_takeOffcut_22 cn_X12_125 rfl rfl ?_
      refine v_invs (d' := 0) (k' := 0) (n' := 0) (k2 := 0) (n2 := 0) 28 [_, _, _] dX12_takeOffcut_25 mt_X12_44 ms_X12_in rfl rfl (of_decide_eq_true rfl) rfl (by decide) rfl rfl rfl rfl (C_in2 (lo := 1) (hi := 20) rfl (by decide) (by decide) (fun a25 => ?_) (fun b25 => ?_))
      · refine v_if_ne 35 31 dX12_takeOffcut_28 (by decide) rfl (fun c28 => ?_) (fun c28 => ?_)
        · refine v_iconstv (v := 0) 36 dX12_takeOffcut_35 (by decide) rfl ?_
          refine v_iconstv (v := 1) 37 dX12_takeOffcut_36 (by decide) rfl ?_
          refine v_invv (d' := 0) (k' := 0) (n' := 0) (k2 := 0) (n2 := 0) 40 [_, _] dX12_takeOffcut_37 mt_X12_67 mi_X12_fails me_X12_fails (by first | assumption | rfl) (by rfl) rfl rfl (of_decide_eq_true rfl) rfl (by decide) rfl rfl rfl rfl (C_f0 e0 ?_)
          refine v_if_eq 45 43 dX12_takeOffcut_40 (by decide) rfl (fun c40 => ?_) (fun c40 => ?_)
          · refine v_iconstv (v := -1) 46 dX12_takeOffcut_45 (by decide) rfl ?_
            refine v_istore_n 47 dX12_takeOffcut_46 (by decide) rfl rfl ?_
            dsimp only [List.set]
            refine v_iconstv (v := 0) 48 dX12_takeOffcut_47 (by decide) rfl ?_
            refine v_istore 50 dX12_takeOffcut_48 (by decide) rfl rfl ?_
            dsimp only [List.set]
            unfold op_takeOffcut at hq
            rw [if_pos ⟨a13, a25⟩] at hq
            refine L_X12_takeOffcut R I J e0 (fun e => ?_) (fun b e h9 R9 e9 ke9 => ?_) _ 0 none _ _ _ (Nat.zero_le _) (Nat.lt_succ_self _) rfl
            · rw [e] at hq
              exact hq _ _ (fun e => absurd e (Nat.succ_ne_zero _)) R.th hp_seti_at (ke0.tr (ke_.i (by decide) (by decide)))
            · rw [e] at hq
              exact hq _ _ (fun _ => rfl) R9 e9 (ke0.tr ke9)
          · first | exact absurd c40 (by decide) | exact absurd rfl c40 | exact absurd (of_decide_eq_true rfl) c40
        · first | exact absurd c28 (by decide) | exact absurd rfl c28 | exact absurd (of_decide_eq_true rfl) c28
      · refine v_if_ne 35 31 dX12_takeOffcut_28 (by decide) rfl (fun c28 => ?_) (fun c28 => ?_)
        · first | exact absurd c28 (by decide) | exact absurd rfl c28 | exact absurd (of_decide_eq_true rfl) c28
        · refine v_iconstv (v := 1) 32 dX12_takeOffcut_31 (by decide) rfl ?_
          refine v_goto 36 dX12_takeOffcut_32 (by decide) ?_
          refine v_iconstv (v := 1) 37 dX12_takeOffcut_36 (by decide) rfl ?_
          refine v_invv (d' := 0) (k' := 0) (n' := 0) (k2 := 0) (n2 := 0) 40 [_, _] dX12_takeOffcut_37 mt_X12_67 mi_X12_fails me_X12_fails (by first | assumption | rfl) (by rfl) rfl rfl (of_decide_eq_true rfl) rfl (by decide) rfl rfl rfl rfl (C_f1 e0 (by decide) ?_)
          refine v_if_eq 45 43 dX12_takeOffcut_40 (by decide) rfl (fun c40 => ?_) (fun c40 => ?_)
          · first | exact absurd c40 (by decide) | exact absurd rfl c40 | exact absurd (of_decide_eq_true rfl) c40
          · refine v_iconstv (v := -1) 44 dX12_takeOffcut_43 (by decide) rfl ?_
            refine v_ireturn dX12_takeOffcut_44 rfl ?_
            have ev : op_takeOffcut S w d = (1, 0, S) := by unfold op_takeOffcut; simp only [eq_true a13, b25, ↓reduceIte, and_self, and_true, true_and, and_false, false_and, not_true_eq_false, not_false_eq_true]
            rw [ev] at hq
            exact hq _ _ (fun e => absurd e (Nat.succ_ne_zero _)) R.th hp_seti_at (ke0.tr (ke_.i (by decide) (by decide)))
  · refine v_if_eq 31 19 dX12_takeOffcut_16 (by decide) rfl (fun c16 => ?_) (fun c16 => ?_)
    · refine v_iconstv (v := 1) 32 dX12_takeOffcut_31 (by decide) rfl ?_
      refine v_goto 36 dX12_takeOffcut_32 (by decide) ?_
      refine v_iconstv (v := 1) 37 dX12_takeOffcut_36 (by decide) rfl ?_
      refine v_invv (d' := 0) (k' := 0) (n' := 0) (k2 := 0) (n2 := 0) 40 [_, _] dX12_takeOffcut_37 mt_X12_67 mi_X12_fails me_X12_fails (by first | assumption | rfl) (by rfl) rfl rfl (of_decide_eq_true rfl) rfl (by decide) rfl rfl rfl rfl (C_f1 e0 (by decide) ?_)
      refine v_if_eq 45 43 dX12_takeOffcut_40 (by decide) rfl (fun c40 => ?_) (fun c40 => ?_)
      · first | exact absurd c40 (by decide) | exact absurd rfl c40 | exact absurd (of_decide_eq_true rfl) c40
      · refine v_iconstv (v := -1) 44 dX12_takeOffcut_43 (by decide) rfl ?_
        refine v_ireturn dX12_takeOffcut_44 rfl ?_
        have ev : op_takeOffcut S w d = (1, 0, S) := by unfold op_takeOffcut; simp only [b13, ↓reduceIte, and_self, and_true, true_and, and_false, false_and, not_true_eq_false, not_false_eq_true]
        rw [ev] at hq
        exact hq _ _ (fun e => absurd e (Nat.succ_ne_zero _)) R.th hp_seti_at (ke0.tr (ke_.i (by decide) (by decide)))
    · first | exact absurd c16 (by decide) | exact absurd rfl c16 | exact absurd (of_decide_eq_true rfl) c16
