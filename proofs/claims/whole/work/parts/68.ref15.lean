theorem bs_neg (S : SP) (p f m : Nat) (mt : Int32) : ∀ k, k ≤ 600 → (bs_ S p f m mt k).1 = -1 ∨ ¬ (bs_ S p f m mt k).1 < 0
  | 0, _ => Or.inl rfl
  | k + 1, h => by
    unfold bs_
    split
    · exact Or.inr (nI_pos (by omega))
    · exact bs_neg S p f m mt k (by omega)
theorem Rp2.tmp {S : SP} {h : PH} {t i : Nat} {r : RN} {x y : Int32} (R : Rp2 S h) (ht : 65 ≤ t) : Rp2 S (hp_seti (hp_seti (hp_setr (hp_new h t i 0) t i 0 r) t i 1 x) t i 2 y) := R.te (fun u hu => (((hp_te.n (by omega)).tr (hp_te.r (by omega))).tr (hp_te.i (by omega))).tr (hp_te.i (by omega)))
set_option maxRecDepth 20000 in
theorem L_X12_bestFirst {G : GW} {h0 : PH} {Q : RS → PH → Prop} {S : SP} {N : Nat} (I : Iv S N) {x y mt : Int32} (hx : ok_i x (nn_ S 2)) {f m : Nat} (hf : f < nn_ S 1) (hm1 : 1 ≤ m) (hm8 : m ≤ 8) (hqN : (bs_ S (cl_ x) f m mt (s_n S f + 1 - m)).1 = -1 → ∀ h', Rp2 S h' → hp_vi h' 40 0 0 = 0 → ke_ h0 h' → Q (.inl (some (pv_I (-1)))) (hp_seti h' 40 0 0 3)) (hqS : ¬ (bs_ S (cl_ x) f m mt (s_n S f + 1 - m)).1 = -1 → ∀ h', Rp2 S h' → hp_vi h' 40 0 0 = 0 → ke_ h0 h' → Q (.inl (some (pv_I (bs_ S (cl_ x) f m mt (s_n S f + 1 - m)).1))) h') (F0 : fr_s h0) : ∀ fuel : Nat, ∀ (k : Nat) (z9 : Option PV) (h : PH), k + fuel = s_n S f + 1 - m → Rp2 S h → hp_vi h 40 0 0 = 0 → fr_s h → ke_ h0 h → VV G 9 fuel (3 * fuel) yX12_bestFirst cX12_bestFirst 10 (some .int) [] 100 [some (pv_O (40, 0)), some (pv_I x), some (pv_I y), some (pv_I (nI m)), some (pv_I mt), some (pv_O (42, f)), some (pv_I (bs_ S (cl_ x) f m mt k).1), some (pv_I (bs_ S (cl_ x) f m mt k).2), some (pv_I (nI k)), z9] [] h Q := by
  intro fuel
  induction fuel with
  | zero =>
    intro k z9 h hk R e0 Fr keh
    have h24 := I.n24 hf
    rw [show bs_ S (cl_ x) f m mt k = bs_ S (cl_ x) f m mt (s_n S f + 1 - m) from by rw [show k = s_n S f + 1 - m by omega]]
    refine v_iload 102 dX12_bestFirst_100 rfl rfl ?_
    refine v_iload_n 103 dX12_bestFirst_102 rfl rfl ?_
    refine v_iadd 104 dX12_bestFirst_103 rfl ?_
    rw [nI_add]
    refine v_aload 106 dX12_bestFirst_104 rfl rfl ?_
    refine v_getfr 109 dX12_bestFirst_106 fl_X12_103 (by first | assumption | rfl) (by rfl) rfl ?_
    rw [R.vr (t := 42) (by decide), I.us hf]
    refine v_alen 110 dX12_bestFirst_109 (by first | assumption | rfl) (by simp [g_tys]) rfl ?_
    rw [R.ln (t := 62) (by decide), show hp_ln S.1 62 f = s_n S f from rfl]
    refine v_icmp_gt 183 113 dX12_bestFirst_110 (by decide) rfl (fun c110 => ?_) (fun c110 => ?_)
    · refine v_aload_n 184 dX12_bestFirst_183 rfl rfl ?_
      refine v_iload 186 dX12_bestFirst_184 rfl rfl ?_
      refine v_iconstv (v := -1) 187 dX12_bestFirst_186 (by decide) rfl ?_
      refine v_icmp_ne 194 190 dX12_bestFirst_187 (by decide) rfl (fun c187 => ?_) (fun c187 => ?_)
      · refine v_iconstv (v := 0) 195 dX12_bestFirst_194 (by decide) rfl ?_
        refine v_iconstv (v := 3) 196 dX12_bestFirst_195 (by decide) rfl ?_
        refine v_invv (d' := 0) (k' := 0) (n' := 0) (k2 := 0) (n2 := 0) 199 [_, _] dX12_bestFirst_196 mt_X12_67 mi_X12_fails me_X12_fails (by first | assumption | rfl) (by rfl) rfl rfl (of_decide_eq_true rfl) rfl (by decide) rfl rfl rfl rfl (C_f0 e0 ?_)
        refine v_if_eq 206 202 dX12_bestFirst_199 (by decide) rfl (fun c199 => ?_) (fun c199 => ?_)
        · refine v_iload 208 dX12_bestFirst_206 rfl rfl ?_
          refine v_ireturn dX12_bestFirst_208 rfl ?_
          exact hqS c187 _ R e0 keh
        · first | exact absurd c199 (by decide) | exact absurd rfl c199 | exact absurd (of_decide_eq_true rfl) c199
      · refine v_iconstv (v := 1) 191 dX12_bestFirst_190 (by decide) rfl ?_
        refine v_goto 195 dX12_bestFirst_191 (by decide) ?_
        refine v_iconstv (v := 3) 196 dX12_bestFirst_195 (by decide) rfl ?_
        refine v_invv (d' := 0) (k' := 0) (n' := 0) (k2 := 0) (n2 := 0) 199 [_, _] dX12_bestFirst_196 mt_X12_67 mi_X12_fails me_X12_fails (by first | assumption | rfl) (by rfl) rfl rfl (of_decide_eq_true rfl) rfl (by decide) rfl rfl rfl rfl (C_f1 e0 (by decide) ?_)
        refine v_if_eq 206 202 dX12_bestFirst_199 (by decide) rfl (fun c199 => ?_) (fun c199 => ?_)
        · first | exact absurd c199 (by decide) | exact absurd rfl c199 | exact absurd (of_decide_eq_true rfl) c199
        · refine v_iconstv (v := -1) 203 dX12_bestFirst_202 (by decide) rfl ?_
          refine v_goto 208 dX12_bestFirst_203 (by decide) ?_
          refine v_ireturn dX12_bestFirst_208 rfl ?_
          exact hqN c187 _ R e0 keh
    · exact absurd (nI_lt (a := s_n S f) (b := k + m) (by omega) (by omega)) (Int32.not_lt.mpr (by first | exact Int32.not_lt.mp c110 | exact c110))
  | succ fuel ih =>
    intro k zz9 h hk R e0 Fr keh
    have h24 := I.n24 hf
    obtain ⟨g, hg⟩ := Fr 70 (by decide) (by decide)
    refine v_iload 102 dX12_bestFirst_100 rfl rfl ?_
    refine v_iload_n 103 dX12_bestFirst_102 rfl rfl ?_
    refine v_iadd 104 dX12_bestFirst_103 rfl ?_
    rw [nI_add]
    refine v_aload 106 dX12_bestFirst_104 rfl rfl ?_
    refine v_getfr 109 dX12_bestFirst_106 fl_X12_103 (by first | assumption | rfl) (by rfl) rfl ?_
    rw [R.vr (t := 42) (by decide), I.us hf]
    refine v_alen 110 dX12_bestFirst_109 (by first | assumption | rfl) (by simp [g_tys]) rfl ?_
    rw [R.ln (t := 62) (by decide), show hp_ln S.1 62 f = s_n S f from rfl]
    refine v_icmp_gt 183 113 dX12_bestFirst_110 (by decide) rfl (fun c110 => ?_) (fun c110 => ?_)
    · exact absurd (Int32.lt_iff_toInt_lt.mp c110) (by rw [nI_toInt (by omega), nI_toInt (by omega)]; omega)
    · refine v_new (k1 := (fuel)) (n1 := (3 * fuel)) 116 70 g dX12_bestFirst_113 nw_X12_157 (by rfl) (by decide) (hg g (Nat.le_refl _)) rfl rfl rfl ?_
      refine v_dup 117 dX12_bestFirst_116 rfl rfl ?_
      refine v_aload 119 dX12_bestFirst_117 rfl rfl ?_
      refine v_iload 121 dX12_bestFirst_119 rfl rfl ?_
      refine v_iload_n 122 dX12_bestFirst_121 rfl rfl ?_
      refine v_invi (d' := 1) (k' := 0) (n' := 0) (k2 := (fuel)) (n2 := (3 * fuel)) 125 [_, _, _] dX12_bestFirst_122 mt_X12_183 mi_X8_init rfl rfl (by first | assumption | rfl) rfl rfl (of_decide_eq_true rfl) rfl (by decide) rfl rfl rfl rfl (C_X8_init rfl (by decide) ?_)
      have R : Rp2 S (hp_seti (hp_seti (hp_setr (hp_new h 70 g 0) 70 g 0 (42, f)) 70 g 1 (nI k)) 70 g 2 (nI m)) := R.tmp (by decide)
      have keh : ke_ h0 (hp_seti (hp_seti (hp_setr (hp_new h 70 g 0) 70 g 0 (42, f)) 70 g 1 (nI k)) 70 g 2 (nI m)) := keh.tr (by repeat' first | exact ke_.rf | refine ke_.tr ?_ (ke_.i (by decide) (by decide)) | refine ke_.tr ?_ (ke_.r (by decide) (by decide)) | refine ke_.tr ?_ (ke_.n (by decide) (by decide)))
      have e0 : hp_vi (hp_seti (hp_seti (hp_setr (hp_new h 70 g 0) 70 g 0 (42, f)) 70 g 1 (nI k)) 70 g 2 (nI m)) 40 0 0 = 0 := e0
      refine v_iload 127 dX12_bestFirst_125 rfl rfl ?_
      refine v_invv (d' := 2) (k' := 0) (n' := 0) (k2 := (fuel)) (n2 := (3 * fuel)) 130 [_] dX12_bestFirst_127 mt_X12_198 mi_X8_jump me_X8_jump (by first | assumption | rfl) (by rfl) rfl rfl (of_decide_eq_true rfl) rfl (by decide) rfl rfl rfl rfl (C_X8_jump (a := k) (m := m) (R.tg (t := 41) (by decide)) (R.tg (t := 42) (by decide)) I hf rfl hp_setr_at ((hp_seti_ne (by simp)).trans hp_seti_at) hp_seti_at (by omega) hm1 ?_)
      refine v_istore 132 dX12_bestFirst_130 (by decide) rfl rfl ?_
      dsimp only [List.set]
      refine v_aload_n 133 dX12_bestFirst_132 rfl rfl ?_
      refine v_getfr 136 dX12_bestFirst_133 fl_X12_19 (by first | assumption | rfl) (by rfl) rfl ?_
      rw [R.1.1.2.2.2.1]
      refine v_iload_n 137 dX12_bestFirst_136 rfl rfl ?_
      refine v_invf (z := ("java/util/ArrayList", TJx4a65c, 3)) (d' := 2) (k' := 0) (n' := 0) (k2 := (fuel)) (n2 := (3 * fuel)) 142 [_] dX12_bestFirst_137 mf_X12_90 md_Jx4a65c_get_915e3 mi_Jx4a65c_get_915e3 se_Jx4a65c_get_915e3 (by simp [g_fw]; rfl) ⟨by decide, by decide +kernel⟩ (by first | assumption | rfl) (by rfl) rfl rfl (of_decide_eq_true rfl) rfl (by decide) rfl rfl rfl rfl (C_gt (tl := 52) (ta := 58) rfl rfl R.2.1.2.2.1 (by assumption) ?_)
      refine v_cast 145 dX12_bestFirst_142 ⟨_, _, rfl, rfl, cl_X12_129⟩ rfl ?_
      refine v_aload 147 dX12_bestFirst_145 rfl rfl ?_
      refine v_iload 149 dX12_bestFirst_147 rfl rfl ?_
      refine v_iload_n 150 dX12_bestFirst_149 rfl rfl ?_
      refine v_invs (d' := 2) (k' := 0) (n' := 0) (k2 := (fuel)) (n2 := (3 * fuel)) 153 [_, _, _, _] dX12_bestFirst_150 mt_X12_190 ms_X12_canLie rfl rfl (of_decide_eq_true rfl) rfl (by decide) rfl rfl rfl rfl (C_X12_canLie (p := cl_ x) (f := f) (a := k) (m := m) (R.tg (t := 41) (by decide)) (R.tg (t := 42) (by decide)) (R.tg (t := 43) (by decide)) (R.tg (t := 62) (by decide)) I hf (by omega) hm1 (fun g9 => ?_) (fun g9 => ?_))
      · refine v_if_eq 177 156 dX12_bestFirst_153 (by decide) rfl (fun c153 => ?_) (fun c153 => ?_)
        · first | exact absurd c153 (by decide) | exact absurd rfl c153 | exact absurd (of_decide_eq_true rfl) c153
        · refine v_iload 158 dX12_bestFirst_156 rfl rfl ?_
          refine v_iconstv (v := -1) 159 dX12_bestFirst_158 (by decide) rfl ?_
          refine v_icmp_eq 169 162 dX12_bestFirst_159 (by decide) rfl (fun c159 => ?_) (fun c159 => ?_)
          · refine v_iload 171 dX12_bestFirst_169 rfl rfl ?_
            refine v_istore 173 dX12_bestFirst_171 (by decide) rfl rfl ?_
            dsimp only [List.set]
            refine v_iload 175 dX12_bestFirst_173 rfl rfl ?_
            refine v_istore 177 dX12_bestFirst_175 (by decide) rfl rfl ?_
            dsimp only [List.set]
            refine v_iinc 180 dX12_bestFirst_177 rfl (by decide) rfl rfl ?_
            dsimp only [List.set]
            refine v_goto 100 dX12_bestFirst_180 (by decide) ?_
            rw [show nI k + Int32.ofInt 1 = nI (k + 1) from nI_1 k]
            have X := fun z => ih (k + 1) z _ (by omega) R e0 (keh.2 F0) keh
            rw [show bs_ S (cl_ x) f m mt (k + 1) = (nI k, s_jp S f k m mt) from if_pos ⟨g9, Or.inl (by rw [c159]; decide)⟩] at X
            exact X _
          · refine v_iload 164 dX12_bestFirst_162 rfl rfl ?_
            refine v_iload 166 dX12_bestFirst_164 rfl rfl ?_
            refine v_icmp_ge 177 169 dX12_bestFirst_166 (by decide) rfl (fun c166 => ?_) (fun c166 => ?_)
            · refine v_iinc 180 dX12_bestFirst_177 rfl (by decide) rfl rfl ?_
              dsimp only [List.set]
              refine v_goto 100 dX12_bestFirst_180 (by decide) ?_
              rw [show nI k + Int32.ofInt 1 = nI (k + 1) from nI_1 k]
              have X := fun z => ih (k + 1) z _ (by omega) R e0 (keh.2 F0) keh
              rw [show bs_ S (cl_ x) f m mt (k + 1) = bs_ S (cl_ x) f m mt k from if_neg (fun q => by rcases bs_neg S (cl_ x) f m mt k (by omega) with y1 | y1 <;> rcases q.2 with y2 | y2 <;> first | exact c159 y1 | exact y1 y2 | exact absurd y2 (Int32.not_lt.mpr c166))] at X
              exact X _
            · refine v_iload 171 dX12_bestFirst_169 rfl rfl ?_
              refine v_istore 173 dX12_bestFirst_171 (by decide) rfl rfl ?_
              dsimp only [List.set]
              refine v_iload 175 dX12_bestFirst_173 rfl rfl ?_
              refine v_istore 177 dX12_bestFirst_175 (by decide) rfl rfl ?_
              dsimp only [List.set]
              refine v_iinc 180 dX12_bestFirst_177 rfl (by decide) rfl rfl ?_
              dsimp only [List.set]
              refine v_goto 100 dX12_bestFirst_180 (by decide) ?_
              rw [show nI k + Int32.ofInt 1 = nI (k + 1) from nI_1 k]
              have X := fun z => ih (k + 1) z _ (by omega) R e0 (keh.2 F0) keh
              rw [show bs_ S (cl_ x) f m mt (k + 1) = (nI k, s_jp S f k m mt) from if_pos ⟨g9, Or.inr (Int32.not_le.mp c166)⟩] at X
              exact X _
      · refine v_if_eq 177 156 dX12_bestFirst_153 (by decide) rfl (fun c153 => ?_) (fun c153 => ?_)
        · refine v_iinc 180 dX12_bestFirst_177 rfl (by decide) rfl rfl ?_
          dsimp only [List.set]
          refine v_goto 100 dX12_bestFirst_180 (by decide) ?_
          rw [show nI k + Int32.ofInt 1 = nI (k + 1) from nI_1 k]
          have X := fun z => ih (k + 1) z _ (by omega) R e0 (keh.2 F0) keh
          rw [show bs_ S (cl_ x) f m mt (k + 1) = bs_ S (cl_ x) f m mt k from if_neg (fun q => g9 q.1)] at X
          exact X _
        · first | exact absurd c153 (by decide) | exact absurd rfl c153 | exact absurd (of_decide_eq_true rfl) c153
set_option maxRecDepth 20000 in
theorem C_X12_bestFirst {G : GW} {h : PH} {Q : RS → PH → Prop} {S : SP} {N : Nat} (R : Rp2 S h) (I : Iv S N) (Fr : fr_s h) {x y many mt : Int32} (hmt : 0 ≤ mt ∧ mt ≤ 65535) (hq : ∀ v h', ((op_bestFirst S x y many mt).1 = 0 → v = (op_bestFirst S x y many mt).2) → Rp2 S h' → hp_vi h' 40 0 0 = nI (op_bestFirst S x y many mt).1 → ke_ h h' → Q (.inl (some (pv_I v))) h') : VV G 10 32 96 yX12_bestFirst cX12_bestFirst 10 (some .int) [] 0 (vv_en 10 [pv_O (40, 0), pv_I x, pv_I y, pv_I many, pv_I mt]) [] h Q := by
  show VV G 10 32 96 yX12_bestFirst cX12_bestFirst 10 (some .int) [] 0 [some (pv_O (40, 0)), some (pv_I x), some (pv_I y), some (pv_I many), some (pv_I mt), none, none, none, none, none] [] h Q
  obtain ⟨z0, z1, z2, z3, z4, z5⟩ := I.cs
  refine v_aload_n 1 dX12_bestFirst_0 rfl rfl ?_
  refine v_invv (d' := 0) (k' := 0) (n' := 0) (k2 := 32) (n2 := 96) 4 [] dX12_bestFirst_1 mt_X12_48 mi_X12_begins me_X12_begins (by first | assumption | rfl) (by rfl) rfl rfl (of_decide_eq_true rfl) rfl (by decide) rfl rfl rfl rfl (C2_begins R (fun h0 R e0 ke0 => ?_))
  have Fr := ke0.2 Fr
  refine v_aload_n 5 dX12_bestFirst_4 rfl rfl ?_
  refine v_aload_n 6 dX12_bestFirst_5 rfl rfl ?_
  refine v_getfr 9 dX12_bestFirst_6 fl_X12_19 (by first | assumption | rfl) (by rfl) rfl ?_
  rw [R.1.1.2.2.2.1]
  refine v_iload_n 10 dX12_bestFirst_9 rfl rfl ?_
  refine v_invs (d' := 2) (k' := 0) (n' := 0) (k2 := 32) (n2 := 96) 13 [_, _] dX12_bestFirst_10 mt_X12_80 ms_X12_isOf rfl rfl (of_decide_eq_true rfl) rfl (by decide) rfl rfl rfl rfl (C_isOf (tl := 52) (ta := 58) rfl rfl R.2.1.2.2.1 (fun a10 => ?_) (fun b10 => ?_))
  · refine v_if_eq 27 16 dX12_bestFirst_13 (by decide) rfl (fun c13 => ?_) (fun c13 => ?_)
    · first | exact absurd c13 (by decide) | exact absurd rfl c13 | exact absurd (of_decide_eq_true rfl) c13
    · refine v_aload_n 17 dX12_bestFirst_16 rfl rfl ?_
      refine v_getfr 20 dX12_bestFirst_17 fl_X12_16 (by first | assumption | rfl) (by rfl) rfl ?_
      rw [R.1.1.2.2.1]
      refine v_iload_n 21 dX12_bestFirst_20 rfl rfl ?_
      refine v_invs (d' := 2) (k' := 0) (n' := 0) (k2 := 32) (n2 := 96) 24 [_, _] dX12_bestFirst_21 mt_X12_80 ms_X12_isOf rfl rfl (of_decide_eq_true rfl) rfl (by decide) rfl rfl rfl rfl (C_isOf (tl := 51) (ta := 57) rfl rfl R.2.1.2.1 (fun a21 => ?_) (fun b21 => ?_))
      · refine v_if_ne 31 27 dX12_bestFirst_24 (by decide) rfl (fun c24 => ?_) (fun c24 => ?_)
        · refine v_iconstv (v := 0) 32 dX12_bestFirst_31 (by decide) rfl ?_
          refine v_iconstv (v := 1) 33 dX12_bestFirst_32 (by decide) rfl ?_
          refine v_invv (d' := 0) (k' := 0) (n' := 0) (k2 := 32) (n2 := 96) 36 [_, _] dX12_bestFirst_33 mt_X12_67 mi_X12_fails me_X12_fails (by first | assumption | rfl) (by rfl) rfl rfl (of_decide_eq_true rfl) rfl (by decide) rfl rfl rfl rfl (C_f0 e0 ?_)
          refine v_if_ne 74 39 dX12_bestFirst_36 (by decide) rfl (fun c36 => ?_) (fun c36 => ?_)
          · first | exact absurd c36 (by decide) | exact absurd rfl c36 | exact absurd (of_decide_eq_true rfl) c36
          · refine v_aload_n 40 dX12_bestFirst_39 rfl rfl ?_
            refine v_ldcs (i := 9) (tx := "bsr") 42 dX12_bestFirst_40 (by first | (simp [g_sx]; done) | (simp [g_sx]; rfl)) (by decide) rfl ?_
            refine v_iload 44 dX12_bestFirst_42 rfl rfl ?_
            refine v_invv (d' := 3) (k' := 0) (n' := 0) (k2 := 32) (n2 := 96) 47 [_] dX12_bestFirst_44 mt_X12_53 mi_J0_indexOf_0f7a4 me_J0_indexOf_0f7a4 (by first | assumption | rfl) (by rfl) rfl rfl (of_decide_eq_true rfl) rfl (by decide) rfl rfl rfl rfl (C_ixf (by decide) hmt.1 ?_)
            refine v_if_lt 62 50 dX12_bestFirst_47 (by decide) rfl (fun c47 => ?_) (fun c47 => ?_)
            · have c47 : ixf_ mt tx_m 0 < 0 := c47
              refine v_iconstv (v := 1) 63 dX12_bestFirst_62 (by decide) rfl ?_
              refine v_goto 67 dX12_bestFirst_63 (by decide) ?_
              refine v_iconstv (v := 2) 68 dX12_bestFirst_67 (by decide) rfl ?_
              refine v_invv (d' := 0) (k' := 0) (n' := 0) (k2 := 32) (n2 := 96) 71 [_, _] dX12_bestFirst_68 mt_X12_67 mi_X12_fails me_X12_fails (by first | assumption | rfl) (by rfl) rfl rfl (of_decide_eq_true rfl) rfl (by decide) rfl rfl rfl rfl (C_f1 e0 (by decide) ?_)
              refine v_if_eq 76 74 dX12_bestFirst_71 (by decide) rfl (fun c71 => ?_) (fun c71 => ?_)
              · first | exact absurd c71 (by decide) | exact absurd rfl c71 | exact absurd (of_decide_eq_true rfl) c71
              · refine v_iconstv (v := -1) 75 dX12_bestFirst_74 (by decide) rfl ?_
                refine v_ireturn dX12_bestFirst_75 rfl ?_
                have ev : op_bestFirst S x y many mt = (2, 0) := by unfold op_bestFirst; simp only [eq_true a10, eq_true a21, c47, ↓reduceIte, and_self, and_true, true_and, and_false, false_and, not_true_eq_false, not_false_eq_true]
                rw [ev] at hq
                exact hq _ _ (fun e => absurd e (Nat.succ_ne_zero _)) R.th hp_seti_at (ke0.tr (ke_.i (by decide) (by decide)))
            · have c47 : ¬ ixf_ mt tx_m 0 < 0 := c47
              refine v_iload_n 51 dX12_bestFirst_50 rfl rfl ?_
              refine v_i2l 52 dX12_bestFirst_51 rfl ?_
              refine v_lconst (v := 1) 53 dX12_bestFirst_52 (by decide) rfl ?_
              refine v_ldc2 56 dX12_bestFirst_53 cn_X12_181 rfl rfl ?_
              refine v_invs (d' := 0) (k' := 0) (n' := 0) (k2 := 32) (n2 := 96) 59 [_, _, _] dX12_bestFirst_56 mt_X12_44 ms_X12_in rfl rfl (of_decide_eq_true rfl) rfl (by decide) rfl rfl rfl rfl (C_in2 (lo := 1) (hi := 8) rfl (by decide) (by decide) (fun a56 => ?_) (fun b56 => ?_))
              · refine v_if_ne 66 62 dX12_bestFirst_59 (by decide) rfl (fun c59 => ?_) (fun c59 => ?_)
                · refine v_iconstv (v := 0) 67 dX12_bestFirst_66 (by decide) rfl ?_
                  refine v_iconstv (v := 2) 68 dX12_bestFirst_67 (by decide) rfl ?_
                  refine v_invv (d' := 0) (k' := 0) (n' := 0) (k2 := 32) (n2 := 96) 71 [_, _] dX12_bestFirst_68 mt_X12_67 mi_X12_fails me_X12_fails (by first | assumption | rfl) (by rfl) rfl rfl (of_decide_eq_true rfl) rfl (by decide) rfl rfl rfl rfl (C_f0 e0 ?_)
                  refine v_if_eq 76 74 dX12_bestFirst_71 (by decide) rfl (fun c71 => ?_) (fun c71 => ?_)
                  · refine v_aload_n 77 dX12_bestFirst_76 rfl rfl ?_
                    refine v_getfr 80 dX12_bestFirst_77 fl_X12_16 (by first | assumption | rfl) (by rfl) rfl ?_
                    rw [R.1.1.2.2.1]
                    refine v_iload_n 81 dX12_bestFirst_80 rfl rfl ?_
                    refine v_invf (z := ("java/util/ArrayList", TJx4a65c, 3)) (d' := 2) (k' := 0) (n' := 0) (k2 := 32) (n2 := 96) 86 [_] dX12_bestFirst_81 mf_X12_90 md_Jx4a65c_get_915e3 mi_Jx4a65c_get_915e3 se_Jx4a65c_get_915e3 (by simp [g_fw]; rfl) ⟨by decide, by decide +kernel⟩ (by first | assumption | rfl) (by rfl) rfl rfl (of_decide_eq_true rfl) rfl (by decide) rfl rfl rfl rfl (C_gt (tl := 51) (ta := 57) rfl rfl R.2.1.2.1 (by assumption) ?_)
                    refine v_cast 89 dX12_bestFirst_86 ⟨_, _, rfl, rfl, cl_X12_98⟩ rfl ?_
                    refine v_astore 91 dX12_bestFirst_89 (by decide) rfl rfl ?_
                    dsimp only [List.set]
                    refine v_iconstv (v := -1) 92 dX12_bestFirst_91 (by decide) rfl ?_
                    refine v_istore 94 dX12_bestFirst_92 (by decide) rfl rfl ?_
                    dsimp only [List.set]
                    refine v_iconstv (v := 0) 95 dX12_bestFirst_94 (by decide) rfl ?_
                    refine v_istore 97 dX12_bestFirst_95 (by decide) rfl rfl ?_
                    dsimp only [List.set]
                    refine v_iconstv (v := 0) 98 dX12_bestFirst_97 (by decide) rfl ?_
                    refine v_istore 100 dX12_bestFirst_98 (by decide) rfl rfl ?_
                    dsimp only [List.set]
                    have hc := a21.cl (by omega)
                    obtain ⟨m, m1, m2, em⟩ := a_nat (lo := 1) (hi := 8) a56 (by decide) (by decide)
                    have ecm : cl_ many = m := by rw [em]; exact nI_clamp (by omega)
                    have e9 : op_bestFirst S x y many mt = if (bs_ S (cl_ x) (cl_ y) (cl_ many) mt (s_n S (cl_ y) + 1 - cl_ many)).1 < 0 then (3, 0) else (0, (bs_ S (cl_ x) (cl_ y) (cl_ many) mt (s_n S (cl_ y) + 1 - cl_ many)).1) := by unfold op_bestFirst; simp only [eq_true a10, eq_true a21, c47, eq_true a56, ↓reduceIte, and_self, and_true, true_and, and_false, false_and, not_true_eq_false, not_false_eq_true]
                    rw [e9, ecm] at hq
                    rw [em]
                    have h24 := I.n24 hc.1
                    refine VV.less (by decide) (by omega) (by omega) (L_X12_bestFirst (f := cl_ y) I a10 hc.1 m1 m2 (fun w h9 R9 e9 ke9 => ?_) (fun w h9 R9 e9 ke9 => ?_) Fr (s_n S (cl_ y) + 1 - m) 0 _ _ (Nat.zero_add _) R e0 Fr ke_.rf)
                    · rw [if_pos (by rw [w]; decide)] at hq
                      exact hq _ _ (fun e => absurd e (Nat.succ_ne_zero _)) R9.th hp_seti_at ((ke0.tr ke9).tr (ke_.i (by decide) (by decide)))
                    · rw [if_neg ((bs_neg S (cl_ x) (cl_ y) m mt _ (by omega)).resolve_left w)] at hq
                      exact hq _ _ (fun _ => rfl) R9 e9 (ke0.tr ke9)
                  · first | exact absurd c71 (by decide) | exact absurd rfl c71 | exact absurd (of_decide_eq_true rfl) c71
                · first | exact absurd c59 (by decide) | exact absurd rfl c59 | exact absurd (of_decide_eq_true rfl) c59
              · refine v_if_ne 66 62 dX12_bestFirst_59 (by decide) rfl (fun c59 => ?_) (fun c59 => ?_)
                · first | exact absurd c59 (by decide) | exact absurd rfl c59 | exact absurd (of_decide_eq_true rfl) c59
                · refine v_iconstv (v := 1) 63 dX12_bestFirst_62 (by decide) rfl ?_
                  refine v_goto 67 dX12_bestFirst_63 (by decide) ?_
                  refine v_iconstv (v := 2) 68 dX12_bestFirst_67 (by decide) rfl ?_
                  refine v_invv (d' := 0) (k' := 0) (n' := 0) (k2 := 32) (n2 := 96) 71 [_, _] dX12_bestFirst_68 mt_X12_67 mi_X12_fails me_X12_fails (by first | assumption | rfl) (by rfl) rfl rfl (of_decide_eq_true rfl) rfl (by decide) rfl rfl rfl rfl (C_f1 e0 (by decide) ?_)
                  refine v_if_eq 76 74 dX12_bestFirst_71 (by decide) rfl (fun c71 => ?_) (fun c71 => ?_)
                  · first | exact absurd c71 (by decide) | exact absurd rfl c71 | exact absurd (of_decide_eq_true rfl) c71
                  · refine v_iconstv (v := -1) 75 dX12_bestFirst_74 (by decide) rfl ?_
                    refine v_ireturn dX12_bestFirst_75 rfl ?_
                    have ev : op_bestFirst S x y many mt = (2, 0) := by unfold op_bestFirst; simp only [eq_true a10, eq_true a21, c47, b56, ↓reduceIte, and_self, and_true, true_and, and_false, false_and, not_true_eq_false, not_false_eq_true]
                    rw [ev] at hq
                    exact hq _ _ (fun e => absurd e (Nat.succ_ne_zero _)) R.th hp_seti_at (ke0.tr (ke_.i (by decide) (by decide)))
        · first | exact absurd c24 (by decide) | exact absurd rfl c24 | exact absurd (of_decide_eq_true rfl) c24
      · refine v_if_ne 31 27 dX12_bestFirst_24 (by decide) rfl (fun c24 => ?_) (fun c24 => ?_)
        · first | exact absurd c24 (by decide) | exact absurd rfl c24 | exact absurd (of_decide_eq_true rfl) c24
        · refine v_iconstv (v := 1) 28 dX12_bestFirst_27 (by decide) rfl ?_
          refine v_goto 32 dX12_bestFirst_28 (by decide) ?_
          refine v_iconstv (v := 1) 33 dX12_bestFirst_32 (by decide) rfl ?_
          refine v_invv (d' := 0) (k' := 0) (n' := 0) (k2 := 32) (n2 := 96) 36 [_, _] dX12_bestFirst_33 mt_X12_67 mi_X12_fails me_X12_fails (by first | assumption | rfl) (by rfl) rfl rfl (of_decide_eq_true rfl) rfl (by decide) rfl rfl rfl rfl (C_f1 e0 (by decide) ?_)
          refine v_if_ne 74 39 dX12_bestFirst_36 (by decide) rfl (fun c36 => ?_) (fun c36 => ?_)
          · refine v_iconstv (v := -1) 75 dX12_bestFirst_74 (by decide) rfl ?_
            refine v_ireturn dX12_bestFirst_75 rfl ?_
            have ev : op_bestFirst S x y many mt = (1, 0) := by unfold op_bestFirst; simp only [eq_true a10, b21, ↓reduceIte, and_self, and_true, true_and, and_false, false_and, not_true_eq_false, not_false_eq_true]
            rw [ev] at hq
            exact hq _ _ (fun e => absurd e (Nat.succ_ne_zero _)) R.th hp_seti_at (ke0.tr (ke_.i (by decide) (by decide)))
          · first | exact absurd c36 (by decide) | exact absurd rfl c36 | exact absurd (of_decide_eq_true rfl) c36
  · refine v_if_eq 27 16 dX12_bestFirst_13 (by decide) rfl (fun c13 => ?_) (fun c13 => ?_)
    · refine v_iconstv (v := 1) 28 dX12_bestFirst_27 (by decide) rfl ?_
      refine v_goto 32 dX12_bestFirst_28 (by decide) ?_
      refine v_iconstv (v := 1) 33 dX12_bestFirst_32 (by decide) rfl ?_
      refine v_invv (d' := 0) (k' := 0) (n' := 0) (k2 := 32) (n2 := 96) 36 [_, _] dX12_bestFirst_33 mt_X12_67 mi_X12_fails me_X12_fails (by first | assumption | rfl) (by rfl) rfl rfl (of_decide_eq_true rfl) rfl (by decide) rfl rfl rfl rfl (C_f1 e0 (by decide) ?_)
      refine v_if_ne 74 39 dX12_bestFirst_36 (by decide) rfl (fun c36 => ?_) (fun c36 => ?_)
      · refine v_iconstv (v := -1) 75 dX12_bestFirst_74 (by decide) rfl ?_
        refine v_ireturn dX12_bestFirst_75 rfl ?_
        have ev : op_bestFirst S x y many mt = (1, 0) := by unfold op_bestFirst; simp only [b10, ↓reduceIte, and_self, and_true, true_and, and_false, false_and, not_true_eq_false, not_false_eq_true]
        rw [ev] at hq
        exact hq _ _ (fun e => absurd e (Nat.succ_ne_zero _)) R.th hp_seti_at (ke0.tr (ke_.i (by decide) (by decide)))
      · first | exact absurd c36 (by decide) | exact absurd rfl c36 | exact absurd (of_decide_eq_true rfl) c36
    · first | exact absurd c13 (by decide) | exact absurd rfl c13 | exact absurd (of_decide_eq_true rfl) c13
