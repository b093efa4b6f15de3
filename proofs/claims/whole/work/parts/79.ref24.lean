set_option maxRecDepth 20000 in
theorem I_X12_islands {G : GW} {h : PH} {Q : RS → PH → Prop} {S : SP} (R : Rp2 S h) {p A : Nat} {x : Int32} (i4 : hp_vr S.1 44 p 0 = (63, p)) (i6 : hp_ln S.1 63 p = 64) (I2 : ∀ k, k < 64 → ∃ w : Nat, hp_vi S.1 63 p k = nI w ∧ w < 8) (p9 : pr_ (hp_vi S.1 63 p) h A) {a t n : Nat} (ha : a < 64) (hst : st_ (hp_vi S.1 63 p) a) (hct : ct_ (st_ (hp_vi S.1 63 p)) a t) {k : Nat} (hk : k < 64) (K : ∀ (is ar : Int32) (z9 z10 : Option PV), iw_ (hp_vi S.1 63 p) a (k + 1) 0 is ar → VV G 9 0 0 yX12_islands cX12_islands 11 (some .int) [] 169 [some (pv_O (40, 0)), some (pv_I x), some (pv_O (44, p)), some (pv_O (72, A)), some (pv_I (nI n)), some (pv_I (nI t)), some (pv_I is), some (pv_I ar), some (pv_I (nI k)), z9, z10] [] h Q) : ∀ fuel : Nat, ∀ (d : Nat) (is ar : Int32) (z10 : Option PV), d + fuel = 4 → iw_ (hp_vi S.1 63 p) a k d is ar → VV G 9 0 0 yX12_islands cX12_islands 11 (some .int) [] 67 [some (pv_O (40, 0)), some (pv_I x), some (pv_O (44, p)), some (pv_O (72, A)), some (pv_I (nI n)), some (pv_I (nI t)), some (pv_I is), some (pv_I ar), some (pv_I (nI k)), some (pv_I (nI d)), z10] [] h Q := by
  intro fuel
  induction fuel with
  | zero =>
    intro d is ar z10 hf iw
    obtain rfl : d = 4 := by omega
    refine v_iload 69 dX12_islands_67 rfl rfl ?_
    refine v_iconstv (v := 4) 70 dX12_islands_69 (by decide) rfl ?_
    refine v_icmp_ge 169 73 dX12_islands_70 (by decide) rfl (fun c70 => ?_) (fun c70 => ?_)
    · exact K _ _ _ _ (iw.imp (fun w => ⟨w.1, ip_cg (fun k d => dm_n k d) w.2⟩) id)
    · exact absurd (nI_le (Nat.le_refl 4) (by decide)) c70
  | succ fuel ih =>
    intro d is ar z10 hf iw
    refine v_iload 69 dX12_islands_67 rfl rfl ?_
    refine v_iconstv (v := 4) 70 dX12_islands_69 (by decide) rfl ?_
    refine v_icmp_ge 169 73 dX12_islands_70 (by decide) rfl (fun c70 => ?_) (fun c70 => ?_)
    · exact absurd c70 (nI_ge (a := d) (b := 4) (by omega) (by decide))
    · refine v_aload_n 74 dX12_islands_73 rfl rfl ?_
      refine v_iload 76 dX12_islands_74 rfl rfl ?_
      refine v_iald 77 dX12_islands_76 (by first | assumption | rfl) (by rw [p9.1]; exact in_nI (by omega) (by omega)) rfl ?_
      rw [nI_clamp (by omega)]
      refine v_iload 79 dX12_islands_77 rfl rfl ?_
      refine v_icmp_ne 169 82 dX12_islands_79 (by decide) rfl (fun c79 => ?_) (fun c79 => ?_)
      · have hcn : ¬ cn_ (hp_vi S.1 63 p) a k := fun w => c79 ((pr_cn p9 hst hct ha (by omega)).mpr w)
        exact K _ _ _ _ (iw.imp (fun w => ⟨w.1, ip_cg (dm_o hcn) w.2⟩) id)
      · have hcn := (pr_cn p9 hst hct ha (by omega)).mp c79
        refine v_iload 84 dX12_islands_82 rfl rfl ?_
        refine v_iload 86 dX12_islands_84 rfl rfl ?_
        refine v_invs (d' := 1) (k' := 0) (n' := 0) (k2 := 0) (n2 := 0) 89 [_, _] dX12_islands_86 mt_X12_331 ms_X12_beside rfl rfl (of_decide_eq_true rfl) rfl (by decide) rfl rfl rfl rfl (C_X12_beside (k := k) (d := d) hk (by omega) ?_)
        refine v_istore 91 dX12_islands_89 (by decide) rfl rfl ?_
        dsimp only [List.set]
        refine v_iload 93 dX12_islands_91 rfl rfl ?_
        refine v_if_eq 106 96 dX12_islands_93 (by decide) rfl (fun c93 => ?_) (fun c93 => ?_)
        · have w : ¬ is_l (hp_vi S.1 63 p) a := iw.elim (fun w => absurd (w.1.symm.trans c93) (by decide)) (fun w => w.2)
          refine v_iconstv (v := 0) 107 dX12_islands_106 (by decide) rfl ?_
          refine v_istore 109 dX12_islands_107 (by decide) rfl rfl ?_
          dsimp only [List.set]
          refine v_iload 111 dX12_islands_109 rfl rfl ?_
          refine v_iconstv (v := -1) 112 dX12_islands_111 (by decide) rfl ?_
          refine v_icmp_eq 163 115 dX12_islands_112 (by decide) rfl (fun c112 => ?_) (fun c112 => ?_)
          · refine v_iinc 166 dX12_islands_163 rfl (by decide) rfl rfl ?_
            dsimp only [List.set]
            refine v_goto 67 dX12_islands_166 (by decide) ?_
            rw [show nI d + Int32.ofInt 1 = nI (d + 1) from nI_1 d]
            exact ih (d + 1) _ _ _ (by omega) (Or.inr ⟨rfl, w⟩)
          · obtain ⟨j, hj, ej, had⟩ := (nr_in (d := d) hk).resolve_left c112
            rw [ej]
            refine v_aload_n 116 dX12_islands_115 rfl rfl ?_
            refine v_iload 118 dX12_islands_116 rfl rfl ?_
            refine v_iald 119 dX12_islands_118 (by first | assumption | rfl) (by rw [p9.1]; exact in_nI (by omega) (by omega)) rfl ?_
            rw [nI_clamp (by omega)]
            refine v_iload 121 dX12_islands_119 rfl rfl ?_
            refine v_icmp_eq 163 124 dX12_islands_121 (by decide) rfl (fun c121 => ?_) (fun c121 => ?_)
            · refine v_iinc 166 dX12_islands_163 rfl (by decide) rfl rfl ?_
              dsimp only [List.set]
              refine v_goto 67 dX12_islands_166 (by decide) ?_
              rw [show nI d + Int32.ofInt 1 = nI (d + 1) from nI_1 d]
              exact ih (d + 1) _ _ _ (by omega) (Or.inr ⟨rfl, w⟩)
            · refine v_iload 126 dX12_islands_124 rfl rfl ?_
              refine v_if_eq 151 129 dX12_islands_126 (by decide) rfl (fun c126 => ?_) (fun c126 => ?_)
              · refine v_iconstv (v := 0) 152 dX12_islands_151 (by decide) rfl ?_
                refine v_istore 154 dX12_islands_152 (by decide) rfl rfl ?_
                dsimp only [List.set]
                refine v_aload_n 155 dX12_islands_154 rfl rfl ?_
                refine v_getfr 158 dX12_islands_155 fl_X12_317 (by first | assumption | rfl) (by rfl) rfl ?_
                rw [R.vr (t := 44) (by decide), i4]
                refine v_iload 160 dX12_islands_158 rfl rfl ?_
                refine v_iald 161 dX12_islands_160 (by first | assumption | rfl) (by rw [R.ln (t := 63) (by decide), i6]; exact in_nI hj (by omega)) rfl ?_
                rw [nI_clamp (by omega), R.vi (t := 63) (by decide)]
                refine v_istore 163 dX12_islands_161 (by decide) rfl rfl ?_
                dsimp only [List.set]
                refine v_iinc 166 dX12_islands_163 rfl (by decide) rfl rfl ?_
                dsimp only [List.set]
                refine v_goto 67 dX12_islands_166 (by decide) ?_
                rw [show nI d + Int32.ofInt 1 = nI (d + 1) from nI_1 d]
                exact ih (d + 1) _ _ _ (by omega) (Or.inr ⟨rfl, w⟩)
              · first | exact absurd c126 (by decide) | exact absurd rfl c126 | exact absurd (of_decide_eq_true rfl) c126
        · have w := iw.resolve_right (fun w => c93 w.1)
          refine v_iload 98 dX12_islands_96 rfl rfl ?_
          refine v_iconstv (v := -1) 99 dX12_islands_98 (by decide) rfl ?_
          refine v_icmp_eq 106 102 dX12_islands_99 (by decide) rfl (fun c99 => ?_) (fun c99 => ?_)
          · have nl : ¬ is_l (hp_vi S.1 63 p) a := ip_x (fun k hk => nr_ed hk) hk hcn (by omega) c99
            refine v_iconstv (v := 0) 107 dX12_islands_106 (by decide) rfl ?_
            refine v_istore 109 dX12_islands_107 (by decide) rfl rfl ?_
            dsimp only [List.set]
            refine v_iload 111 dX12_islands_109 rfl rfl ?_
            refine v_iconstv (v := -1) 112 dX12_islands_111 (by decide) rfl ?_
            refine v_icmp_eq 163 115 dX12_islands_112 (by decide) rfl (fun c112 => ?_) (fun c112 => ?_)
            · refine v_iinc 166 dX12_islands_163 rfl (by decide) rfl rfl ?_
              dsimp only [List.set]
              refine v_goto 67 dX12_islands_166 (by decide) ?_
              rw [show nI d + Int32.ofInt 1 = nI (d + 1) from nI_1 d]
              exact ih (d + 1) _ _ _ (by omega) (Or.inr ⟨rfl, nl⟩)
            · exact absurd c99 c112
          · obtain ⟨j, hj, ej, had⟩ := (nr_in (d := d) hk).resolve_left c99
            rw [ej]
            refine v_iconstv (v := 1) 103 dX12_islands_102 (by decide) rfl ?_
            refine v_goto 107 dX12_islands_103 (by decide) ?_
            refine v_istore 109 dX12_islands_107 (by decide) rfl rfl ?_
            dsimp only [List.set]
            refine v_iload 111 dX12_islands_109 rfl rfl ?_
            refine v_iconstv (v := -1) 112 dX12_islands_111 (by decide) rfl ?_
            refine v_icmp_eq 163 115 dX12_islands_112 (by decide) rfl (fun c112 => ?_) (fun c112 => ?_)
            · exact absurd c112 (ni_m1 (by omega))
            · refine v_aload_n 116 dX12_islands_115 rfl rfl ?_
              refine v_iload 118 dX12_islands_116 rfl rfl ?_
              refine v_iald 119 dX12_islands_118 (by first | assumption | rfl) (by rw [p9.1]; exact in_nI (by omega) (by omega)) rfl ?_
              rw [nI_clamp (by omega)]
              refine v_iload 121 dX12_islands_119 rfl rfl ?_
              refine v_icmp_eq 163 124 dX12_islands_121 (by decide) rfl (fun c121 => ?_) (fun c121 => ?_)
              · have ef := cn_f ((pr_cn p9 hst hct ha hj).mp c121)
                refine v_iinc 166 dX12_islands_163 rfl (by decide) rfl rfl ?_
                dsimp only [List.set]
                refine v_goto 67 dX12_islands_166 (by decide) ?_
                rw [show nI d + Int32.ofInt 1 = nI (d + 1) from nI_1 d]
                exact ih (d + 1) _ _ _ (by omega) (Or.inl ⟨rfl, ip_cg (dm_s hcn (by omega)) (ip_s w.2 hj ej had ef)⟩)
              · have hne : ¬ hp_vi S.1 63 p j = hp_vi S.1 63 p a := fun e => c121 ((pr_cn p9 hst hct ha hj).mpr (cn_st hcn had e))
                refine v_iload 126 dX12_islands_124 rfl rfl ?_
                refine v_if_eq 151 129 dX12_islands_126 (by decide) rfl (fun c126 => ?_) (fun c126 => ?_)
                · first | exact absurd c126 (by decide) | exact absurd rfl c126 | exact absurd (of_decide_eq_true rfl) c126
                · refine v_iload 131 dX12_islands_129 rfl rfl ?_
                  refine v_iconstv (v := -1) 132 dX12_islands_131 (by decide) rfl ?_
                  refine v_icmp_eq 147 135 dX12_islands_132 (by decide) rfl (fun c132 => ?_) (fun c132 => ?_)
                  · refine v_iconstv (v := 1) 148 dX12_islands_147 (by decide) rfl ?_
                    refine v_goto 152 dX12_islands_148 (by decide) ?_
                    refine v_istore 154 dX12_islands_152 (by decide) rfl rfl ?_
                    dsimp only [List.set]
                    refine v_aload_n 155 dX12_islands_154 rfl rfl ?_
                    refine v_getfr 158 dX12_islands_155 fl_X12_317 (by first | assumption | rfl) (by rfl) rfl ?_
                    rw [R.vr (t := 44) (by decide), i4]
                    refine v_iload 160 dX12_islands_158 rfl rfl ?_
                    refine v_iald 161 dX12_islands_160 (by first | assumption | rfl) (by rw [R.ln (t := 63) (by decide), i6]; exact in_nI hj (by omega)) rfl ?_
                    rw [nI_clamp (by omega), R.vi (t := 63) (by decide)]
                    refine v_istore 163 dX12_islands_161 (by decide) rfl rfl ?_
                    dsimp only [List.set]
                    refine v_iinc 166 dX12_islands_163 rfl (by decide) rfl rfl ?_
                    dsimp only [List.set]
                    refine v_goto 67 dX12_islands_166 (by decide) ?_
                    rw [show nI d + Int32.ofInt 1 = nI (d + 1) from nI_1 d]
                    exact ih (d + 1) _ _ _ (by omega) (Or.inl ⟨rfl, ip_cg (dm_s hcn (by omega)) (ip_d w.2 hj ej had hne (fun z hz => by
                      obtain ⟨v, hv, hv8⟩ := I2 z hz
                      rw [hv]
                      exact ni_m1 (by omega)) (Or.inl c132))⟩)
                  · refine v_iload 137 dX12_islands_135 rfl rfl ?_
                    refine v_aload_n 138 dX12_islands_137 rfl rfl ?_
                    refine v_getfr 141 dX12_islands_138 fl_X12_317 (by first | assumption | rfl) (by rfl) rfl ?_
                    rw [R.vr (t := 44) (by decide), i4]
                    refine v_iload 143 dX12_islands_141 rfl rfl ?_
                    refine v_iald 144 dX12_islands_143 (by first | assumption | rfl) (by rw [R.ln (t := 63) (by decide), i6]; exact in_nI hj (by omega)) rfl ?_
                    rw [nI_clamp (by omega), R.vi (t := 63) (by decide)]
                    refine v_icmp_ne 151 147 dX12_islands_144 (by decide) rfl (fun c144 => ?_) (fun c144 => ?_)
                    · refine v_iconstv (v := 0) 152 dX12_islands_151 (by decide) rfl ?_
                      refine v_istore 154 dX12_islands_152 (by decide) rfl rfl ?_
                      dsimp only [List.set]
                      refine v_aload_n 155 dX12_islands_154 rfl rfl ?_
                      refine v_getfr 158 dX12_islands_155 fl_X12_317 (by first | assumption | rfl) (by rfl) rfl ?_
                      rw [R.vr (t := 44) (by decide), i4]
                      refine v_iload 160 dX12_islands_158 rfl rfl ?_
                      refine v_iald 161 dX12_islands_160 (by first | assumption | rfl) (by rw [R.ln (t := 63) (by decide), i6]; exact in_nI hj (by omega)) rfl ?_
                      rw [nI_clamp (by omega), R.vi (t := 63) (by decide)]
                      refine v_istore 163 dX12_islands_161 (by decide) rfl rfl ?_
                      dsimp only [List.set]
                      refine v_iinc 166 dX12_islands_163 rfl (by decide) rfl rfl ?_
                      dsimp only [List.set]
                      refine v_goto 67 dX12_islands_166 (by decide) ?_
                      rw [show nI d + Int32.ofInt 1 = nI (d + 1) from nI_1 d]
                      exact ih (d + 1) _ _ _ (by omega) (Or.inr ⟨rfl, ip_y w.2 (fun k d hd => hd.1) hcn had hne c132 (fun e => c144 e.symm)⟩)
                    · refine v_iconstv (v := 1) 148 dX12_islands_147 (by decide) rfl ?_
                      refine v_goto 152 dX12_islands_148 (by decide) ?_
                      refine v_istore 154 dX12_islands_152 (by decide) rfl rfl ?_
                      dsimp only [List.set]
                      refine v_aload_n 155 dX12_islands_154 rfl rfl ?_
                      refine v_getfr 158 dX12_islands_155 fl_X12_317 (by first | assumption | rfl) (by rfl) rfl ?_
                      rw [R.vr (t := 44) (by decide), i4]
                      refine v_iload 160 dX12_islands_158 rfl rfl ?_
                      refine v_iald 161 dX12_islands_160 (by first | assumption | rfl) (by rw [R.ln (t := 63) (by decide), i6]; exact in_nI hj (by omega)) rfl ?_
                      rw [nI_clamp (by omega), R.vi (t := 63) (by decide)]
                      refine v_istore 163 dX12_islands_161 (by decide) rfl rfl ?_
                      dsimp only [List.set]
                      refine v_iinc 166 dX12_islands_163 rfl (by decide) rfl rfl ?_
                      dsimp only [List.set]
                      refine v_goto 67 dX12_islands_166 (by decide) ?_
                      rw [show nI d + Int32.ofInt 1 = nI (d + 1) from nI_1 d]
                      exact ih (d + 1) _ _ _ (by omega) (Or.inl ⟨rfl, ip_cg (dm_s hcn (by omega)) (ip_d w.2 hj ej had hne (fun z hz => by
                        obtain ⟨v, hv, hv8⟩ := I2 z hz
                        rw [hv]
                        exact ni_m1 (by omega)) (Or.inr c144))⟩)
set_option maxRecDepth 20000 in
theorem J_X12_islands {G : GW} {h : PH} {Q : RS → PH → Prop} {S : SP} (R : Rp2 S h) {p A : Nat} {x : Int32} (i4 : hp_vr S.1 44 p 0 = (63, p)) (i6 : hp_ln S.1 63 p = 64) (I2 : ∀ k, k < 64 → ∃ w : Nat, hp_vi S.1 63 p k = nI w ∧ w < 8) (p9 : pr_ (hp_vi S.1 63 p) h A) {a t n : Nat} (ha : a < 64) (hst : st_ (hp_vi S.1 63 p) a) (hct : ct_ (st_ (hp_vi S.1 63 p)) a t) (K : ∀ (is ar : Int32) (z9 z10 : Option PV), iw_ (hp_vi S.1 63 p) a 64 0 is ar → VV G 9 0 0 yX12_islands cX12_islands 11 (some .int) [] 175 [some (pv_O (40, 0)), some (pv_I x), some (pv_O (44, p)), some (pv_O (72, A)), some (pv_I (nI n)), some (pv_I (nI t)), some (pv_I is), some (pv_I ar), some (pv_I (nI 64)), z9, z10] [] h Q) : ∀ fuel : Nat, ∀ (k : Nat) (is ar : Int32) (z9 z10 : Option PV), k + fuel = 64 → iw_ (hp_vi S.1 63 p) a k 0 is ar → VV G 9 0 0 yX12_islands cX12_islands 11 (some .int) [] 57 [some (pv_O (40, 0)), some (pv_I x), some (pv_O (44, p)), some (pv_O (72, A)), some (pv_I (nI n)), some (pv_I (nI t)), some (pv_I is), some (pv_I ar), some (pv_I (nI k)), z9, z10] [] h Q := by
  intro fuel
  induction fuel with
  | zero =>
    intro k is ar z9 z10 hf iw
    obtain rfl : k = 64 := by omega
    refine v_iload 59 dX12_islands_57 rfl rfl ?_
    refine v_bipushv (v := 64) 61 dX12_islands_59 (by decide) rfl ?_
    refine v_icmp_ge 175 64 dX12_islands_61 (by decide) rfl (fun c61 => ?_) (fun c61 => ?_)
    · exact K _ _ _ _ iw
    · exact absurd (nI_le (Nat.le_refl 64) (by decide)) c61
  | succ fuel ih =>
    intro k is ar z9 z10 hf iw
    refine v_iload 59 dX12_islands_57 rfl rfl ?_
    refine v_bipushv (v := 64) 61 dX12_islands_59 (by decide) rfl ?_
    refine v_icmp_ge 175 64 dX12_islands_61 (by decide) rfl (fun c61 => ?_) (fun c61 => ?_)
    · exact absurd c61 (nI_ge (a := k) (b := 64) (by omega) (by decide))
    · refine v_iconstv (v := 0) 65 dX12_islands_64 (by decide) rfl ?_
      refine v_istore 67 dX12_islands_65 (by decide) rfl rfl ?_
      dsimp only [List.set]
      refine I_X12_islands R i4 i6 I2 p9 ha hst hct (by omega) (fun is ar z9 z10 iw9 => ?_) 4 0 _ _ _ rfl iw
      refine v_iinc 172 dX12_islands_169 rfl (by decide) rfl rfl ?_
      dsimp only [List.set]
      refine v_goto 57 dX12_islands_172 (by decide) ?_
      rw [show nI k + Int32.ofInt 1 = nI (k + 1) from nI_1 k]
      exact ih (k + 1) _ _ _ _ (by omega) iw9
set_option maxRecDepth 20000 in
theorem L_X12_islands {G : GW} {h : PH} {Q : RS → PH → Prop} {S : SP} (R : Rp2 S h) {p A : Nat} {x : Int32} (i4 : hp_vr S.1 44 p 0 = (63, p)) (i6 : hp_ln S.1 63 p = 64) (I2 : ∀ k, k < 64 → ∃ w : Nat, hp_vi S.1 63 p k = nI w ∧ w < 8) (p9 : pr_ (hp_vi S.1 63 p) h A) {pp ii : Nat} (hpc : pc_ (hp_vi S.1 63 p) pp ii) (hq : Q (.inl (some (pv_I (nI ii)))) h) : ∀ fuel : Nat, ∀ (t n : Nat) (z6 z7 z8 z9 z10 : Option PV), t ≤ pp → pp - t < fuel → pq_s (hp_vi S.1 63 p) t n → VV G 9 0 0 yX12_islands cX12_islands 11 (some .int) [] 39 [some (pv_O (40, 0)), some (pv_I x), some (pv_O (44, p)), some (pv_O (72, A)), some (pv_I (nI n)), some (pv_I (nI t)), z6, z7, z8, z9, z10] [] h Q := by
  intro fuel
  induction fuel with
  | zero =>
    intro t n z6 z7 z8 z9 z10 h1 h2
    omega
  | succ fuel ih =>
    intro t n z6 z7 z8 z9 z10 h1 h2 pq
    have hp64 := ct_le 64 hpc.1
    refine v_iload 41 dX12_islands_39 rfl rfl ?_
    refine v_aload_n 42 dX12_islands_41 rfl rfl ?_
    refine v_invs (d' := 1) (k' := 0) (n' := 0) (k2 := 0) (n2 := 0) 45 [_] dX12_islands_42 mt_X12_324 ms_X12_most rfl rfl (of_decide_eq_true rfl) rfl (by decide) rfl rfl rfl rfl (C_X12_most rfl p9.1 ?_)
    rw [pr_mo p9 64 (Nat.le_refl _) hpc.1]
    refine v_icmp_ge 196 48 dX12_islands_45 (by decide) rfl (fun c45 => ?_) (fun c45 => ?_)
    · have e9 : t = pp := by
        rcases Nat.lt_or_ge t pp with w | w
        · exact absurd c45 (nI_ge w (by omega))
        · omega
      have e8 := pq.e hpc e9
      subst e8
      refine v_iload 198 dX12_islands_196 rfl rfl ?_
      refine v_ireturn dX12_islands_198 rfl ?_
      exact hq
    · have htp : t < pp := by
        rcases Nat.lt_or_ge t pp with w | w
        · exact w
        · exact absurd (nI_le w (by omega)) c45
      obtain ⟨a, ha, hst, hct, b1, b2⟩ := pq.nx hpc htp
      refine v_iconstv (v := 1) 49 dX12_islands_48 (by decide) rfl ?_
      refine v_istore 51 dX12_islands_49 (by decide) rfl rfl ?_
      dsimp only [List.set]
      refine v_iconstv (v := -1) 52 dX12_islands_51 (by decide) rfl ?_
      refine v_istore 54 dX12_islands_52 (by decide) rfl rfl ?_
      dsimp only [List.set]
      refine v_iconstv (v := 0) 55 dX12_islands_54 (by decide) rfl ?_
      refine v_istore 57 dX12_islands_55 (by decide) rfl rfl ?_
      dsimp only [List.set]
      refine J_X12_islands R i4 i6 I2 p9 ha hst hct (fun is ar z9 z10 iw9 => ?_) 64 0 _ _ _ _ rfl (Or.inl ⟨rfl, ip_0 (fun k d w => w.2.2.elim (fun y => absurd y (Nat.not_lt_zero _)) (fun y => absurd y.2 (Nat.not_lt_zero _)))⟩)
      refine v_iload 177 dX12_islands_175 rfl rfl ?_
      refine v_iload 179 dX12_islands_177 rfl rfl ?_
      refine v_if_eq 186 182 dX12_islands_179 (by decide) rfl (fun c179 => ?_) (fun c179 => ?_)
      · refine v_iconstv (v := 0) 187 dX12_islands_186 (by decide) rfl ?_
        refine v_iadd 188 dX12_islands_187 rfl ?_
        refine v_istore 190 dX12_islands_188 (by decide) rfl rfl ?_
        dsimp only [List.set]
        refine v_iinc 193 dX12_islands_190 rfl (by decide) rfl rfl ?_
        dsimp only [List.set]
        refine v_goto 39 dX12_islands_193 (by decide) ?_
        rw [show nI t + Int32.ofInt 1 = nI (t + 1) from nI_1 t, Int32.add_zero]
        exact ih (t + 1) _ _ _ _ _ _ (by omega) (by omega) (b2 (iw9.elim (fun w => absurd (w.1.symm.trans c179) (by decide)) (fun w => w.2)))
      · refine v_iconstv (v := 1) 183 dX12_islands_182 (by decide) rfl ?_
        refine v_goto 187 dX12_islands_183 (by decide) ?_
        refine v_iadd 188 dX12_islands_187 rfl ?_
        refine v_istore 190 dX12_islands_188 (by decide) rfl rfl ?_
        dsimp only [List.set]
        refine v_iinc 193 dX12_islands_190 rfl (by decide) rfl rfl ?_
        dsimp only [List.set]
        refine v_goto 39 dX12_islands_193 (by decide) ?_
        rw [show nI t + Int32.ofInt 1 = nI (t + 1) from nI_1 t, nI_1]
        exact ih (t + 1) _ _ _ _ _ _ (by omega) (by omega) (b1 (ip_e ha (fun k hk => nr_ed hk) (fun k j hk ad => ad_nr ad) (ip_cg (fun k d => dm_e ha k d) (iw9.resolve_right (fun w => c179 w.1)).2)))
set_option maxRecDepth 20000 in
theorem C_X12_islands {G : GW} {h : PH} {Q : RS → PH → Prop} {S : SP} {N : Nat} (R : Rp2 S h) (I : Iv S N) (Fr : fr_s h) {x : Int32} (hq : ∀ v h', ((op_islands S x).1 = 0 → v = (op_islands S x).2) → Rp2 S h' → hp_vi h' 40 0 0 = nI (op_islands S x).1 → ke_ h h' → Q (.inl (some (pv_I v))) h') : VV G 9 129 3137 yX12_islands cX12_islands 11 (some .int) [] 0 (vv_en 11 [pv_O (40, 0), pv_I x]) [] h Q := by
  show VV G 9 129 3137 yX12_islands cX12_islands 11 (some .int) [] 0 [some (pv_O (40, 0)), some (pv_I x), none, none, none, none, none, none, none, none, none] [] h Q
  obtain ⟨z0, z1, z2, z3, z4, z5⟩ := I.cs
  refine v_aload_n 1 dX12_islands_0 rfl rfl ?_
  refine v_invv (d' := 0) (k' := 0) (n' := 0) (k2 := 129) (n2 := 3137) 4 [] dX12_islands_1 mt_X12_48 mi_X12_begins me_X12_begins (by first | assumption | rfl) (by rfl) rfl rfl (of_decide_eq_true rfl) rfl (by decide) rfl rfl rfl rfl (C2_begins R (fun h0 R e0 ke0 => ?_))
  have Fr := ke0.2 Fr
  refine v_aload_n 5 dX12_islands_4 rfl rfl ?_
  refine v_iload_n 6 dX12_islands_5 rfl rfl ?_
  refine v_invv (d' := 4) (k' := 0) (n' := 0) (k2 := 129) (n2 := 3137) 9 [_] dX12_islands_6 mt_X12_307 mi_X12_noPicture me_X12_noPicture (by first | assumption | rfl) (by rfl) rfl rfl (of_decide_eq_true rfl) rfl (by decide) rfl rfl rfl rfl (C_X12_noPicture R e0 (fun a6 => ?_) (fun b6 => ?_))
  · have hc := a6.cl (by omega)
    obtain ⟨⟨i1, i2, i3, i4, i5, i6, i7⟩, -, I2, -, Ip⟩ := I.2.2.2.2.1 _ hc.1
    refine v_if_eq 14 12 dX12_islands_9 (by decide) rfl (fun c9 => ?_) (fun c9 => ?_)
    · refine v_aload_n 15 dX12_islands_14 rfl rfl ?_
      refine v_getfr 18 dX12_islands_15 fl_X12_32 (by first | assumption | rfl) (by rfl) rfl ?_
      rw [R.1.1.2.2.2.2.2.2]
      refine v_iload_n 19 dX12_islands_18 rfl rfl ?_
      refine v_invf (z := ("java/util/ArrayList", TJx4a65c, 3)) (d' := 2) (k' := 0) (n' := 0) (k2 := 129) (n2 := 3137) 24 [_] dX12_islands_19 mf_X12_90 md_Jx4a65c_get_915e3 mi_Jx4a65c_get_915e3 se_Jx4a65c_get_915e3 (by simp [g_fw]; rfl) ⟨by decide, by decide +kernel⟩ (by first | assumption | rfl) (by rfl) rfl rfl (of_decide_eq_true rfl) rfl (by decide) rfl rfl rfl rfl (C_gt (tl := 55) (ta := 61) rfl rfl R.2.1.2.2.2.2.2 (by assumption) ?_)
      refine v_cast 27 dX12_islands_24 ⟨_, _, rfl, rfl, cl_X12_304⟩ rfl ?_
      refine v_astore_n 28 dX12_islands_27 (by decide) rfl rfl ?_
      dsimp only [List.set]
      refine v_aload_n 29 dX12_islands_28 rfl rfl ?_
      refine v_invv (d' := 8) (k' := 129) (n' := 3137) (k2 := 0) (n2 := 0) 32 [] dX12_islands_29 mt_X12_320 mi_X11_pieces me_X11_pieces (by first | assumption | rfl) (by rfl) rfl rfl (of_decide_eq_true rfl) rfl (by decide) rfl rfl rfl rfl (C_X11_pieces R i4 i6 Fr (fun A9 h9 p9 f9 => ?_))
      refine v_astore_n 33 dX12_islands_32 (by decide) rfl rfl ?_
      dsimp only [List.set]
      refine v_iconstv (v := 0) 34 dX12_islands_33 (by decide) rfl ?_
      refine v_istore 36 dX12_islands_34 (by decide) rfl rfl ?_
      dsimp only [List.set]
      refine v_iconstv (v := 0) 37 dX12_islands_36 (by decide) rfl ?_
      refine v_istore 39 dX12_islands_37 (by decide) rfl rfl ?_
      dsimp only [List.set]
      have ev : op_islands S x = (0, nI (nn_ S (30 + cl_ x))) := by unfold op_islands; simp only [eq_true a6, ↓reduceIte, and_self, and_true, true_and, and_false, false_and, not_true_eq_false, not_false_eq_true]
      rw [ev] at hq
      refine VV.less (Nat.le_refl _) (Nat.zero_le _) (Nat.zero_le _) ?_
      exact L_X12_islands (f9.R R) i4 i6 I2 p9 Ip (hq _ _ (fun _ => rfl) (f9.R R) (by rw [(f9.1 40 (by decide) (by decide) (by decide)).2.2.1]; exact e0) (ke0.tr f9.ke)) (nn_ S (20 + cl_ x) + 1) 0 0 _ _ _ _ _ (Nat.zero_le _) (by omega) ⟨0, by decide, rfl, rfl⟩
    · first | exact absurd c9 (by decide) | exact absurd rfl c9 | exact absurd (of_decide_eq_true rfl) c9
  · refine v_if_eq 14 12 dX12_islands_9 (by decide) rfl (fun c9 => ?_) (fun c9 => ?_)
    · first | exact absurd c9 (by decide) | exact absurd rfl c9 | exact absurd (of_decide_eq_true rfl) c9
    · refine v_iconstv (v := -1) 13 dX12_islands_12 (by decide) rfl ?_
      refine v_ireturn dX12_islands_13 rfl ?_
      have ev : op_islands S x = (1, 0) := by unfold op_islands; simp only [b6, ↓reduceIte, and_self, and_true, true_and, and_false, false_and, not_true_eq_false, not_false_eq_true]
      rw [ev] at hq
      exact hq _ _ (fun e => absurd e (Nat.succ_ne_zero _)) R.th hp_seti_at (ke0.tr (ke_.i (by decide) (by decide)))
