section VVRA
theorem pq_sv (S : SP) (p g f l : Nat) (a m : Int32) : sv_ (pq_ S p g a m) f l = pq_ (sv_ S f l) p g a m := by
  unfold sv_ pq_
  dsimp only
  rw [← hp_ri, hp_ii (t := 48) (t' := 62) (by omega), hp_ii (t := 48) (t' := 62) (by omega), ← hp_ri, hp_in (t := 48) (t' := 62) (by omega)]
theorem pq_su (S : SP) (p g f a : Nat) (x y : Int32) : ∀ k, su_ (pq_ S p g x y) f a k = pq_ (su_ S f a k) p g x y
  | 0 => rfl
  | k + 1 => by
    show sv_ (su_ (pq_ S p g x y) f a k) f (a + k) = pq_ (sv_ (su_ S f a k) f (a + k)) p g x y
    rw [pq_su S p g f a x y k, pq_sv]
theorem pq_te (S : SP) (p g : Nat) (x y : Int32) {t : Nat} (h1 : ¬ t = 48) (h2 : ¬ t = 44) : hp_te S.1 (pq_ S p g x y).1 t := ((((hp_te.n h1).tr (hp_te.r h1)).tr (hp_te.i h1)).tr (hp_te.i h1)).tr (hp_te.r h2)
theorem pq_sm (S : SP) (p g f a : Nat) (x y : Int32) : ∀ k, sm_a (pq_ S p g x y) f a k = sm_a S f a k
  | 0 => rfl
  | k + 1 => by
    show sm_a (pq_ S p g x y) f a k + s_a (pq_ S p g x y) f (nI (a + k)) = sm_a S f a k + s_a S f (nI (a + k))
    rw [pq_sm S p g f a x y k, (s_w_te (pq_te S p g x y (t := 41) (by decide) (by decide)) (pq_te S p g x y (t := 42) (by decide) (by decide))).2.2.1]
theorem m64_ (x y : Int32) : -64 * x + y = y - 64 * x := by
  rw [Int32.sub_eq_add_neg, Int32.add_comm, show (-64 : Int32) = -(64 : Int32) from by decide, Int32.neg_mul]
/-- a packet can be sawn, as far as j leaves tell -/
def pw_ (S : SP) (p f a j : Nat) : Prop := (s_pa S p).1 = 0 ∧ fr_ok S f a j 80
end VVRA
set_option maxRecDepth 20000 in
theorem L1_X12_saw {G : GW} {h : PH} {Q : RS → PH → Prop} {S : SP} {N : Nat} (R : Rp2 S h) (I : Iv S N) {x y : Int32} {p f a m : Nat} (hf : f < nn_ S 1) (ham : a + m ≤ s_n S f) (hm : m ≤ 8) (K : ∀ c : Int32, ((c = 1 ∧ pw_ S p f a m) ∨ (c = 0 ∧ ¬ pw_ S p f a m)) → VV G 9 12 40 yX12_saw cX12_saw 9 (some .int) [] 166 [some (pv_O (40, 0)), some (pv_I x), some (pv_I y), some (pv_I (nI a)), some (pv_I (nI m)), some (pv_O (42, f)), some (pv_I c), some (pv_I (-64 * nI m + sm_a S f a m)), some (pv_I (nI (a + m)))] [] h Q) : ∀ fuel : Nat, ∀ (j : Nat) (c : Int32), j ≤ m → m - j < fuel → ((c = 1 ∧ pw_ S p f a j) ∨ (c = 0 ∧ ¬ pw_ S p f a j)) → VV G 9 12 40 yX12_saw cX12_saw 9 (some .int) [] 104 [some (pv_O (40, 0)), some (pv_I x), some (pv_I y), some (pv_I (nI a)), some (pv_I (nI m)), some (pv_O (42, f)), some (pv_I c), some (pv_I (-64 * nI m + sm_a S f a j)), some (pv_I (nI (a + j)))] [] h Q := by
  intro fuel
  induction fuel with
  | zero =>
    intro j c h1 h2
    omega
  | succ fuel ih =>
    intro j c h1 h2 hc
    have h24 := I.n24 hf
    refine v_iload 106 dX12_saw_104 rfl rfl ?_
    refine v_iload_n 107 dX12_saw_106 rfl rfl ?_
    refine v_iload 109 dX12_saw_107 rfl rfl ?_
    refine v_iadd 110 dX12_saw_109 rfl ?_
    rw [nI_add]
    refine v_icmp_ge 166 113 dX12_saw_110 (by decide) rfl (fun c110 => ?_) (fun c110 => ?_)
    · have hkm : j = m := by
        rcases Nat.lt_or_ge (a + j) (a + m) with q | q
        · exact absurd c110 (nI_ge q (by omega))
        · omega
      subst hkm
      exact K c hc
    · have hkm : j < m := by
        rcases Nat.lt_or_ge (a + j) (a + m) with q | q
        · omega
        · exact absurd (nI_le q (by omega)) c110
      refine v_iload 115 dX12_saw_113 rfl rfl ?_
      refine v_if_eq 145 118 dX12_saw_115 (by decide) rfl (fun c115 => ?_) (fun c115 => ?_)
      · have w : ¬ pw_ S p f a j := by
          rcases hc with ⟨rfl, w⟩ | ⟨rfl, w⟩
          · exact absurd c115 (by decide)
          · exact w
        refine v_iconstv (v := 0) 146 dX12_saw_145 (by decide) rfl ?_
        refine v_istore 148 dX12_saw_146 (by decide) rfl rfl ?_
        dsimp only [List.set]
        refine v_iload 150 dX12_saw_148 rfl rfl ?_
        refine v_aload 152 dX12_saw_150 rfl rfl ?_
        refine v_iload 154 dX12_saw_152 rfl rfl ?_
        refine v_invv (d' := 2) (k' := 0) (n' := 0) (k2 := 12) (n2 := 40) 157 [_] dX12_saw_154 mt_X12_117 mi_X7_area me_X7_area (by first | assumption | rfl) (by rfl) rfl rfl (of_decide_eq_true rfl) rfl (by decide) rfl rfl rfl rfl (C_X7_area (R.tg (by decide)) (R.tg (by decide)) I hf (by omega) ?_)
        refine v_iadd 158 dX12_saw_157 rfl ?_
        refine v_istore 160 dX12_saw_158 (by decide) rfl rfl ?_
        dsimp only [List.set]
        refine v_iinc 163 dX12_saw_160 rfl (by decide) rfl rfl ?_
        dsimp only [List.set]
        refine v_goto 104 dX12_saw_163 (by decide) ?_
        rw [show nI (a + j) + Int32.ofInt 1 = nI (a + (j + 1)) from nI_1 (a + j)]
        have X := ih (j + 1) _ (by omega) (by omega) (Or.inr ⟨rfl, fun q => w ⟨q.1, fun k hk => q.2 k (by omega)⟩⟩)
        rw [show sm_a S f a (j + 1) = sm_a S f a j + s_a S f (nI (a + j)) from rfl, ← Int32.add_assoc] at X
        exact X
      · have w : pw_ S p f a j := by
          rcases hc with ⟨rfl, w⟩ | ⟨rfl, w⟩
          · exact w
          · exact absurd rfl c115
        refine v_aload 120 dX12_saw_118 rfl rfl ?_
        refine v_getfr 123 dX12_saw_120 fl_X12_103 (by first | assumption | rfl) (by rfl) rfl ?_
        rw [R.vr (t := 42) (by decide), I.us hf]
        refine v_iload 125 dX12_saw_123 rfl rfl ?_
        refine v_zald 126 dX12_saw_125 (by first | assumption | rfl) (by rw [R.ln (t := 62) (by decide)]; exact in_nI (c := s_n S f) (by omega) (by omega)) rfl ?_
        rw [nI_clamp (by omega), R.vi (t := 62) (by decide)]
        refine v_if_ne 145 129 dX12_saw_126 (by decide) rfl (fun c126 => ?_) (fun c126 => ?_)
        · refine v_iconstv (v := 0) 146 dX12_saw_145 (by decide) rfl ?_
          refine v_istore 148 dX12_saw_146 (by decide) rfl rfl ?_
          dsimp only [List.set]
          refine v_iload 150 dX12_saw_148 rfl rfl ?_
          refine v_aload 152 dX12_saw_150 rfl rfl ?_
          refine v_iload 154 dX12_saw_152 rfl rfl ?_
          refine v_invv (d' := 2) (k' := 0) (n' := 0) (k2 := 12) (n2 := 40) 157 [_] dX12_saw_154 mt_X12_117 mi_X7_area me_X7_area (by first | assumption | rfl) (by rfl) rfl rfl (of_decide_eq_true rfl) rfl (by decide) rfl rfl rfl rfl (C_X7_area (R.tg (by decide)) (R.tg (by decide)) I hf (by omega) ?_)
          refine v_iadd 158 dX12_saw_157 rfl ?_
          refine v_istore 160 dX12_saw_158 (by decide) rfl rfl ?_
          dsimp only [List.set]
          refine v_iinc 163 dX12_saw_160 rfl (by decide) rfl rfl ?_
          dsimp only [List.set]
          refine v_goto 104 dX12_saw_163 (by decide) ?_
          rw [show nI (a + j) + Int32.ofInt 1 = nI (a + (j + 1)) from nI_1 (a + j)]
          have X := ih (j + 1) _ (by omega) (by omega) (Or.inr ⟨rfl, fun q => c126 (q.2 j (by omega)).1⟩)
          rw [show sm_a S f a (j + 1) = sm_a S f a j + s_a S f (nI (a + j)) from rfl, ← Int32.add_assoc] at X
          exact X
        · refine v_aload 131 dX12_saw_129 rfl rfl ?_
          refine v_iload 133 dX12_saw_131 rfl rfl ?_
          refine v_invv (d' := 1) (k' := 0) (n' := 0) (k2 := 12) (n2 := 40) 136 [_] dX12_saw_133 mt_X12_114 mi_X7_width me_X7_width (by first | assumption | rfl) (by rfl) rfl rfl (of_decide_eq_true rfl) rfl (by decide) rfl rfl rfl rfl (C_X7_width (R.tg (by decide)) (R.tg (by decide)) I hf (by omega) ?_)
          refine v_bipushv (v := 80) 138 dX12_saw_136 (by decide) rfl ?_
          refine v_icmp_lt 145 141 dX12_saw_138 (by decide) rfl (fun c138 => ?_) (fun c138 => ?_)
          · refine v_iconstv (v := 0) 146 dX12_saw_145 (by decide) rfl ?_
            refine v_istore 148 dX12_saw_146 (by decide) rfl rfl ?_
            dsimp only [List.set]
            refine v_iload 150 dX12_saw_148 rfl rfl ?_
            refine v_aload 152 dX12_saw_150 rfl rfl ?_
            refine v_iload 154 dX12_saw_152 rfl rfl ?_
            refine v_invv (d' := 2) (k' := 0) (n' := 0) (k2 := 12) (n2 := 40) 157 [_] dX12_saw_154 mt_X12_117 mi_X7_area me_X7_area (by first | assumption | rfl) (by rfl) rfl rfl (of_decide_eq_true rfl) rfl (by decide) rfl rfl rfl rfl (C_X7_area (R.tg (by decide)) (R.tg (by decide)) I hf (by omega) ?_)
            refine v_iadd 158 dX12_saw_157 rfl ?_
            refine v_istore 160 dX12_saw_158 (by decide) rfl rfl ?_
            dsimp only [List.set]
            refine v_iinc 163 dX12_saw_160 rfl (by decide) rfl rfl ?_
            dsimp only [List.set]
            refine v_goto 104 dX12_saw_163 (by decide) ?_
            rw [show nI (a + j) + Int32.ofInt 1 = nI (a + (j + 1)) from nI_1 (a + j)]
            have X := ih (j + 1) _ (by omega) (by omega) (Or.inr ⟨rfl, fun q => absurd (q.2 j (by omega)).2 (Int32.not_le.mpr c138)⟩)
            rw [show sm_a S f a (j + 1) = sm_a S f a j + s_a S f (nI (a + j)) from rfl, ← Int32.add_assoc] at X
            exact X
          · refine v_iconstv (v := 1) 142 dX12_saw_141 (by decide) rfl ?_
            refine v_goto 146 dX12_saw_142 (by decide) ?_
            refine v_istore 148 dX12_saw_146 (by decide) rfl rfl ?_
            dsimp only [List.set]
            refine v_iload 150 dX12_saw_148 rfl rfl ?_
            refine v_aload 152 dX12_saw_150 rfl rfl ?_
            refine v_iload 154 dX12_saw_152 rfl rfl ?_
            refine v_invv (d' := 2) (k' := 0) (n' := 0) (k2 := 12) (n2 := 40) 157 [_] dX12_saw_154 mt_X12_117 mi_X7_area me_X7_area (by first | assumption | rfl) (by rfl) rfl rfl (of_decide_eq_true rfl) rfl (by decide) rfl rfl rfl rfl (C_X7_area (R.tg (by decide)) (R.tg (by decide)) I hf (by omega) ?_)
            refine v_iadd 158 dX12_saw_157 rfl ?_
            refine v_istore 160 dX12_saw_158 (by decide) rfl rfl ?_
            dsimp only [List.set]
            refine v_iinc 163 dX12_saw_160 rfl (by decide) rfl rfl ?_
            dsimp only [List.set]
            refine v_goto 104 dX12_saw_163 (by decide) ?_
            rw [show nI (a + j) + Int32.ofInt 1 = nI (a + (j + 1)) from nI_1 (a + j)]
            have X := ih (j + 1) _ (by omega) (by omega) (Or.inl ⟨rfl, w.1, fun k hk => by
              by_cases e : k = j
              · subst e
                exact ⟨c126, Int32.not_lt.mp c138⟩
              · exact w.2 k (by omega)⟩)
            rw [show sm_a S f a (j + 1) = sm_a S f a j + s_a S f (nI (a + j)) from rfl, ← Int32.add_assoc] at X
            exact X
set_option maxRecDepth 20000 in
theorem L2_X12_saw {G : GW} {h0 : PH} {Q : RS → PH → Prop} {S : SP} {N : Nat} (I : Iv S N) {x y c r : Int32} {f a m : Nat} (hf : f < nn_ S 1) (ham : a + m ≤ s_n S f) (hm : m ≤ 8) (K : ∀ h, Rp2 (su_ S f a m) h → hp_vi h 40 0 0 = 0 → ke_ h0 h → VV G 9 12 40 yX12_saw cX12_saw 9 (some .int) [] 213 [some (pv_O (40, 0)), some (pv_I x), some (pv_I y), some (pv_I (nI a)), some (pv_I (nI m)), some (pv_O (42, f)), some (pv_I c), some (pv_I r), some (pv_I (nI (a + m)))] [] h Q) : ∀ fuel : Nat, ∀ (j : Nat) (h : PH), j ≤ m → m - j < fuel → Rp2 (su_ S f a j) h → hp_vi h 40 0 0 = 0 → ke_ h0 h → VV G 9 12 40 yX12_saw cX12_saw 9 (some .int) [] 189 [some (pv_O (40, 0)), some (pv_I x), some (pv_I y), some (pv_I (nI a)), some (pv_I (nI m)), some (pv_O (42, f)), some (pv_I c), some (pv_I r), some (pv_I (nI (a + j)))] [] h Q := by
  intro fuel
  induction fuel with
  | zero =>
    intro j h h1 h2
    omega
  | succ fuel ih =>
    intro j h h1 h2 R e0 keh
    have h24 := I.n24 hf
    refine v_iload 191 dX12_saw_189 rfl rfl ?_
    refine v_iload_n 192 dX12_saw_191 rfl rfl ?_
    refine v_iload 194 dX12_saw_192 rfl rfl ?_
    refine v_iadd 195 dX12_saw_194 rfl ?_
    rw [nI_add]
    refine v_icmp_ge 213 198 dX12_saw_195 (by decide) rfl (fun c195 => ?_) (fun c195 => ?_)
    · have hkm : j = m := by
        rcases Nat.lt_or_ge (a + j) (a + m) with q | q
        · exact absurd c195 (nI_ge q (by omega))
        · omega
      subst hkm
      exact K _ R e0 keh
    · have hkm : j < m := by
        rcases Nat.lt_or_ge (a + j) (a + m) with q | q
        · omega
        · exact absurd (nI_le q (by omega)) c195
      refine v_aload 200 dX12_saw_198 rfl rfl ?_
      refine v_getfr 203 dX12_saw_200 fl_X12_103 (by first | assumption | rfl) (by rfl) rfl ?_
      rw [R.vr (t := 42) (by decide), (su_te S f a (t := 42) (by decide) j).2.2.2.1, I.us hf]
      refine v_iload 205 dX12_saw_203 rfl rfl ?_
      refine v_iconstv (v := 1) 206 dX12_saw_205 (by decide) rfl ?_
      refine v_zast 207 dX12_saw_206 (by first | assumption | rfl) (by first | assumption | decide) (by rw [R.ln (t := 62) (by decide)]; show vp_in _ (s_n (su_ S f a j) f); rw [su_n]; exact in_nI (c := s_n S f) (by omega) (by omega)) (by first | rfl | decide) rfl ?_
      rw [nI_clamp (by omega)]
      refine v_iinc 210 dX12_saw_207 rfl (by decide) rfl rfl ?_
      dsimp only [List.set]
      refine v_goto 189 dX12_saw_210 (by decide) ?_
      rw [show nI (a + j) + Int32.ofInt 1 = nI (a + (j + 1)) from nI_1 (a + j)]
      exact ih (j + 1) _ (by omega) (by omega) (R.i (t := 62) (i := f) (k := a + j) (x := 1) (by decide)) ((hp_seti_ne (by simp)).trans e0) (keh.tr (ke_.i (by decide) (by decide)))
set_option maxRecDepth 20000 in
theorem C_X12_saw {G : GW} {h : PH} {Q : RS → PH → Prop} {S : SP} {N : Nat} (R : Rp2 S h) (I : Iv S N) {x y a m : Int32} (hq : ∀ v h', ((op_saw S x y a m).1 = 0 → v = (op_saw S x y a m).2.1) → Rp2 (op_saw S x y a m).2.2 h' → hp_vi h' 40 0 0 = nI (op_saw S x y a m).1 → ke_ h h' → Q (.inl (some (pv_I v))) h') : VV G 9 12 40 yX12_saw cX12_saw 9 (some .int) [] 0 (vv_en 9 [pv_O (40, 0), pv_I x, pv_I y, pv_I a, pv_I m]) [] h Q := by
  show VV G 9 12 40 yX12_saw cX12_saw 9 (some .int) [] 0 [some (pv_O (40, 0)), some (pv_I x), some (pv_I y), some (pv_I a), some (pv_I m), none, none, none, none] [] h Q
  obtain ⟨z0, z1, z2, z3, z4, z5⟩ := I.cs
  refine v_aload_n 1 dX12_saw_0 rfl rfl ?_
  refine v_invv (d' := 0) (k' := 0) (n' := 0) (k2 := 12) (n2 := 40) 4 [] dX12_saw_1 mt_X12_48 mi_X12_begins me_X12_begins (by first | assumption | rfl) (by rfl) rfl rfl (of_decide_eq_true rfl) rfl (by decide) rfl rfl rfl rfl (C2_begins R (fun h0 R e0 ke0 => ?_))
  refine v_aload_n 5 dX12_saw_4 rfl rfl ?_
  refine v_iload_n 6 dX12_saw_5 rfl rfl ?_
  refine v_invv (d' := 4) (k' := 0) (n' := 0) (k2 := 12) (n2 := 40) 9 [_] dX12_saw_6 mt_X12_307 mi_X12_noPicture me_X12_noPicture (by first | assumption | rfl) (by rfl) rfl rfl (of_decide_eq_true rfl) rfl (by decide) rfl rfl rfl rfl (C_X12_noPicture R e0 (fun a6 => ?_) (fun b6 => ?_))
  · refine v_if_ne 51 12 dX12_saw_9 (by decide) rfl (fun c9 => ?_) (fun c9 => ?_)
    · first | exact absurd c9 (by decide) | exact absurd rfl c9 | exact absurd (of_decide_eq_true rfl) c9
    · refine v_aload_n 13 dX12_saw_12 rfl rfl ?_
      refine v_iload_n 14 dX12_saw_13 rfl rfl ?_
      refine v_iload_n 15 dX12_saw_14 rfl rfl ?_
      refine v_iload 17 dX12_saw_15 rfl rfl ?_
      refine v_invv (d' := 5) (k' := 0) (n' := 0) (k2 := 12) (n2 := 40) 20 [_, _, _] dX12_saw_17 mt_X12_175 mi_X12_noRow me_X12_noRow (by first | assumption | rfl) (by rfl) rfl rfl (of_decide_eq_true rfl) rfl (by decide) rfl rfl rfl rfl (C_X12_noRow R I e0 (fun a17 => ?_) (fun b17 => ?_))
      · refine v_if_ne 51 23 dX12_saw_20 (by decide) rfl (fun c20 => ?_) (fun c20 => ?_)
        · first | exact absurd c20 (by decide) | exact absurd rfl c20 | exact absurd (of_decide_eq_true rfl) c20
        · refine v_aload_n 24 dX12_saw_23 rfl rfl ?_
          refine v_iload 26 dX12_saw_24 rfl rfl ?_
          refine v_i2l 27 dX12_saw_26 rfl ?_
          refine v_ldc2 30 dX12_saw_27 cn_X12_334 rfl rfl ?_
          refine v_ldc2 33 dX12_saw_30 cn_X12_181 rfl rfl ?_
          refine v_invs (d' := 0) (k' := 0) (n' := 0) (k2 := 12) (n2 := 40) 36 [_, _, _] dX12_saw_33 mt_X12_44 ms_X12_in rfl rfl (of_decide_eq_true rfl) rfl (by decide) rfl rfl rfl rfl (C_in2 (lo := 2) (hi := 8) rfl (by decide) (by decide) (fun a33 => ?_) (fun b33 => ?_))
          · refine v_if_ne 43 39 dX12_saw_36 (by decide) rfl (fun c36 => ?_) (fun c36 => ?_)
            · refine v_iconstv (v := 0) 44 dX12_saw_43 (by decide) rfl ?_
              refine v_iconstv (v := 2) 45 dX12_saw_44 (by decide) rfl ?_
              refine v_invv (d' := 0) (k' := 0) (n' := 0) (k2 := 12) (n2 := 40) 48 [_, _] dX12_saw_45 mt_X12_67 mi_X12_fails me_X12_fails (by first | assumption | rfl) (by rfl) rfl rfl (of_decide_eq_true rfl) rfl (by decide) rfl rfl rfl rfl (C_f0 e0 ?_)
              refine v_if_eq 53 51 dX12_saw_48 (by decide) rfl (fun c48 => ?_) (fun c48 => ?_)
              · refine v_aload_n 54 dX12_saw_53 rfl rfl ?_
                refine v_getfr 57 dX12_saw_54 fl_X12_16 (by first | assumption | rfl) (by rfl) rfl ?_
                rw [R.1.1.2.2.1]
                refine v_iload_n 58 dX12_saw_57 rfl rfl ?_
                refine v_invf (z := ("java/util/ArrayList", TJx4a65c, 3)) (d' := 2) (k' := 0) (n' := 0) (k2 := 12) (n2 := 40) 63 [_] dX12_saw_58 mf_X12_90 md_Jx4a65c_get_915e3 mi_Jx4a65c_get_915e3 se_Jx4a65c_get_915e3 (by simp [g_fw]; rfl) ⟨by decide, by decide +kernel⟩ (by first | assumption | rfl) (by rfl) rfl rfl (of_decide_eq_true rfl) rfl (by decide) rfl rfl rfl rfl (C_gt (tl := 51) (ta := 57) rfl rfl R.2.1.2.1 a17.1 ?_)
                refine v_cast 66 dX12_saw_63 ⟨_, _, rfl, rfl, cl_X12_98⟩ rfl ?_
                refine v_astore 68 dX12_saw_66 (by decide) rfl rfl ?_
                dsimp only [List.set]
                refine v_aload_n 69 dX12_saw_68 rfl rfl ?_
                refine v_getfr 72 dX12_saw_69 fl_X12_32 (by first | assumption | rfl) (by rfl) rfl ?_
                rw [R.1.1.2.2.2.2.2.2]
                refine v_iload_n 73 dX12_saw_72 rfl rfl ?_
                refine v_invf (z := ("java/util/ArrayList", TJx4a65c, 3)) (d' := 2) (k' := 0) (n' := 0) (k2 := 12) (n2 := 40) 78 [_] dX12_saw_73 mf_X12_90 md_Jx4a65c_get_915e3 mi_Jx4a65c_get_915e3 se_Jx4a65c_get_915e3 (by simp [g_fw]; rfl) ⟨by decide, by decide +kernel⟩ (by first | assumption | rfl) (by rfl) rfl rfl (of_decide_eq_true rfl) rfl (by decide) rfl rfl rfl rfl (C_gt (tl := 55) (ta := 61) rfl rfl R.2.1.2.2.2.2.2 (by assumption) ?_)
                refine v_cast 81 dX12_saw_78 ⟨_, _, rfl, rfl, cl_X12_304⟩ rfl ?_
                refine v_getfr 84 dX12_saw_81 fl_X12_314 (by first | assumption | rfl) (by rfl) rfl ?_
                rw [R.vr (t := 44) (by decide)]
                refine v_ifnonnull 91 87 dX12_saw_84 (by decide) rfl (fun c84 => ?_) (fun c84 => ?_)
                · refine v_iconstv (v := 0) 92 dX12_saw_91 (by decide) rfl ?_
                  refine v_istore 94 dX12_saw_92 (by decide) rfl rfl ?_
                  dsimp only [List.set]
                  refine v_bipushv (v := -64) 96 dX12_saw_94 (by decide) rfl ?_
                  refine v_iload 98 dX12_saw_96 rfl rfl ?_
                  refine v_imul 99 dX12_saw_98 rfl ?_
                  refine v_istore 101 dX12_saw_99 (by decide) rfl rfl ?_
                  dsimp only [List.set]
                  refine v_iload_n 102 dX12_saw_101 rfl rfl ?_
                  refine v_istore 104 dX12_saw_102 (by decide) rfl rfl ?_
                  dsimp only [List.set]
                  have c84 : ¬ (s_pa S (cl_ x)).1 = 0 := c84
                  have hc := a6.cl (by omega)
                  have hc2 := a17.1.cl (by omega)
                  have h24 := I.n24 hc2.1
                  obtain ⟨a9, ha9, ea⟩ := a17.2.1.nat (by omega)
                  obtain ⟨m9, m1, m2, em⟩ := a_nat (lo := 2) (hi := 8) a33 (by decide) (by decide)
                  subst ea
                  subst em
                  have ham : a9 + m9 ≤ s_n S (cl_ y) := by
                    have q := (row_le (n := s_n S (cl_ y)) (by omega) a17.2.1).mp a17.2.2
                    rw [nI_toInt (by omega), nI_toInt (by omega)] at q
                    omega
                  have ec1 : cl_ (nI a9) = a9 := nI_clamp (by omega)
                  have ec2 : cl_ (nI m9) = m9 := nI_clamp (by omega)
                  refine VV.less (Nat.le_refl _) (Nat.le_refl _) (Nat.le_refl _) ?_
                  have X := fun K => L1_X12_saw (G := G) (p := cl_ x) (x := x) (y := y) (Q := Q) R I hc2.1 ham (by omega) K (m9 + 1) 0 0 (Nat.zero_le _) (by omega) (Or.inr ⟨rfl, fun q => c84 q.1⟩)
                  rw [show sm_a S (cl_ y) a9 0 = 0 from rfl, Int32.add_zero] at X
                  refine X (fun c h9 => ?_)
                  refine v_aload_n 167 dX12_saw_166 rfl rfl ?_
                  refine v_iload 169 dX12_saw_167 rfl rfl ?_
                  refine v_if_ne 176 172 dX12_saw_169 (by decide) rfl (fun c169 => ?_) (fun c169 => ?_)
                  · have w : pw_ S (cl_ x) (cl_ y) a9 m9 := by
                      rcases h9 with ⟨rfl, w⟩ | ⟨rfl, w⟩
                      · exact w
                      · exact absurd rfl c169
                    refine v_iconstv (v := 0) 177 dX12_saw_176 (by decide) rfl ?_
                    refine v_iconstv (v := 3) 178 dX12_saw_177 (by decide) rfl ?_
                    refine v_invv (d' := 0) (k' := 0) (n' := 0) (k2 := 12) (n2 := 40) 181 [_, _] dX12_saw_178 mt_X12_67 mi_X12_fails me_X12_fails (by first | assumption | rfl) (by rfl) rfl rfl (of_decide_eq_true rfl) rfl (by decide) rfl rfl rfl rfl (C_f0 e0 ?_)
                    refine v_if_eq 186 184 dX12_saw_181 (by decide) rfl (fun c181 => ?_) (fun c181 => ?_)
                    · refine v_iload_n 187 dX12_saw_186 rfl rfl ?_
                      refine v_istore 189 dX12_saw_187 (by decide) rfl rfl ?_
                      dsimp only [List.set]
                      refine L2_X12_saw (h0 := h0) I hc2.1 ham (by omega) (fun h7 R7 e7 ke7 => ?_) (m9 + 1) 0 h0 (Nat.zero_le _) (by omega) R e0 ke_.rf
                      refine v_aload_n 214 dX12_saw_213 rfl rfl ?_
                      refine v_getfr 217 dX12_saw_214 fl_X12_32 (by first | assumption | rfl) (by rfl) rfl ?_
                      rw [R7.1.1.2.2.2.2.2.2]
                      refine v_iload_n 218 dX12_saw_217 rfl rfl ?_
                      refine v_invf (z := ("java/util/ArrayList", TJx4a65c, 3)) (d' := 2) (k' := 0) (n' := 0) (k2 := 12) (n2 := 40) 223 [_] dX12_saw_218 mf_X12_90 md_Jx4a65c_get_915e3 mi_Jx4a65c_get_915e3 se_Jx4a65c_get_915e3 (by simp [g_fw]; rfl) ⟨by decide, by decide +kernel⟩ (by first | assumption | rfl) (by rfl) rfl rfl (of_decide_eq_true rfl) rfl (by decide) rfl rfl rfl rfl (C_gt (tl := 55) (ta := 61) rfl rfl R7.2.1.2.2.2.2.2 (show ok_i x (nn_ (su_ S (cl_ y) a9 m9) 3) by unfold nn_; rw [su_2]; exact a6) ?_)
                      refine v_cast 226 dX12_saw_223 ⟨_, _, rfl, rfl, cl_X12_304⟩ rfl ?_
                      refine v_new (k1 := 11) (n1 := 37) 229 48 (cl_ x) dX12_saw_226 nw_X12_157 (by rfl) (by decide) (by rw [R7.al (t := 48) (by decide), (su_te S (cl_ y) a9 (t := 48) (by decide) m9).1]; rcases (I.2.2.2.2.1 _ hc.1).2.1 with q | q; exact q.2; exact absurd w.1 (by rw [q.1]; exact (by decide : ¬ (48 : Nat) = 0))) rfl rfl rfl ?_
                      refine v_dup 230 dX12_saw_229 rfl rfl ?_
                      refine v_aload 232 dX12_saw_230 rfl rfl ?_
                      refine v_iload_n 233 dX12_saw_232 rfl rfl ?_
                      refine v_iload 235 dX12_saw_233 rfl rfl ?_
                      refine v_invi (d' := 1) (k' := 0) (n' := 0) (k2 := 11) (n2 := 37) 238 [_, _, _] dX12_saw_235 mt_X12_183 mi_X8_init rfl rfl (by first | assumption | rfl) rfl rfl (of_decide_eq_true rfl) rfl (by decide) rfl rfl rfl rfl (C_X8_init rfl (by decide) ?_)
                      refine v_putfr 241 dX12_saw_238 pf_X12_saw_314 (by first | assumption | rfl) (by first | assumption | decide) (by rfl) rfl ?_
                      have R8 : Rp2 (pq_ (su_ S (cl_ y) a9 m9) (cl_ x) (cl_ y) (nI a9) (nI m9)) (hp_setr (hp_seti (hp_seti (hp_setr (hp_new h7 48 (cl_ x) 0) 48 (cl_ x) 0 (42, cl_ y)) 48 (cl_ x) 1 (nI a9)) 48 (cl_ x) 2 (nI m9)) 44 (cl_ x) 1 (48, cl_ x)) := by
                        unfold pq_
                        repeat' first | refine Rp2.i' ?_ (by decide) | refine Rp2.r' ?_ (by decide) | refine Rp2.n' ?_ (by decide) | exact R7
                      refine v_aload_n 242 dX12_saw_241 rfl rfl ?_
                      refine v_dup 243 dX12_saw_242 rfl rfl ?_
                      refine v_getfi 246 dX12_saw_243 fl_X12_336 (by first | assumption | rfl) (by rfl) rfl ?_
                      rw [R8.1.2 9 (by decide) (by decide)]
                      refine v_bipushv (v := 64) 248 dX12_saw_246 (by decide) rfl ?_
                      refine v_iload 250 dX12_saw_248 rfl rfl ?_
                      refine v_imul 251 dX12_saw_250 rfl ?_
                      refine v_iadd 252 dX12_saw_251 rfl ?_
                      refine v_putfi 255 dX12_saw_252 pf_X12_saw_336 (by first | assumption | rfl) (by first | assumption | decide) (by rfl) rfl rfl rfl ?_
                      refine v_aload_n 256 dX12_saw_255 rfl rfl ?_
                      refine v_dup 257 dX12_saw_256 rfl rfl ?_
                      refine v_getfi 260 dX12_saw_257 fl_X12_168 (by first | assumption | rfl) (by rfl) rfl ?_
                      rw [hp_seti_ne (by simp), R8.1.2 10 (by decide) (by decide)]
                      refine v_iload 262 dX12_saw_260 rfl rfl ?_
                      refine v_iadd 263 dX12_saw_262 rfl ?_
                      refine v_putfi 266 dX12_saw_263 pf_X12_saw_168 (by first | assumption | rfl) (by first | assumption | decide) (by rfl) rfl rfl rfl ?_
                      refine v_iload 268 dX12_saw_266 rfl rfl ?_
                      refine v_ireturn dX12_saw_268 rfl ?_
                      have ev : op_saw S x y (nI a9) (nI m9) = (0, sm_a (pq_ S (cl_ x) (cl_ y) (nI a9) (nI m9)) (cl_ y) a9 m9 - 64 * nI m9, sg_ (su_ (pq_ S (cl_ x) (cl_ y) (nI a9) (nI m9)) (cl_ y) a9 m9) (64 * nI m9) (sm_a (pq_ S (cl_ x) (cl_ y) (nI a9) (nI m9)) (cl_ y) a9 m9 - 64 * nI m9)) := by unfold op_saw; rw [if_pos a6, if_pos a17, if_pos a33, ec1, ec2, if_pos w.1, if_pos w.2]
                      rw [ev, pq_su, pq_sm, ← m64_] at hq
                      exact hq _ _ (fun _ => rfl) ((R8.g (k := 9) (x := hp_vi (pq_ (su_ S (cl_ y) a9 m9) (cl_ x) (cl_ y) (nI a9) (nI m9)).1 40 0 9 + 64 * nI m9) (by decide)).g (k := 10) (x := hp_vi (pq_ (su_ S (cl_ y) a9 m9) (cl_ x) (cl_ y) (nI a9) (nI m9)).1 40 0 10 + (-64 * nI m9 + sm_a S (cl_ y) a9 m9)) (by decide)) ((hp_seti_ne (by simp)).trans ((hp_seti_ne (by simp)).trans e7)) (((ke0.tr ke7).tr (h1 := h7) (((((ke_.n (by decide) (by decide)).tr (ke_.r (by decide) (by decide))).tr (ke_.i (by decide) (by decide))).tr (ke_.i (by decide) (by decide))).tr (ke_.r (by decide) (by decide)))).tr ((ke_.i (by decide) (by decide)).tr (ke_.i (by decide) (by decide))))
                    · first | exact absurd c181 (by decide) | exact absurd rfl c181 | exact absurd (of_decide_eq_true rfl) c181
                  · have w : ¬ pw_ S (cl_ x) (cl_ y) a9 m9 := by
                      rcases h9 with ⟨rfl, w⟩ | ⟨rfl, w⟩
                      · exact absurd c169 (by decide)
                      · exact w
                    refine v_iconstv (v := 1) 173 dX12_saw_172 (by decide) rfl ?_
                    refine v_goto 177 dX12_saw_173 (by decide) ?_
                    refine v_iconstv (v := 3) 178 dX12_saw_177 (by decide) rfl ?_
                    refine v_invv (d' := 0) (k' := 0) (n' := 0) (k2 := 12) (n2 := 40) 181 [_, _] dX12_saw_178 mt_X12_67 mi_X12_fails me_X12_fails (by first | assumption | rfl) (by rfl) rfl rfl (of_decide_eq_true rfl) rfl (by decide) rfl rfl rfl rfl (C_f1 e0 (by decide) ?_)
                    refine v_if_eq 186 184 dX12_saw_181 (by decide) rfl (fun c181 => ?_) (fun c181 => ?_)
                    · first | exact absurd c181 (by decide) | exact absurd rfl c181 | exact absurd (of_decide_eq_true rfl) c181
                    · refine v_iconstv (v := -1) 185 dX12_saw_184 (by decide) rfl ?_
                      refine v_ireturn dX12_saw_185 rfl ?_
                      have ev : op_saw S x y (nI a9) (nI m9) = (3, 0, S) := by
                        unfold op_saw
                        rw [if_pos a6, if_pos a17, if_pos a33, ec1, ec2]
                        by_cases q : (s_pa S (cl_ x)).1 = 0
                        · rw [if_pos q, if_neg (fun v => w ⟨q, v⟩)]
                        · rw [if_neg q]
                      rw [ev] at hq
                      exact hq _ _ (fun e => absurd e (Nat.succ_ne_zero _)) R.th hp_seti_at (ke0.tr (ke_.i (by decide) (by decide)))
                · refine v_iconstv (v := 1) 88 dX12_saw_87 (by decide) rfl ?_
                  refine v_goto 92 dX12_saw_88 (by decide) ?_
                  refine v_istore 94 dX12_saw_92 (by decide) rfl rfl ?_
                  dsimp only [List.set]
                  refine v_bipushv (v := -64) 96 dX12_saw_94 (by decide) rfl ?_
                  refine v_iload 98 dX12_saw_96 rfl rfl ?_
                  refine v_imul 99 dX12_saw_98 rfl ?_
                  refine v_istore 101 dX12_saw_99 (by decide) rfl rfl ?_
                  dsimp only [List.set]
                  refine v_iload_n 102 dX12_saw_101 rfl rfl ?_
                  refine v_istore 104 dX12_saw_102 (by decide) rfl rfl ?_
                  dsimp only [List.set]
                  have c84 : (s_pa S (cl_ x)).1 = 0 := c84
                  have hc := a6.cl (by omega)
                  have hc2 := a17.1.cl (by omega)
                  have h24 := I.n24 hc2.1
                  obtain ⟨a9, ha9, ea⟩ := a17.2.1.nat (by omega)
                  obtain ⟨m9, m1, m2, em⟩ := a_nat (lo := 2) (hi := 8) a33 (by decide) (by decide)
                  subst ea
                  subst em
                  have ham : a9 + m9 ≤ s_n S (cl_ y) := by
                    have q := (row_le (n := s_n S (cl_ y)) (by omega) a17.2.1).mp a17.2.2
                    rw [nI_toInt (by omega), nI_toInt (by omega)] at q
                    omega
                  have ec1 : cl_ (nI a9) = a9 := nI_clamp (by omega)
                  have ec2 : cl_ (nI m9) = m9 := nI_clamp (by omega)
                  refine VV.less (Nat.le_refl _) (Nat.le_refl _) (Nat.le_refl _) ?_
                  have X := fun K => L1_X12_saw (G := G) (p := cl_ x) (x := x) (y := y) (Q := Q) R I hc2.1 ham (by omega) K (m9 + 1) 0 1 (Nat.zero_le _) (by omega) (Or.inl ⟨rfl, c84, fun k hk => absurd hk (Nat.not_lt_zero k)⟩)
                  rw [show sm_a S (cl_ y) a9 0 = 0 from rfl, Int32.add_zero] at X
                  refine X (fun c h9 => ?_)
                  refine v_aload_n 167 dX12_saw_166 rfl rfl ?_
                  refine v_iload 169 dX12_saw_167 rfl rfl ?_
                  refine v_if_ne 176 172 dX12_saw_169 (by decide) rfl (fun c169 => ?_) (fun c169 => ?_)
                  · have w : pw_ S (cl_ x) (cl_ y) a9 m9 := by
                      rcases h9 with ⟨rfl, w⟩ | ⟨rfl, w⟩
                      · exact w
                      · exact absurd rfl c169
                    refine v_iconstv (v := 0) 177 dX12_saw_176 (by decide) rfl ?_
                    refine v_iconstv (v := 3) 178 dX12_saw_177 (by decide) rfl ?_
                    refine v_invv (d' := 0) (k' := 0) (n' := 0) (k2 := 12) (n2 := 40) 181 [_, _] dX12_saw_178 mt_X12_67 mi_X12_fails me_X12_fails (by first | assumption | rfl) (by rfl) rfl rfl (of_decide_eq_true rfl) rfl (by decide) rfl rfl rfl rfl (C_f0 e0 ?_)
                    refine v_if_eq 186 184 dX12_saw_181 (by decide) rfl (fun c181 => ?_) (fun c181 => ?_)
                    · refine v_iload_n 187 dX12_saw_186 rfl rfl ?_
                      refine v_istore 189 dX12_saw_187 (by decide) rfl rfl ?_
                      dsimp only [List.set]
                      refine L2_X12_saw (h0 := h0) I hc2.1 ham (by omega) (fun h7 R7 e7 ke7 => ?_) (m9 + 1) 0 h0 (Nat.zero_le _) (by omega) R e0 ke_.rf
                      refine v_aload_n 214 dX12_saw_213 rfl rfl ?_
                      refine v_getfr 217 dX12_saw_214 fl_X12_32 (by first | assumption | rfl) (by rfl) rfl ?_
                      rw [R7.1.1.2.2.2.2.2.2]
                      refine v_iload_n 218 dX12_saw_217 rfl rfl ?_
                      refine v_invf (z := ("java/util/ArrayList", TJx4a65c, 3)) (d' := 2) (k' := 0) (n' := 0) (k2 := 12) (n2 := 40) 223 [_] dX12_saw_218 mf_X12_90 md_Jx4a65c_get_915e3 mi_Jx4a65c_get_915e3 se_Jx4a65c_get_915e3 (by simp [g_fw]; rfl) ⟨by decide, by decide +kernel⟩ (by first | assumption | rfl) (by rfl) rfl rfl (of_decide_eq_true rfl) rfl (by decide) rfl rfl rfl rfl (C_gt (tl := 55) (ta := 61) rfl rfl R7.2.1.2.2.2.2.2 (show ok_i x (nn_ (su_ S (cl_ y) a9 m9) 3) by unfold nn_; rw [su_2]; exact a6) ?_)
                      refine v_cast 226 dX12_saw_223 ⟨_, _, rfl, rfl, cl_X12_304⟩ rfl ?_
                      refine v_new (k1 := 11) (n1 := 37) 229 48 (cl_ x) dX12_saw_226 nw_X12_157 (by rfl) (by decide) (by rw [R7.al (t := 48) (by decide), (su_te S (cl_ y) a9 (t := 48) (by decide) m9).1]; rcases (I.2.2.2.2.1 _ hc.1).2.1 with q | q; exact q.2; exact absurd w.1 (by rw [q.1]; exact (by decide : ¬ (48 : Nat) = 0))) rfl rfl rfl ?_
                      refine v_dup 230 dX12_saw_229 rfl rfl ?_
                      refine v_aload 232 dX12_saw_230 rfl rfl ?_
                      refine v_iload_n 233 dX12_saw_232 rfl rfl ?_
                      refine v_iload 235 dX12_saw_233 rfl rfl ?_
                      refine v_invi (d' := 1) (k' := 0) (n' := 0) (k2 := 11) (n2 := 37) 238 [_, _, _] dX12_saw_235 mt_X12_183 mi_X8_init rfl rfl (by first | assumption | rfl) rfl rfl (of_decide_eq_true rfl) rfl (by decide) rfl rfl rfl rfl (C_X8_init rfl (by decide) ?_)
                      refine v_putfr 241 dX12_saw_238 pf_X12_saw_314 (by first | assumption | rfl) (by first | assumption | decide) (by rfl) rfl ?_
                      have R8 : Rp2 (pq_ (su_ S (cl_ y) a9 m9) (cl_ x) (cl_ y) (nI a9) (nI m9)) (hp_setr (hp_seti (hp_seti (hp_setr (hp_new h7 48 (cl_ x) 0) 48 (cl_ x) 0 (42, cl_ y)) 48 (cl_ x) 1 (nI a9)) 48 (cl_ x) 2 (nI m9)) 44 (cl_ x) 1 (48, cl_ x)) := by
                        unfold pq_
                        repeat' first | refine Rp2.i' ?_ (by decide) | refine Rp2.r' ?_ (by decide) | refine Rp2.n' ?_ (by decide) | exact R7
                      refine v_aload_n 242 dX12_saw_241 rfl rfl ?_
                      refine v_dup 243 dX12_saw_242 rfl rfl ?_
                      refine v_getfi 246 dX12_saw_243 fl_X12_336 (by first | assumption | rfl) (by rfl) rfl ?_
                      rw [R8.1.2 9 (by decide) (by decide)]
                      refine v_bipushv (v := 64) 248 dX12_saw_246 (by decide) rfl ?_
                      refine v_iload 250 dX12_saw_248 rfl rfl ?_
                      refine v_imul 251 dX12_saw_250 rfl ?_
                      refine v_iadd 252 dX12_saw_251 rfl ?_
                      refine v_putfi 255 dX12_saw_252 pf_X12_saw_336 (by first | assumption | rfl) (by first | assumption | decide) (by rfl) rfl rfl rfl ?_
                      refine v_aload_n 256 dX12_saw_255 rfl rfl ?_
                      refine v_dup 257 dX12_saw_256 rfl rfl ?_
                      refine v_getfi 260 dX12_saw_257 fl_X12_168 (by first | assumption | rfl) (by rfl) rfl ?_
                      rw [hp_seti_ne (by simp), R8.1.2 10 (by decide) (by decide)]
                      refine v_iload 262 dX12_saw_260 rfl rfl ?_
                      refine v_iadd 263 dX12_saw_262 rfl ?_
                      refine v_putfi 266 dX12_saw_263 pf_X12_saw_168 (by first | assumption | rfl) (by first | assumption | decide) (by rfl) rfl rfl rfl ?_
                      refine v_iload 268 dX12_saw_266 rfl rfl ?_
                      refine v_ireturn dX12_saw_268 rfl ?_
                      have ev : op_saw S x y (nI a9) (nI m9) = (0, sm_a (pq_ S (cl_ x) (cl_ y) (nI a9) (nI m9)) (cl_ y) a9 m9 - 64 * nI m9, sg_ (su_ (pq_ S (cl_ x) (cl_ y) (nI a9) (nI m9)) (cl_ y) a9 m9) (64 * nI m9) (sm_a (pq_ S (cl_ x) (cl_ y) (nI a9) (nI m9)) (cl_ y) a9 m9 - 64 * nI m9)) := by unfold op_saw; rw [if_pos a6, if_pos a17, if_pos a33, ec1, ec2, if_pos w.1, if_pos w.2]
                      rw [ev, pq_su, pq_sm, ← m64_] at hq
                      exact hq _ _ (fun _ => rfl) ((R8.g (k := 9) (x := hp_vi (pq_ (su_ S (cl_ y) a9 m9) (cl_ x) (cl_ y) (nI a9) (nI m9)).1 40 0 9 + 64 * nI m9) (by decide)).g (k := 10) (x := hp_vi (pq_ (su_ S (cl_ y) a9 m9) (cl_ x) (cl_ y) (nI a9) (nI m9)).1 40 0 10 + (-64 * nI m9 + sm_a S (cl_ y) a9 m9)) (by decide)) ((hp_seti_ne (by simp)).trans ((hp_seti_ne (by simp)).trans e7)) (((ke0.tr ke7).tr (h1 := h7) (((((ke_.n (by decide) (by decide)).tr (ke_.r (by decide) (by decide))).tr (ke_.i (by decide) (by decide))).tr (ke_.i (by decide) (by decide))).tr (ke_.r (by decide) (by decide)))).tr ((ke_.i (by decide) (by decide)).tr (ke_.i (by decide) (by decide))))
                    · first | exact absurd c181 (by decide) | exact absurd rfl c181 | exact absurd (of_decide_eq_true rfl) c181
                  · have w : ¬ pw_ S (cl_ x) (cl_ y) a9 m9 := by
                      rcases h9 with ⟨rfl, w⟩ | ⟨rfl, w⟩
                      · exact absurd c169 (by decide)
                      · exact w
                    refine v_iconstv (v := 1) 173 dX12_saw_172 (by decide) rfl ?_
                    refine v_goto 177 dX12_saw_173 (by decide) ?_
                    refine v_iconstv (v := 3) 178 dX12_saw_177 (by decide) rfl ?_
                    refine v_invv (d' := 0) (k' := 0) (n' := 0) (k2 := 12) (n2 := 40) 181 [_, _] dX12_saw_178 mt_X12_67 mi_X12_fails me_X12_fails (by first | assumption | rfl) (by rfl) rfl rfl (of_decide_eq_true rfl) rfl (by decide) rfl rfl rfl rfl (C_f1 e0 (by decide) ?_)
                    refine v_if_eq 186 184 dX12_saw_181 (by decide) rfl (fun c181 => ?_) (fun c181 => ?_)
                    · first | exact absurd c181 (by decide) | exact absurd rfl c181 | exact absurd (of_decide_eq_true rfl) c181
                    · refine v_iconstv (v := -1) 185 dX12_saw_184 (by decide) rfl ?_
                      refine v_ireturn dX12_saw_185 rfl ?_
                      have ev : op_saw S x y (nI a9) (nI m9) = (3, 0, S) := by
                        unfold op_saw
                        rw [if_pos a6, if_pos a17, if_pos a33, ec1, ec2]
                        by_cases q : (s_pa S (cl_ x)).1 = 0
                        · rw [if_pos q, if_neg (fun v => w ⟨q, v⟩)]
                        · rw [if_neg q]
                      rw [ev] at hq
                      exact hq _ _ (fun e => absurd e (Nat.succ_ne_zero _)) R.th hp_seti_at (ke0.tr (ke_.i (by decide) (by decide)))
              · first | exact absurd c48 (by decide) | exact absurd rfl c48 | exact absurd (of_decide_eq_true rfl) c48
            · first | exact absurd c36 (by decide) | exact absurd rfl c36 | exact absurd (of_decide_eq_true rfl) c36
          · refine v_if_ne 43 39 dX12_saw_36 (by decide) rfl (fun c36 => ?_) (fun c36 => ?_)
            · first | exact absurd c36 (by decide) | exact absurd rfl c36 | exact absurd (of_decide_eq_true rfl) c36
            · refine v_iconstv (v := 1) 40 dX12_saw_39 (by decide) rfl ?_
              refine v_goto 44 dX12_saw_40 (by decide) ?_
              refine v_iconstv (v := 2) 45 dX12_saw_44 (by decide) rfl ?_
              refine v_invv (d' := 0) (k' := 0) (n' := 0) (k2 := 12) (n2 := 40) 48 [_, _] dX12_saw_45 mt_X12_67 mi_X12_fails me_X12_fails (by first | assumption | rfl) (by rfl) rfl rfl (of_decide_eq_true rfl) rfl (by decide) rfl rfl rfl rfl (C_f1 e0 (by decide) ?_)
              refine v_if_eq 53 51 dX12_saw_48 (by decide) rfl (fun c48 => ?_) (fun c48 => ?_)
              · first | exact absurd c48 (by decide) | exact absurd rfl c48 | exact absurd (of_decide_eq_true rfl) c48
              · refine v_iconstv (v := -1) 52 dX12_saw_51 (by decide) rfl ?_
                refine v_ireturn dX12_saw_52 rfl ?_
                have ev : op_saw S x y a m = (2, 0, S) := by unfold op_saw; simp only [eq_true a6, eq_true a17, b33, ↓reduceIte, and_self, and_true, true_and, and_false, false_and, not_true_eq_false, not_false_eq_true]
                rw [ev] at hq
                exact hq _ _ (fun e => absurd e (Nat.succ_ne_zero _)) R.th hp_seti_at (ke0.tr (ke_.i (by decide) (by decide)))
      · refine v_if_ne 51 23 dX12_saw_20 (by decide) rfl (fun c20 => ?_) (fun c20 => ?_)
        · refine v_iconstv (v := -1) 52 dX12_saw_51 (by decide) rfl ?_
          refine v_ireturn dX12_saw_52 rfl ?_
          have ev : op_saw S x y a m = (1, 0, S) := by unfold op_saw; simp only [eq_true a6, b17, ↓reduceIte, and_self, and_true, true_and, and_false, false_and, not_true_eq_false, not_false_eq_true]
          rw [ev] at hq
          exact hq _ _ (fun e => absurd e (Nat.succ_ne_zero _)) R.th hp_seti_at (ke0.tr (ke_.i (by decide) (by decide)))
        · first | exact absurd c20 (by decide) | exact absurd rfl c20 | exact absurd (of_decide_eq_true rfl) c20
  · refine v_if_ne 51 12 dX12_saw_9 (by decide) rfl (fun c9 => ?_) (fun c9 => ?_)
    · refine v_iconstv (v := -1) 52 dX12_saw_51 (by decide) rfl ?_
      refine v_ireturn dX12_saw_52 rfl ?_
      have ev : op_saw S x y a m = (1, 0, S) := by unfold op_saw; simp only [b6, ↓reduceIte, and_self, and_true, true_and, and_false, false_and, not_true_eq_false, not_false_eq_true]
      rw [ev] at hq
      exact hq _ _ (fun e => absurd e (Nat.succ_ne_zero _)) R.th hp_seti_at (ke0.tr (ke_.i (by decide) (by decide)))
    · first | exact absurd c9 (by decide) | exact absurd rfl c9 | exact absurd (of_decide_eq_true rfl) c9
