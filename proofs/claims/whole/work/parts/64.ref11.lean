section VVR7
theorem hp_seti_id {h : PH} {t i k : Nat} {x : Int32} (e : hp_vi h t i k = x) : hp_seti h t i k x = h := by
  have e1 : (fun a b c => if a = t ∧ b = i ∧ c = k then x else h.2.2.1 a b c) = h.2.2.1 := by
    funext a b c
    by_cases q : a = t ∧ b = i ∧ c = k
    · rw [if_pos q]
      obtain ⟨rfl, rfl, rfl⟩ := q
      exact e.symm
    · rw [if_neg q]
  unfold hp_seti
  rw [e1]
theorem hp_s3 {h : PH} {t p i j k : Nat} {a b c a' b' c' : Int32} : hp_seti (hp_seti (hp_seti (hp_seti (hp_seti (hp_seti h t p i a) t p j b) t p k c) t p i a') t p j b') t p k c' = hp_seti (hp_seti (hp_seti h t p i a') t p j b') t p k c' := by
  unfold hp_seti
  refine congrArg (fun f => (h.1, h.2.1, f, h.2.2.2)) ?_
  funext x y z
  dsimp only
  by_cases e1 : x = t ∧ y = p ∧ z = i <;> by_cases e2 : x = t ∧ y = p ∧ z = j <;> by_cases e3 : x = t ∧ y = p ∧ z = k <;> simp [e1, e2, e3]
theorem mnN {a q : Nat} (ha : a < 2 ^ 31) (hq : q < 2 ^ 31) : mn (nI a) (nI q) = nI (min a q) := by
  rcases Nat.lt_or_ge q a with w | w
  · rw [Nat.min_eq_right (by omega)]; exact if_pos (nI_lt w ha)
  · rw [Nat.min_eq_left w]; exact if_neg (nI_nlt w hq)
/-- a panel padded with k charges, of s shine, c charges, g ghosts before -/
def pz_ (S : SP) (p s c : Nat) (g : Int32) (k : Nat) : SP := (hp_seti (hp_seti (hp_seti S.1 43 p 10 (nI (min 99 (s + 2 * min k (3 - c))))) 43 p 11 (g + nI (k - min k (3 - c)))) 43 p 12 (nI (c + k)), S.2)
theorem pz_0 {S : SP} {p s c : Nat} {g : Int32} (hs : hp_vi S.1 43 p 10 = nI s) (hs9 : s ≤ 99) (hg : hp_vi S.1 43 p 11 = g) (hc : hp_vi S.1 43 p 12 = nI c) : pz_ S p s c g 0 = S := by
  unfold pz_
  rw [Nat.zero_min, Nat.mul_zero, Nat.add_zero, Nat.sub_zero, Nat.min_eq_right hs9, hp_seti_id hs, show g + nI 0 = g from Int32.add_zero g, hp_seti_id hg, Nat.add_zero, hp_seti_id hc]
theorem pz_v {S : SP} {p s c k : Nat} {g : Int32} : hp_vi (pz_ S p s c g k).1 43 p 10 = nI (min 99 (s + 2 * min k (3 - c))) ∧ hp_vi (pz_ S p s c g k).1 43 p 11 = g + nI (k - min k (3 - c)) ∧ hp_vi (pz_ S p s c g k).1 43 p 12 = nI (c + k) := by
  unfold pz_
  exact ⟨(hp_seti_ne (by simp)).trans ((hp_seti_ne (by simp)).trans hp_seti_at), (hp_seti_ne (by simp)).trans hp_seti_at, hp_seti_at⟩
theorem pz_s {S : SP} {h : PH} {p s c k : Nat} {g a b d : Int32} (R : Rp2 (pz_ S p s c g k) h) (ea : a = nI (min 99 (s + 2 * min (k + 1) (3 - c)))) (eb : b = g + nI (k + 1 - min (k + 1) (3 - c))) (ec : d = nI (c + (k + 1))) : Rp2 (pz_ S p s c g (k + 1)) (hp_seti (hp_seti (hp_seti h 43 p 10 a) 43 p 11 b) 43 p 12 d) := by
  have X := ((R.i (t := 43) (i := p) (k := 10) (x := a) (by decide)).i (t := 43) (i := p) (k := 11) (x := b) (by decide)).i (t := 43) (i := p) (k := 12) (x := d) (by decide)
  rw [ea, eb, ec] at X ⊢
  unfold pz_ at X ⊢
  rw [show hp_seti (hp_seti (hp_seti (hp_seti (hp_seti (hp_seti S.1 43 p 10 (nI (min 99 (s + 2 * min k (3 - c))))) 43 p 11 (g + nI (k - min k (3 - c)))) 43 p 12 (nI (c + k))) 43 p 10 (nI (min 99 (s + 2 * min (k + 1) (3 - c))))) 43 p 11 (g + nI (k + 1 - min (k + 1) (3 - c)))) 43 p 12 (nI (c + (k + 1))) = _ from hp_s3] at X
  exact X
theorem pz_op {S : SP} {p s c m : Nat} (hs : hp_vi S.1 43 p 10 = nI s) (hs9 : s ≤ 99) (hc : hp_vi S.1 43 p 12 = nI c) (hc9 : c < 2 ^ 20) (hm : m ≤ 9) : (hp_seti (hp_seti (hp_seti S.1 43 p 10 (mn 99 (hp_vi S.1 43 p 10 + 2 * s_sh S p (nI m)))) 43 p 11 (hp_vi S.1 43 p 11 + (nI m - s_sh S p (nI m)))) 43 p 12 (hp_vi S.1 43 p 12 + nI m), S.2) = pz_ S p s c (hp_vi S.1 43 p 11) m ∧ mn 99 (hp_vi S.1 43 p 10 + 2 * s_sh S p (nI m)) = nI (min 99 (s + 2 * min m (3 - c))) := by
  have e0 : s_sh S p (nI m) = nI (min m (3 - c)) := by
    unfold s_sh
    rw [hc, show (3 : Int32) - nI c = nI 3 - nI c from rfl, mx_sub (by omega) (by omega), mnN (by omega) (by omega)]
  have e1 : mn 99 (hp_vi S.1 43 p 10 + 2 * s_sh S p (nI m)) = nI (min 99 (s + 2 * min m (3 - c))) := by
    rw [e0, hs, show (2 : Int32) * nI (min m (3 - c)) = nI (2 * min m (3 - c)) from pk_mul 2 _, nI_add]
    exact mnN (a := 99) (by decide) (by omega)
  refine ⟨?_, e1⟩
  rw [e1]
  unfold pz_
  rw [e0, pk_sub (Nat.min_le_left _ _), hc, nI_add]
end VVR7
set_option maxRecDepth 20000 in
theorem L_X12_pad {G : GW} {h0 : PH} {Q : RS → PH → Prop} {S : SP} {p s c m : Nat} {g x : Int32} (hs9 : s ≤ 99) (hc9 : c < 2 ^ 20) (hm : m ≤ 9) (hq : ∀ h', Rp2 (pz_ S p s c g m) h' → ke_ h0 h' → hp_te h0 h' 40 → Q (.inl (some (pv_I (nI (min 99 (s + 2 * min m (3 - c))))))) h') : ∀ fuel : Nat, ∀ (k : Nat) (h : PH), k ≤ m → m - k < fuel → Rp2 (pz_ S p s c g k) h → ke_ h0 h → hp_te h0 h 40 → VV G 2 0 0 yX12_pad cX12_pad 5 (some .int) [] 88 [some (pv_O (40, 0)), some (pv_I x), some (pv_I (nI m)), some (pv_O (43, p)), some (pv_I (nI k))] [] h Q := by
  intro fuel
  induction fuel with
  | zero =>
    intro k h h1 h2
    omega
  | succ fuel ih =>
    intro k h hk h2 R keh teh
    obtain ⟨us, ug, uc⟩ := pz_v (S := S) (p := p) (s := s) (c := c) (k := k) (g := g)
    have vs : hp_vi h 43 p 10 = nI (min 99 (s + 2 * min k (3 - c))) := by rw [R.vi (t := 43) (by decide)]; exact us
    have vg : hp_vi h 43 p 11 = g + nI (k - min k (3 - c)) := by rw [R.vi (t := 43) (by decide)]; exact ug
    have vc : hp_vi h 43 p 12 = nI (c + k) := by rw [R.vi (t := 43) (by decide)]; exact uc
    refine v_iload 90 dX12_pad_88 rfl rfl ?_
    refine v_iload_n 91 dX12_pad_90 rfl rfl ?_
    refine v_icmp_ge 162 94 dX12_pad_91 (by decide) rfl (fun c91 => ?_) (fun c91 => ?_)
    · have hkm : k = m := by
        rcases Nat.lt_or_ge k m with q | q
        · exact absurd c91 (nI_ge q (by omega))
        · omega
      subst hkm
      refine v_aload_n 163 dX12_pad_162 rfl rfl ?_
      refine v_getfi 166 dX12_pad_163 fl_X12_282 (by first | assumption | rfl) (by rfl) rfl ?_
      rw [vs]
      refine v_ireturn dX12_pad_166 rfl ?_
      exact hq _ R keh teh
    · have hkm : k < m := by
        rcases Nat.lt_or_ge k m with q | q
        · exact q
        · exact absurd (nI_le q (by omega)) c91
      refine v_aload_n 95 dX12_pad_94 rfl rfl ?_
      refine v_aload_n 96 dX12_pad_95 rfl rfl ?_
      refine v_getfi 99 dX12_pad_96 fl_X12_279 (by first | assumption | rfl) (by rfl) rfl ?_
      rw [vc]
      refine v_iconstv (v := 3) 100 dX12_pad_99 (by decide) rfl ?_
      refine v_icmp_ge 117 103 dX12_pad_100 (by decide) rfl (fun c100 => ?_) (fun c100 => ?_)
      · refine v_aload_n 118 dX12_pad_117 rfl rfl ?_
        refine v_getfi 121 dX12_pad_118 fl_X12_282 (by first | assumption | rfl) (by rfl) rfl ?_
        rw [vs]
        refine v_putfi 124 dX12_pad_121 pf_X12_pad_282 (by first | assumption | rfl) (by first | assumption | decide) (by rfl) rfl rfl rfl ?_
        refine v_aload_n 125 dX12_pad_124 rfl rfl ?_
        refine v_dup 126 dX12_pad_125 rfl rfl ?_
        refine v_getfi 129 dX12_pad_126 fl_X12_285 (by first | assumption | rfl) (by rfl) rfl ?_
        rw [hp_seti_ne (by simp), vg]
        refine v_aload_n 130 dX12_pad_129 rfl rfl ?_
        refine v_getfi 133 dX12_pad_130 fl_X12_279 (by first | assumption | rfl) (by rfl) rfl ?_
        rw [hp_seti_ne (by simp), vc]
        refine v_iconstv (v := 3) 134 dX12_pad_133 (by decide) rfl ?_
        refine v_icmp_ge 141 137 dX12_pad_134 (by decide) rfl (fun c134 => ?_) (fun c134 => ?_)
        · refine v_iconstv (v := 1) 142 dX12_pad_141 (by decide) rfl ?_
          refine v_iadd 143 dX12_pad_142 rfl ?_
          refine v_putfi 146 dX12_pad_143 pf_X12_pad_285 (by first | assumption | rfl) (by first | assumption | decide) (by rfl) rfl rfl rfl ?_
          refine v_aload_n 147 dX12_pad_146 rfl rfl ?_
          refine v_dup 148 dX12_pad_147 rfl rfl ?_
          refine v_getfi 151 dX12_pad_148 fl_X12_279 (by first | assumption | rfl) (by rfl) rfl ?_
          rw [hp_seti_ne (by simp), hp_seti_ne (by simp), vc]
          refine v_iconstv (v := 1) 152 dX12_pad_151 (by decide) rfl ?_
          refine v_iadd 153 dX12_pad_152 rfl ?_
          refine v_putfi 156 dX12_pad_153 pf_X12_pad_279 (by first | assumption | rfl) (by first | assumption | decide) (by rfl) rfl rfl rfl ?_
          refine v_iinc 159 dX12_pad_156 rfl (by decide) rfl rfl ?_
          dsimp only [List.set]
          refine v_goto 88 dX12_pad_159 (by decide) ?_
          rw [show nI k + Int32.ofInt 1 = nI (k + 1) from nI_1 k]
          have w100 : 3 ≤ c + k := Nat.le_of_not_lt (fun q => absurd c100 (nI_ge (b := 3) q (by decide)))
          exact ih (k + 1) _ (by omega) (by omega) (pz_s R (by rw [show min (k + 1) (3 - c) = min k (3 - c) by omega]) (by rw [show k + 1 - min (k + 1) (3 - c) = (k - min k (3 - c)) + 1 by omega, ← nI_1, Int32.add_assoc]) (by rw [nI_1]; rfl)) (keh.tr ((ke_.i (by decide) (by decide)).tr ((ke_.i (by decide) (by decide)).tr (ke_.i (by decide) (by decide))))) (teh.tr ((hp_te.i (by decide)).tr ((hp_te.i (by decide)).tr (hp_te.i (by decide)))))
        · exact absurd c100 c134
      · refine v_bipushv (v := 99) 105 dX12_pad_103 (by decide) rfl ?_
        refine v_aload_n 106 dX12_pad_105 rfl rfl ?_
        refine v_getfi 109 dX12_pad_106 fl_X12_282 (by first | assumption | rfl) (by rfl) rfl ?_
        rw [vs]
        refine v_iconstv (v := 2) 110 dX12_pad_109 (by decide) rfl ?_
        refine v_iadd 111 dX12_pad_110 rfl ?_
        refine v_min 114 dX12_pad_111 ma_X12_262 ma_s_min ma_i rfl (by decide) rfl ?_
        refine v_goto 121 dX12_pad_114 (by decide) ?_
        refine v_putfi 124 dX12_pad_121 pf_X12_pad_282 (by first | assumption | rfl) (by first | assumption | decide) (by rfl) rfl rfl rfl ?_
        refine v_aload_n 125 dX12_pad_124 rfl rfl ?_
        refine v_dup 126 dX12_pad_125 rfl rfl ?_
        refine v_getfi 129 dX12_pad_126 fl_X12_285 (by first | assumption | rfl) (by rfl) rfl ?_
        rw [hp_seti_ne (by simp), vg]
        refine v_aload_n 130 dX12_pad_129 rfl rfl ?_
        refine v_getfi 133 dX12_pad_130 fl_X12_279 (by first | assumption | rfl) (by rfl) rfl ?_
        rw [hp_seti_ne (by simp), vc]
        refine v_iconstv (v := 3) 134 dX12_pad_133 (by decide) rfl ?_
        refine v_icmp_ge 141 137 dX12_pad_134 (by decide) rfl (fun c134 => ?_) (fun c134 => ?_)
        · exact absurd c134 c100
        · refine v_iconstv (v := 0) 138 dX12_pad_137 (by decide) rfl ?_
          refine v_goto 142 dX12_pad_138 (by decide) ?_
          refine v_iadd 143 dX12_pad_142 rfl ?_
          refine v_putfi 146 dX12_pad_143 pf_X12_pad_285 (by first | assumption | rfl) (by first | assumption | decide) (by rfl) rfl rfl rfl ?_
          refine v_aload_n 147 dX12_pad_146 rfl rfl ?_
          refine v_dup 148 dX12_pad_147 rfl rfl ?_
          refine v_getfi 151 dX12_pad_148 fl_X12_279 (by first | assumption | rfl) (by rfl) rfl ?_
          rw [hp_seti_ne (by simp), hp_seti_ne (by simp), vc]
          refine v_iconstv (v := 1) 152 dX12_pad_151 (by decide) rfl ?_
          refine v_iadd 153 dX12_pad_152 rfl ?_
          refine v_putfi 156 dX12_pad_153 pf_X12_pad_279 (by first | assumption | rfl) (by first | assumption | decide) (by rfl) rfl rfl rfl ?_
          refine v_iinc 159 dX12_pad_156 rfl (by decide) rfl rfl ?_
          dsimp only [List.set]
          refine v_goto 88 dX12_pad_159 (by decide) ?_
          rw [show nI k + Int32.ofInt 1 = nI (k + 1) from nI_1 k]
          have w100 : c + k < 3 := Nat.lt_of_not_le (fun q => c100 (nI_le (a := 3) q (by omega)))
          exact ih (k + 1) _ (by omega) (by omega) (pz_s R (by rw [show nI (min 99 (s + 2 * min k (3 - c))) + 2 = nI (min 99 (s + 2 * min k (3 - c)) + 2) from nI_add _ 2]; exact (mnN (a := 99) (by decide) (by omega)).trans (congrArg nI (by omega))) (by rw [show k + 1 - min (k + 1) (3 - c) = k - min k (3 - c) by omega, Int32.add_zero]) (by rw [nI_1]; rfl)) (keh.tr ((ke_.i (by decide) (by decide)).tr ((ke_.i (by decide) (by decide)).tr (ke_.i (by decide) (by decide))))) (teh.tr ((hp_te.i (by decide)).tr ((hp_te.i (by decide)).tr (hp_te.i (by decide)))))
set_option maxRecDepth 20000 in
theorem C_X12_pad {G : GW} {h : PH} {Q : RS → PH → Prop} {S : SP} {N : Nat} (R : Rp2 S h) (I : Iv S N) {x a : Int32} (hN : N ≤ 600) (hq : ∀ v h', ((op_pad S x a).1 = 0 → v = (op_pad S x a).2.1) → Rp2 (op_pad S x a).2.2 h' → hp_vi h' 40 0 0 = nI (op_pad S x a).1 → ke_ h h' → Q (.inl (some (pv_I v))) h') : VV G 9 0 0 yX12_pad cX12_pad 5 (some .int) [] 0 (vv_en 5 [pv_O (40, 0), pv_I x, pv_I a]) [] h Q := by
  show VV G 9 0 0 yX12_pad cX12_pad 5 (some .int) [] 0 [some (pv_O (40, 0)), some (pv_I x), some (pv_I a), none, none] [] h Q
  obtain ⟨z0, z1, z2, z3, z4, z5⟩ := I.cs
  refine v_aload_n 1 dX12_pad_0 rfl rfl ?_
  refine v_invv (d' := 0) (k' := 0) (n' := 0) (k2 := 0) (n2 := 0) 4 [] dX12_pad_1 mt_X12_48 mi_X12_begins me_X12_begins (by first | assumption | rfl) (by rfl) rfl rfl (of_decide_eq_true rfl) rfl (by decide) rfl rfl rfl rfl (C2_begins R (fun h0 R e0 ke0 => ?_))
  refine v_aload_n 5 dX12_pad_4 rfl rfl ?_
  refine v_iload_n 6 dX12_pad_5 rfl rfl ?_
  refine v_invv (d' := 4) (k' := 0) (n' := 0) (k2 := 0) (n2 := 0) 9 [_] dX12_pad_6 mt_X12_171 mi_X12_noPanel me_X12_noPanel (by first | assumption | rfl) (by rfl) rfl rfl (of_decide_eq_true rfl) rfl (by decide) rfl rfl rfl rfl (C_X12_noPanel R e0 (fun a6 => ?_) (fun b6 => ?_))
  · have hc := a6.cl (by omega)
    obtain ⟨j0, j1, j2, j3, j4, j5, j6, j7, j8, j9, ⟨s, es, hs9⟩, ⟨c, ec, hc9⟩, j12⟩ := I.2.2.2.1 _ hc.1
    refine v_if_ne 69 12 dX12_pad_9 (by decide) rfl (fun c9 => ?_) (fun c9 => ?_)
    · first | exact absurd c9 (by decide) | exact absurd rfl c9 | exact absurd (of_decide_eq_true rfl) c9
    · refine v_aload_n 13 dX12_pad_12 rfl rfl ?_
      refine v_iload_n 14 dX12_pad_13 rfl rfl ?_
      refine v_i2l 15 dX12_pad_14 rfl ?_
      refine v_lconst (v := 1) 16 dX12_pad_15 (by decide) rfl ?_
      refine v_ldc2 19 dX12_pad_16 cn_X12_277 rfl rfl ?_
      refine v_invs (d' := 0) (k' := 0) (n' := 0) (k2 := 0) (n2 := 0) 22 [_, _, _] dX12_pad_19 mt_X12_44 ms_X12_in rfl rfl (of_decide_eq_true rfl) rfl (by decide) rfl rfl rfl rfl (C_in2 (lo := 1) (hi := 9) rfl (by decide) (by decide) (fun a19 => ?_) (fun b19 => ?_))
      · refine v_if_ne 29 25 dX12_pad_22 (by decide) rfl (fun c22 => ?_) (fun c22 => ?_)
        · refine v_iconstv (v := 0) 30 dX12_pad_29 (by decide) rfl ?_
          refine v_iconstv (v := 2) 31 dX12_pad_30 (by decide) rfl ?_
          refine v_invv (d' := 0) (k' := 0) (n' := 0) (k2 := 0) (n2 := 0) 34 [_, _] dX12_pad_31 mt_X12_67 mi_X12_fails me_X12_fails (by first | assumption | rfl) (by rfl) rfl rfl (of_decide_eq_true rfl) rfl (by decide) rfl rfl rfl rfl (C_f0 e0 ?_)
          refine v_if_ne 69 37 dX12_pad_34 (by decide) rfl (fun c34 => ?_) (fun c34 => ?_)
          · first | exact absurd c34 (by decide) | exact absurd rfl c34 | exact absurd (of_decide_eq_true rfl) c34
          · refine v_aload_n 38 dX12_pad_37 rfl rfl ?_
            refine v_aload_n 39 dX12_pad_38 rfl rfl ?_
            refine v_getfr 42 dX12_pad_39 fl_X12_19 (by first | assumption | rfl) (by rfl) rfl ?_
            rw [R.1.1.2.2.2.1]
            refine v_iload_n 43 dX12_pad_42 rfl rfl ?_
            refine v_invf (z := ("java/util/ArrayList", TJx4a65c, 3)) (d' := 2) (k' := 0) (n' := 0) (k2 := 0) (n2 := 0) 48 [_] dX12_pad_43 mf_X12_90 md_Jx4a65c_get_915e3 mi_Jx4a65c_get_915e3 se_Jx4a65c_get_915e3 (by simp [g_fw]; rfl) ⟨by decide, by decide +kernel⟩ (by first | assumption | rfl) (by rfl) rfl rfl (of_decide_eq_true rfl) rfl (by decide) rfl rfl rfl rfl (C_gt (tl := 52) (ta := 58) rfl rfl R.2.1.2.2.1 (by assumption) ?_)
            refine v_cast 51 dX12_pad_48 ⟨_, _, rfl, rfl, cl_X12_129⟩ rfl ?_
            refine v_getfi 54 dX12_pad_51 fl_X12_210 (by first | assumption | rfl) (by rfl) rfl ?_
            rw [R.vi (t := 43) (by decide)]
            refine v_if_ne 61 57 dX12_pad_54 (by decide) rfl (fun c54 => ?_) (fun c54 => ?_)
            · refine v_iconstv (v := 0) 62 dX12_pad_61 (by decide) rfl ?_
              refine v_iconstv (v := 3) 63 dX12_pad_62 (by decide) rfl ?_
              refine v_invv (d' := 0) (k' := 0) (n' := 0) (k2 := 0) (n2 := 0) 66 [_, _] dX12_pad_63 mt_X12_67 mi_X12_fails me_X12_fails (by first | assumption | rfl) (by rfl) rfl rfl (of_decide_eq_true rfl) rfl (by decide) rfl rfl rfl rfl (C_f0 e0 ?_)
              refine v_if_eq 71 69 dX12_pad_66 (by decide) rfl (fun c66 => ?_) (fun c66 => ?_)
              · refine v_aload_n 72 dX12_pad_71 rfl rfl ?_
                refine v_getfr 75 dX12_pad_72 fl_X12_19 (by first | assumption | rfl) (by rfl) rfl ?_
                rw [R.1.1.2.2.2.1]
                refine v_iload_n 76 dX12_pad_75 rfl rfl ?_
                refine v_invf (z := ("java/util/ArrayList", TJx4a65c, 3)) (d' := 2) (k' := 0) (n' := 0) (k2 := 0) (n2 := 0) 81 [_] dX12_pad_76 mf_X12_90 md_Jx4a65c_get_915e3 mi_Jx4a65c_get_915e3 se_Jx4a65c_get_915e3 (by simp [g_fw]; rfl) ⟨by decide, by decide +kernel⟩ (by first | assumption | rfl) (by rfl) rfl rfl (of_decide_eq_true rfl) rfl (by decide) rfl rfl rfl rfl (C_gt (tl := 52) (ta := 58) rfl rfl R.2.1.2.2.1 (by assumption) ?_)
                refine v_cast 84 dX12_pad_81 ⟨_, _, rfl, rfl, cl_X12_129⟩ rfl ?_
                refine v_astore_n 85 dX12_pad_84 (by decide) rfl rfl ?_
                dsimp only [List.set]
                refine v_iconstv (v := 0) 86 dX12_pad_85 (by decide) rfl ?_
                refine v_istore 88 dX12_pad_86 (by decide) rfl rfl ?_
                dsimp only [List.set]
                obtain ⟨m, m1, m2, em⟩ := a_nat (lo := 1) (hi := 9) a19 (by decide) (by decide)
                rw [em] at a19 hq ⊢
                obtain ⟨z8, z9⟩ := pz_op es hs9 ec (by omega) m2
                have ev : op_pad S x (nI m) = (0, nI (min 99 (s + 2 * min m (3 - c))), pz_ S (cl_ x) s c (hp_vi S.1 43 (cl_ x) 11) m) := by unfold op_pad; simp only [eq_true a6, eq_true a19, c54, ↓reduceIte]; rw [z8, z9]
                rw [ev] at hq
                refine VV.less (by decide) (by decide) (by decide) (L_X12_pad hs9 (by omega) m2 (fun h9 R9 ke9 te9 => hq _ _ (fun _ => rfl) R9 (by rw [te9.2.2.1]; exact e0) (ke0.tr ke9)) (m + 1) 0 _ (Nat.zero_le _) (by omega) (by rw [pz_0 es hs9 rfl ec]; exact R) ke_.rf hp_te.rf)
              · first | exact absurd c66 (by decide) | exact absurd rfl c66 | exact absurd (of_decide_eq_true rfl) c66
            · refine v_iconstv (v := 1) 58 dX12_pad_57 (by decide) rfl ?_
              refine v_goto 62 dX12_pad_58 (by decide) ?_
              refine v_iconstv (v := 3) 63 dX12_pad_62 (by decide) rfl ?_
              refine v_invv (d' := 0) (k' := 0) (n' := 0) (k2 := 0) (n2 := 0) 66 [_, _] dX12_pad_63 mt_X12_67 mi_X12_fails me_X12_fails (by first | assumption | rfl) (by rfl) rfl rfl (of_decide_eq_true rfl) rfl (by decide) rfl rfl rfl rfl (C_f1 e0 (by decide) ?_)
              refine v_if_eq 71 69 dX12_pad_66 (by decide) rfl (fun c66 => ?_) (fun c66 => ?_)
              · first | exact absurd c66 (by decide) | exact absurd rfl c66 | exact absurd (of_decide_eq_true rfl) c66
              · refine v_iconstv (v := -1) 70 dX12_pad_69 (by decide) rfl ?_
                refine v_ireturn dX12_pad_70 rfl ?_
                have ev : op_pad S x a = (3, 0, S) := by unfold op_pad; simp only [eq_true a6, eq_true a19, c54, ↓reduceIte, and_self, and_true, true_and, and_false, false_and, not_true_eq_false, not_false_eq_true]
                rw [ev] at hq
                exact hq _ _ (fun e => absurd e (Nat.succ_ne_zero _)) R.th hp_seti_at (ke0.tr (ke_.i (by decide) (by decide)))
        · first | exact absurd c22 (by decide) | exact absurd rfl c22 | exact absurd (of_decide_eq_true rfl) c22
      · refine v_if_ne 29 25 dX12_pad_22 (by decide) rfl (fun c22 => ?_) (fun c22 => ?_)
        · first | exact absurd c22 (by decide) | exact absurd rfl c22 | exact absurd (of_decide_eq_true rfl) c22
        · refine v_iconstv (v := 1) 26 dX12_pad_25 (by decide) rfl ?_
          refine v_goto 30 dX12_pad_26 (by decide) ?_
          refine v_iconstv (v := 2) 31 dX12_pad_30 (by decide) rfl ?_
          refine v_invv (d' := 0) (k' := 0) (n' := 0) (k2 := 0) (n2 := 0) 34 [_, _] dX12_pad_31 mt_X12_67 mi_X12_fails me_X12_fails (by first | assumption | rfl) (by rfl) rfl rfl (of_decide_eq_true rfl) rfl (by decide) rfl rfl rfl rfl (C_f1 e0 (by decide) ?_)
          refine v_if_ne 69 37 dX12_pad_34 (by decide) rfl (fun c34 => ?_) (fun c34 => ?_)
          · refine v_iconstv (v := -1) 70 dX12_pad_69 (by decide) rfl ?_
            refine v_ireturn dX12_pad_70 rfl ?_
            have ev : op_pad S x a = (2, 0, S) := by unfold op_pad; simp only [eq_true a6, b19, ↓reduceIte, and_self, and_true, true_and, and_false, false_and, not_true_eq_false, not_false_eq_true]
            rw [ev] at hq
            exact hq _ _ (fun e => absurd e (Nat.succ_ne_zero _)) R.th hp_seti_at (ke0.tr (ke_.i (by decide) (by decide)))
          · first | exact absurd c34 (by decide) | exact absurd rfl c34 | exact absurd (of_decide_eq_true rfl) c34
  · refine v_if_ne 69 12 dX12_pad_9 (by decide) rfl (fun c9 => ?_) (fun c9 => ?_)
    · refine v_iconstv (v := -1) 70 dX12_pad_69 (by decide) rfl ?_
      refine v_ireturn dX12_pad_70 rfl ?_
      have ev : op_pad S x a = (1, 0, S) := by unfold op_pad; simp only [b6, ↓reduceIte, and_self, and_true, true_and, and_false, false_and, not_true_eq_false, not_false_eq_true]
      rw [ev] at hq
      exact hq _ _ (fun e => absurd e (Nat.succ_ne_zero _)) R.th hp_seti_at (ke0.tr (ke_.i (by decide) (by decide)))
    · first | exact absurd c9 (by decide) | exact absurd rfl c9 | exact absurd (of_decide_eq_true rfl) c9
