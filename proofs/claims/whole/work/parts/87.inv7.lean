section VVJ7
variable {S : SP} {N : Nat}
theorem fc_go {x y a9 m9 : Nat} {j : Int32} (I : Iv S N) (J : J2 S) (hp : x < nn_ S 2) (hf : y < nn_ S 1) (ham : a9 + m9 ≤ s_n S y) (m1 : 1 ≤ m9) (m8 : m9 ≤ 8) (h0 : (s_fa S x).1 = 0) (h62 : ∀ k, k < m9 → hp_vi S.1 62 y (a9 + k) = 0) : Iv (ws_up (ly_ (fc_ S x y (nI a9) (nI m9) j) x y a9 m9).1 (ly_ (fc_ S x y (nI a9) (nI m9) j) x y a9 m9).2) (N + 1) ∧ J2 (ws_up (ly_ (fc_ S x y (nI a9) (nI m9) j) x y a9 m9).1 (ly_ (fc_ S x y (nI a9) (nI m9) j) x y a9 m9).2) := by
  have t60 : hp_vi S.1 43 x 6 = 0 := by
    obtain ⟨-, -, -, -, -, -, -, t6, -⟩ := I.2.2.2.1 x hp
    exact t6.elim (fun q => q.1) (fun q => absurd h0 q.2)
  refine iv_ly (u := 46) (sl := 3) I J rfl hp hf ham m1 m8 h62 (Or.inl ⟨rfl, rfl⟩) (fun t q => ((((((hp_te.n q.1).tr (hp_te.r q.1)).tr (hp_te.i q.1)).tr (hp_te.i q.1)).tr (hp_te.r q.2.1)).tr (hp_te.i q.2.1)).tr (hp_te.i q.2.2)) ?_ (fun i k hk => ?_) (fun i k => ?_) (fun i hi => ?_) ?_ ?_ ?_ ?_ ?_ (fun k hk => ?_) h0 t60
  · funext i; unfold fc_; simp [al_n, al_i, al_r]
  · unfold fc_; simp [vi_i, vi_r, vi_n, hk]
  · unfold fc_; simp [vr_i, vr_r, vr_n]
  · exact ((((((hp_tx.n (fun z => hi z.2)).tr (hp_tx.r (fun z => hi z.2))).tr (hp_tx.i (fun z => hi z.2))).tr (hp_tx.i (fun z => hi z.2))).tr (hp_tx.r (by omega))).tr (hp_tx.i (by omega))).tr (hp_tx.i (by omega))
  · unfold fc_; simp [al_n, al_i, al_r]
  · unfold fc_; simp [vr_i, vr_r, vr_n]
  · unfold fc_; simp [vi_i, vi_r, vi_n]
  · unfold fc_; simp [vi_i, vi_r, vi_n]
  · unfold fc_; simp [vi_i, vi_r, vi_n]
  · unfold fc_; rcases hk with rfl | rfl | rfl <;> simp [vi_i, vi_r, vi_n]
theorem bc_go {x y a9 m9 : Nat} (I : Iv S N) (J : J2 S) (hp : x < nn_ S 2) (hf : y < nn_ S 1) (ham : a9 + m9 ≤ s_n S y) (m1 : 1 ≤ m9) (m8 : m9 ≤ 8) (h0 : (s_ba S x).1 = 0) (t60 : hp_vi S.1 43 x 6 = 0) (h62 : ∀ k, k < m9 → hp_vi S.1 62 y (a9 + k) = 0) : Iv (ws_up (ly_ (bc_ S x y (nI a9) (nI m9)) x y a9 m9).1 (ly_ (bc_ S x y (nI a9) (nI m9)) x y a9 m9).2) (N + 1) ∧ J2 (ws_up (ly_ (bc_ S x y (nI a9) (nI m9)) x y a9 m9).1 (ly_ (bc_ S x y (nI a9) (nI m9)) x y a9 m9).2) := by
  refine iv_ly (u := 47) (sl := 4) I J rfl hp hf ham m1 m8 h62 (Or.inr ⟨rfl, rfl⟩) (fun t q => (((((hp_te.n q.1).tr (hp_te.r q.1)).tr (hp_te.i q.1)).tr (hp_te.i q.1)).tr (hp_te.r q.2.1)).tr (hp_te.i q.2.2)) ?_ (fun i k hk => ?_) (fun i k => ?_) (fun i hi => ?_) ?_ ?_ ?_ ?_ ?_ (fun k hk => ?_) h0 t60
  · funext i; unfold bc_; simp [al_n, al_i, al_r]
  · unfold bc_; simp [vi_i, vi_r, vi_n]
  · unfold bc_; simp [vr_i, vr_r, vr_n]
  · exact (((((hp_tx.n (fun z => hi z.2)).tr (hp_tx.r (fun z => hi z.2))).tr (hp_tx.i (fun z => hi z.2))).tr (hp_tx.i (fun z => hi z.2))).tr (hp_tx.r (by omega))).tr (hp_tx.i (by omega))
  · unfold bc_; simp [al_n, al_i, al_r]
  · unfold bc_; simp [vr_i, vr_r, vr_n]
  · unfold bc_; simp [vi_i, vi_r, vi_n]
  · unfold bc_; simp [vi_i, vi_r, vi_n]
  · unfold bc_; simp [vi_i, vi_r, vi_n]
    rw [Int32.add_assoc]
    congr 1
    exact Int32.add_comm _ _
  · unfold bc_; rcases hk with rfl | rfl | rfl <;> simp [vi_i, vi_r, vi_n]
/-- a row of leaves in numbers -/
theorem row_n {y a m : Int32} (I : Iv S N) (h : ok_r_ S y a m) {lo : Nat} (hm : nI lo ≤ m ∧ m ≤ 8) (hl : 1 ≤ lo ∧ lo < 9) : cl_ y < nn_ S 1 ∧ ∃ a9 m9 : Nat, a = nI a9 ∧ m = nI m9 ∧ lo ≤ m9 ∧ m9 ≤ 8 ∧ a9 + m9 ≤ s_n S (cl_ y) ∧ cl_ a = a9 ∧ cl_ m = m9 := by
  have hc2 := h.1.cl (by have := I.cs; omega)
  have h24 := I.n24 hc2.1
  obtain ⟨a9, ha9, ea⟩ := h.2.1.nat (by omega)
  obtain ⟨m9, m1, m2, em⟩ := a_nat (lo := lo) (hi := 8) hm (by decide) (by omega)
  subst ea em
  have q := (row_le (n := s_n S (cl_ y)) (by omega) h.2.1).mp h.2.2
  rw [nI_toInt (by omega), nI_toInt (by omega)] at q
  exact ⟨hc2.1, a9, m9, rfl, rfl, m1, m2, by omega, nI_clamp (by omega), nI_clamp (by omega)⟩
theorem iv_face {x y a m mt : Int32} (I : Iv S N) (J : J2 S) : Iv (op_face S x y a m mt).2.2 (N + 1) ∧ J2 (op_face S x y a m mt).2.2 := by
  have K : Iv S (N + 1) ∧ J2 S := ⟨I.m (by omega), J⟩
  unfold op_face
  split
  · rename_i hx
    split
    · rename_i hr
      split
      · rename_i hm
        split
        · rename_i h0
          split
          · rename_i hcv
            have hc := hx.cl (by have := I.cs; omega)
            obtain ⟨hf, a9, m9, rfl, rfl, m1, m8, ham, e1, e2⟩ := row_n I hr (lo := 1) hm.2 (by decide)
            rw [e1, e2]
            exact fc_go I J hc.1 hf ham m1 m8 h0 (fun k hk => by have h9 := (hcv.2 k (by rw [e2]; exact hk)).1; rw [e1] at h9; exact h9)
          · exact K
        · exact K
      · exact K
    · exact K
  · exact K
theorem iv_back {x y a m : Int32} (I : Iv S N) (J : J2 S) : Iv (op_back S x y a m).2.2 (N + 1) ∧ J2 (op_back S x y a m).2.2 := by
  have K : Iv S (N + 1) ∧ J2 S := ⟨I.m (by omega), J⟩
  unfold op_back
  split
  · rename_i hx
    split
    · rename_i hr
      split
      · rename_i hm
        split
        · rename_i h0
          split
          · rename_i h6
            split
            · rename_i hcv
              have hc := hx.cl (by have := I.cs; omega)
              obtain ⟨hf, a9, m9, rfl, rfl, m1, m8, ham, e1, e2⟩ := row_n I hr (lo := 1) hm (by decide)
              rw [e1, e2]
              exact bc_go I J hc.1 hf ham m1 m8 h0 h6 (fun k hk => by have h9 := (hcv.2 k (by rw [e2]; exact hk)).1; rw [e1] at h9; exact h9)
            · exact K
          · exact K
        · exact K
      · exact K
    · exact K
  · exact K
theorem i3_sw (a b c d e f g s : Int32) : a + b + (c + g) + d + e + (f + (s - g)) = a + b + c + d + e + f + s := by
  rw [Int32.sub_eq_add_neg]
  simp only [Int32.add_assoc]
  congr 3
  rw [i3_lc g d, i3_lc g e, i3_lc g f, i3_lc g s, ← Int32.sub_eq_add_neg g g, Int32.sub_self, Int32.add_zero]
theorem iv_saw {x y a m : Int32} (I : Iv S N) (J : J2 S) : Iv (op_saw S x y a m).2.2 (N + 1) ∧ J2 (op_saw S x y a m).2.2 := by
  have K : Iv S (N + 1) ∧ J2 S := ⟨I.m (by omega), J⟩
  unfold op_saw
  split
  · rename_i hx
    split
    · rename_i hr
      split
      · rename_i hm
        split
        · rename_i h0
          split
          · rename_i hcv
            have hc := hx.cl (by have := I.cs; omega)
            obtain ⟨hf, a9, m9, rfl, rfl, m1, m8, ham, e1, e2⟩ := row_n I hr (lo := 2) hm (by decide)
            rw [e1, e2]
            have h24 := I.n24 hf
            obtain ⟨-, -, -, pn, pi, ⟨f1, f2, f3, f4, f5, f6⟩, s, us⟩ := id I
            have esm : sm_a (pq_ S (cl_ x) (cl_ y) (nI a9) (nI m9)) (cl_ y) a9 m9 = sm_a S (cl_ y) a9 m9 := pq_sm S _ _ _ _ _ _ _
            dsimp only
            rw [esm]
            have TQ : ∀ t, ¬ t = 48 ∧ ¬ t = 44 → hp_te S.1 (pq_ S (cl_ x) (cl_ y) (nI a9) (nI m9)).1 t := fun t q => ((((hp_te.n q.1).tr (hp_te.r q.1)).tr (hp_te.i q.1)).tr (hp_te.i q.1)).tr (hp_te.r q.2)
            have TS : ∀ t, ¬ t = 62 ∧ ¬ t = 40 → hp_te (pq_ S (cl_ x) (cl_ y) (nI a9) (nI m9)).1 (sg_ (su_ (pq_ S (cl_ x) (cl_ y) (nI a9) (nI m9)) (cl_ y) a9 m9) (64 * nI m9) (sm_a S (cl_ y) a9 m9 - 64 * nI m9)).1 t := fun t q => ((su_te _ _ _ q.1 m9).tr (hp_te.i q.2)).tr (hp_te.i q.2)
            have T : ∀ t, ¬ t = 62 ∧ ¬ t = 40 ∧ ¬ t = 48 ∧ ¬ t = 44 → hp_te S.1 (sg_ (su_ (pq_ S (cl_ x) (cl_ y) (nI a9) (nI m9)) (cl_ y) a9 m9) (64 * nI m9) (sm_a S (cl_ y) a9 m9 - 64 * nI m9)).1 t := fun t q => (TQ t q.2.2).tr (TS t ⟨q.1, q.2.1⟩)
            have E62 : hp_te (su_ (pq_ S (cl_ x) (cl_ y) (nI a9) (nI m9)) (cl_ y) a9 m9).1 (sg_ (su_ (pq_ S (cl_ x) (cl_ y) (nI a9) (nI m9)) (cl_ y) a9 m9) (64 * nI m9) (sm_a S (cl_ y) a9 m9 - 64 * nI m9)).1 62 := (hp_te.i (by decide)).tr (hp_te.i (by decide))
            have C : (sg_ (su_ (pq_ S (cl_ x) (cl_ y) (nI a9) (nI m9)) (cl_ y) a9 m9) (64 * nI m9) (sm_a S (cl_ y) a9 m9 - 64 * nI m9)).2 = S.2 := su_2 _ _ _ _
            have V62 : ∀ g l, hp_vi (sg_ (su_ (pq_ S (cl_ x) (cl_ y) (nI a9) (nI m9)) (cl_ y) a9 m9) (64 * nI m9) (sm_a S (cl_ y) a9 m9 - 64 * nI m9)).1 62 g l = if g = cl_ y ∧ a9 ≤ l ∧ l < a9 + m9 then 1 else hp_vi S.1 62 g l := fun g l => by
              rw [E62.2.2.1, su_v, (TQ 62 (by decide)).2.2.1]
            have A62 : hp_al (sg_ (su_ (pq_ S (cl_ x) (cl_ y) (nI a9) (nI m9)) (cl_ y) a9 m9) (64 * nI m9) (sm_a S (cl_ y) a9 m9 - 64 * nI m9)).1 62 = hp_al S.1 62 ∧ hp_ln (sg_ (su_ (pq_ S (cl_ x) (cl_ y) (nI a9) (nI m9)) (cl_ y) a9 m9) (64 * nI m9) (sm_a S (cl_ y) a9 m9 - 64 * nI m9)).1 62 = hp_ln S.1 62 ∧ hp_vr (sg_ (su_ (pq_ S (cl_ x) (cl_ y) (nI a9) (nI m9)) (cl_ y) a9 m9) (64 * nI m9) (sm_a S (cl_ y) a9 m9 - 64 * nI m9)).1 62 = hp_vr S.1 62 := by
              rw [E62.1, E62.2.1, E62.2.2.2.1, (sx_al _ _ _ m9).1, (sx_al _ _ _ m9).2.1, (sx_al _ _ _ m9).2.2]
              exact ⟨(TQ 62 (by decide)).1, (TQ 62 (by decide)).2.1, (TQ 62 (by decide)).2.2.2.1⟩
            have W40 : ∀ k, hp_vi (su_ (pq_ S (cl_ x) (cl_ y) (nI a9) (nI m9)) (cl_ y) a9 m9).1 40 0 k = hp_vi S.1 40 0 k := fun k => by rw [((TQ 40 (by decide)).tr (su_te _ _ _ (by decide) m9)).2.2.1]
            have V9 : hp_vi (sg_ (su_ (pq_ S (cl_ x) (cl_ y) (nI a9) (nI m9)) (cl_ y) a9 m9) (64 * nI m9) (sm_a S (cl_ y) a9 m9 - 64 * nI m9)).1 40 0 9 = hp_vi S.1 40 0 9 + 64 * nI m9 := (hp_seti_ne (by simp)).trans (hp_seti_at.trans (by rw [W40]))
            have V10 : hp_vi (sg_ (su_ (pq_ S (cl_ x) (cl_ y) (nI a9) (nI m9)) (cl_ y) a9 m9) (64 * nI m9) (sm_a S (cl_ y) a9 m9 - 64 * nI m9)).1 40 0 10 = hp_vi S.1 40 0 10 + (sm_a S (cl_ y) a9 m9 - 64 * nI m9) := hp_seti_at.trans (by rw [W40])
            have VK : ∀ k, ¬ k = 9 → ¬ k = 10 → hp_vi (sg_ (su_ (pq_ S (cl_ x) (cl_ y) (nI a9) (nI m9)) (cl_ y) a9 m9) (64 * nI m9) (sm_a S (cl_ y) a9 m9 - 64 * nI m9)).1 40 0 k = hp_vi S.1 40 0 k := fun k q1 q2 => (hp_seti_ne (fun z => q2 z.2.2)).trans ((hp_seti_ne (fun z => q1 z.2.2)).trans (W40 k))
            have T44 := TS 44 (by decide)
            have T48 := TS 48 (by decide)
            have R44 : ∀ i k, hp_vr (pq_ S (cl_ x) (cl_ y) (nI a9) (nI m9)).1 44 i k = if i = cl_ x ∧ k = 1 then (48, cl_ x) else hp_vr S.1 44 i k := fun i k => by unfold pq_; simp [vr_i, vr_r, vr_n]
            have A44 : hp_al (pq_ S (cl_ x) (cl_ y) (nI a9) (nI m9)).1 44 = hp_al S.1 44 := by funext i; unfold pq_; simp [al_n, al_i, al_r]
            have X48 : ∀ i, ¬ i = cl_ x → hp_tx S.1 (pq_ S (cl_ x) (cl_ y) (nI a9) (nI m9)).1 48 i := fun i hi => ((((hp_tx.n (fun z => hi z.2)).tr (hp_tx.r (fun z => hi z.2))).tr (hp_tx.i (fun z => hi z.2))).tr (hp_tx.i (fun z => hi z.2))).tr (hp_tx.r (by omega))
            have P48 : hp_al (pq_ S (cl_ x) (cl_ y) (nI a9) (nI m9)).1 48 (cl_ x) = true ∧ hp_vr (pq_ S (cl_ x) (cl_ y) (nI a9) (nI m9)).1 48 (cl_ x) 0 = (42, cl_ y) ∧ hp_vi (pq_ S (cl_ x) (cl_ y) (nI a9) (nI m9)).1 48 (cl_ x) 1 = nI a9 ∧ hp_vi (pq_ S (cl_ x) (cl_ y) (nI a9) (nI m9)).1 48 (cl_ x) 2 = nI m9 := by unfold pq_; simp [al_n, al_i, al_r, vr_i, vr_r, vr_n, vi_i, vi_r, vi_n]
            generalize hS : sg_ (su_ (pq_ S (cl_ x) (cl_ y) (nI a9) (nI m9)) (cl_ y) a9 m9) (64 * nI m9) (sm_a S (cl_ y) a9 m9 - 64 * nI m9) = S' at *
            have CC : ∀ j, nn_ S' j = nn_ S j := fun j => by unfold nn_; rw [C]
            have LN : ∀ g, g < nn_ S 1 → hp_ln S'.1 62 g = hp_ln S.1 62 g := fun g _ => by rw [A62.2.1]
            have LE : nn_ S 1 ≤ nn_ S' 1 := by rw [CC]; exact Nat.le_refl _
            refine ⟨?_, J.te (T 45 (by decide)).2.1 (CC 5) (by rw [C])⟩
            refine I.lay (f := cl_ y) (a := a9) (m := m9) (fun t ht => T t (by omega)) (fun j _ _ => CC j) A62.1 A62.2.2 A62.2.1 V62 hf ham (fun k hk => by have h9 := (hcv k (by rw [e2]; exact hk)).1; rw [e1] at h9; exact h9) ?_ (by rw [CC, CC]; exact I.1.2.2.2.2.2) (fun p hp => ?_) (fun p hp => ?_) (fun i hi => ?_) (fun i hi => ?_) (fun i hi => ?_) (fun k hk => ?_) ?_ (fun g l => ?_)
            · rw [CC, s_la_te (S := S) (S' := S') _ (fun i _ => by rw [(T 43 (by decide)).2.2.2.1])]; exact I.1.2.2.2.2.1
            · exact (pn p hp).gr ((T 43 (by decide)).x p) ((T 46 (by decide)).x p) ((T 47 (by decide)).x p) LN LE (CC _) (by omega)
            · obtain ⟨b1, b2, t2, t3, t4⟩ := pi p hp
              by_cases e : p = cl_ x
              · subst e
                unfold i_pi s_pa
                rw [T44.1, A44, T44.2.2.2.1, R44, R44, R44, if_neg (by omega : ¬ (cl_ x = cl_ x ∧ 0 = 1)), if_neg (by omega : ¬ (cl_ x = cl_ x ∧ 2 = 1)), if_pos ⟨rfl, rfl⟩, (T 63 (by decide)).1, (T 63 (by decide)).2.1, (T 63 (by decide)).2.2.1, (T 64 (by decide)).1, (T 64 (by decide)).2.1, (T 64 (by decide)).2.2.1, CC, CC]
                refine ⟨b1, Or.inr ⟨rfl, ⟨by rw [T48.1]; exact P48.1, by rw [T48.2.2.2.1, P48.2.1], by rw [T48.2.2.2.1, P48.2.1, CC]; exact hf, a9, m9, by rw [T48.2.2.1]; exact P48.2.2.1, by rw [T48.2.2.1]; exact P48.2.2.2, m1, m8, ?_⟩⟩, t2, t3, t4⟩
                rw [T48.2.2.2.1, P48.2.1]
                show a9 + m9 ≤ hp_ln S'.1 62 (cl_ y)
                rw [A62.2.1]
                exact ham
              · have x44 : hp_tx S.1 S'.1 44 p := ⟨by rw [T44.1, A44], by rw [T44.2.1]; unfold pq_; simp [ln_n, ln_i, ln_r], by rw [T44.2.2.1]; unfold pq_; funext k; simp [vi_n, vi_i, vi_r], by rw [T44.2.2.2.1]; funext k; rw [R44, if_neg (fun z => e z.1)]⟩
                exact (pi p hp).gr x44 ((X48 p e).tr (T48.x p)) ((T 63 (by decide)).x p) ((T 64 (by decide)).x p) LN LE (CC _) (CC _)
            · rw [(T 43 (by decide)).1, (T 46 (by decide)).1, (T 47 (by decide)).1]; exact f3 i hi
            · rw [T44.1, A44, T48.1, (X48 i (by omega)).1, (T 63 (by decide)).1, (T 64 (by decide)).1]; exact f4 i hi
            · rw [CC] at hi; rw [(T 45 (by decide)).1]; exact f5 i hi
            · rw [CC] at hk; rw [CC, C, (T 45 (by decide)).1]; exact f6 k hk
            · rw [CC, VK 7 (by decide) (by decide), VK 8 (by decide) (by decide), VK 6 (by decide) (by decide), V9, V10, s_oa_te (S := S) (S' := S') _ (fun k _ => ⟨by rw [C], by rw [(T 45 (by decide)).2.2.1]⟩)]
              exact i3_sw _ _ _ _ _ _ _ _
            · rw [s_u1_te (S := S) (S' := S') _ (fun p _ => ⟨by rw [(T 43 (by decide)).2.2.2.1], (T 46 (by decide)).x p, (T 47 (by decide)).x p⟩), s_u2_up (S := S) (S' := S') (p := cl_ x) (f := cl_ y) (a := a9) (m := m9) (fun i => by rw [T44.2.2.2.1, R44]; by_cases e : i = cl_ x <;> simp [e]) h0 (fun i hi => (X48 i hi).tr (T48.x i)) (by rw [T48.2.2.2.1]; exact P48.2.1) (by rw [T48.2.2.1]; exact P48.2.2.1) (by rw [T48.2.2.1]; exact P48.2.2.2) (by omega) (by omega), if_pos hc.1]
              omega
          · exact K
        · exact K
      · exact K
    · exact K
  · exact K
end VVJ7
