section VVJ2
variable {S : SP} {N : Nat}
theorem mn_nI {a b : Nat} (ha : a < 2 ^ 31) (hb : b < 2 ^ 31) : mn (nI a) (nI b) = nI (min a b) := by
  rcases Nat.lt_or_ge b a with w | w
  · rw [Nat.min_eq_right (by omega)]; exact if_pos (nI_lt w ha)
  · rw [Nat.min_eq_left w]
    rcases Nat.eq_or_lt_of_le w with e | e
    · subst e; exact if_neg (nI_nlt (Nat.le_refl _) ha)
    · exact if_neg (nI_nlt (by omega) hb)
theorem mx0_ {a b : Nat} (ha : a < 2 ^ 30) (hb : b < 2 ^ 30) : mx 0 (nI a - nI b) = nI (a - b) := mx_sub ha hb
theorem iv_slit {x : Int32} (I : Iv S N) : Iv (op_slit S x).2.2 (N + 1) := by
  unfold op_slit
  split
  · rename_i hx
    split
    · exact I.m (by omega)
    · rename_i h8
      have hc := hx.cl (by have := I.cs; omega)
      obtain ⟨-, -, -, -, -, -, -, t6, ⟨w, t8, hw⟩, t9, t10, ⟨w2, t12, hw2⟩, t0⟩ := I.2.2.2.1 _ hc.1
      refine I.pn (x := cl_ x) (by omega) (fun t ht => hp_te.i ht) rfl rfl (fun p hp => hp_tx.i (fun z => hp z.2)) (fun k hk => hp_seti_ne (fun z => by omega)) (fun _ => ?_)
      have NE : ∀ v k, ¬ k = 8 → hp_vi (hp_seti S.1 43 (cl_ x) 8 v) 43 (cl_ x) k = hp_vi S.1 43 (cl_ x) k := fun v k hk => hp_seti_ne (fun z => hk z.2.2)
      rw [NE _ 6 (by decide), NE _ 9 (by decide), NE _ 10 (by decide), NE _ 12 (by decide), hp_seti_at]
      obtain ⟨w', rfl⟩ : ∃ w', w = w' + 1 := ⟨w - 1, by
        rcases Nat.eq_zero_or_pos w with e | e
        · subst e; exact absurd t8 h8
        · omega⟩
      refine ⟨Or.inr (t6.resolve_left (fun q => h8 q.2)), ⟨w', ?_, by omega⟩, t9, t10, ⟨w2, t12, by omega⟩, t0⟩
      rw [t8]
      exact nI_pred w'
  · exact I.m (by omega)
theorem iv_air {x : Int32} (I : Iv S N) : Iv (op_air S x).2.2 (N + 1) := by
  unfold op_air
  split
  · have T : ∀ t, ¬ t = 40 → hp_te S.1 (hp_seti S.1 40 0 11 x) t := fun t ht => hp_te.i ht
    exact I.up (S' := (hp_seti S.1 40 0 11 x, S.2)) (fun t ht => T t ht.1) rfl rfl rfl rfl (fun _ _ => rfl) rfl (fun k _ hk => hp_seti_ne (fun z => by omega)) (fun p hp => (I.2.2.2.1 p hp).te ((T 43 (by decide)).x p) ((T 46 (by decide)).x p) ((T 47 (by decide)).x p) rfl rfl rfl (by omega)) (fun p hp => (I.2.2.2.2.1 p hp).te ((T 44 (by decide)).x p) ((T 48 (by decide)).x p) ((T 63 (by decide)).x p) ((T 64 (by decide)).x p) rfl rfl rfl rfl)
  · exact I.m (by omega)
theorem iv_scrape {x a : Int32} (I : Iv S N) : Iv (op_scrape S x a).2.2 (N + 1) := by
  unfold op_scrape
  split
  · rename_i hx
    split
    · rename_i ha
      split
      · exact I.m (by omega)
      · rename_i h6
        split
        · exact I.m (by omega)
        · rename_i hl
          have hc := hx.cl (by have := I.cs; omega)
          obtain ⟨-, -, -, -, -, -, -, t6, t8, ⟨w, t9, hw⟩, t10, ⟨w2, t12, hw2⟩, t0⟩ := I.2.2.2.1 _ hc.1
          have t7 := t6.resolve_left (fun q => h6 q.1)
          obtain ⟨a9, h1, h2, rfl⟩ := a_nat (lo := 1) (hi := 99) ha (by decide) (by decide)
          refine I.pn (x := cl_ x) (by omega) (fun t ht => hp_te.i ht) rfl rfl (fun p hp => hp_tx.i (fun z => hp z.2)) (fun k hk => hp_seti_ne (fun z => by omega)) (fun _ => ?_)
          have NE : ∀ v k, ¬ k = 9 → hp_vi (hp_seti S.1 43 (cl_ x) 9 v) 43 (cl_ x) k = hp_vi S.1 43 (cl_ x) k := fun v k hk => hp_seti_ne (fun z => hk z.2.2)
          rw [NE _ 6 (by decide), NE _ 8 (by decide), NE _ 10 (by decide), NE _ 12 (by decide), hp_seti_at]
          refine ⟨t6, t8, ⟨w + a9, by rw [t9, nI_add], ?_⟩, t10, ⟨w2, t12, by omega⟩, fun q => absurd q t7.2⟩
          obtain ⟨-, -, hf, -⟩ := (I.fa hc.1 t7.2).2
          obtain ⟨-, -, ⟨t, et, t1, t2⟩, -⟩ := I.2.2.1 _ hf
          have hl2 : ¬ s_lf S (cl_ x) ≤ 10 := fun q => hl ⟨t7.2, q⟩
          have e9 : s_lf S (cl_ x) = nI (10 * t - w) := by
            unfold s_lf
            rw [if_neg t7.2, et, t9, show (10 : Int32) * nI t = nI (10 * t) from pk_mul 10 t]
            exact mx0_ (by omega) (by omega)
          rw [e9] at hl2
          have h3 : 10 < 10 * t - w := Nat.lt_of_not_le (fun q => hl2 (nI_le (b := 10) q (by decide)))
          omega
    · exact I.m (by omega)
  · exact I.m (by omega)
theorem iv_pad {x a : Int32} (I : Iv S N) (hN : N ≤ 600) : Iv (op_pad S x a).2.2 (N + 1) := by
  unfold op_pad
  split
  · rename_i hx
    split
    · rename_i ha
      split
      · exact I.m (by omega)
      · rename_i h6
        have hc := hx.cl (by have := I.cs; omega)
        obtain ⟨-, -, -, -, -, -, -, t6, t8, t9, ⟨w, t10, hw⟩, ⟨w2, t12, hw2⟩, t0⟩ := I.2.2.2.1 _ hc.1
        obtain ⟨a9, h1, h2, rfl⟩ := a_nat (lo := 1) (hi := 9) ha (by decide) (by decide)
        have es : s_sh S (cl_ x) (nI a9) = nI (min a9 (3 - w2)) := by
          unfold s_sh
          rw [t12, show mx 0 (3 - nI w2) = nI (3 - w2) from mx0_ (a := 3) (by decide) (by omega)]
          exact mn_nI (by omega) (by omega)
        have e10 : mn 99 (hp_vi S.1 43 (cl_ x) 10 + 2 * s_sh S (cl_ x) (nI a9)) = nI (min 99 (w + 2 * min a9 (3 - w2))) := by
          rw [es, t10, show (2 : Int32) * nI (min a9 (3 - w2)) = nI (2 * min a9 (3 - w2)) from pk_mul 2 _, nI_add]
          exact mn_nI (a := 99) (by decide) (by omega)
        refine I.pn (x := cl_ x) (by omega) (fun t ht => ((hp_te.i ht).tr (hp_te.i ht)).tr (hp_te.i ht)) rfl rfl (fun p hp => ((hp_tx.i (fun z => hp z.2)).tr (hp_tx.i (fun z => hp z.2))).tr (hp_tx.i (fun z => hp z.2))) (fun k hk => (hp_seti_ne (fun z => by omega)).trans ((hp_seti_ne (fun z => by omega)).trans (hp_seti_ne (fun z => by omega)))) (fun _ => ?_)
        have NE : ∀ v v2 v3 k, ¬ k = 10 ∧ ¬ k = 11 ∧ ¬ k = 12 → hp_vi (hp_seti (hp_seti (hp_seti S.1 43 (cl_ x) 10 v) 43 (cl_ x) 11 v2) 43 (cl_ x) 12 v3) 43 (cl_ x) k = hp_vi S.1 43 (cl_ x) k := fun v v2 v3 k hk => (hp_seti_ne (fun z => hk.2.2 z.2.2)).trans ((hp_seti_ne (fun z => hk.2.1 z.2.2)).trans (hp_seti_ne (fun z => hk.1 z.2.2)))
        rw [NE _ _ _ 6 (by decide), NE _ _ _ 8 (by decide), NE _ _ _ 9 (by decide)]
        refine ⟨t6, t8, t9, ⟨min 99 (w + 2 * min a9 (3 - w2)), ?_, by omega⟩, ⟨w2 + a9, ?_, by omega⟩, t0⟩
        · exact (hp_seti_ne (by simp)).trans ((hp_seti_ne (by simp)).trans (hp_seti_at.trans e10))
        · rw [hp_seti_at, t12, nI_add]
    · exact I.m (by omega)
  · exact I.m (by omega)
theorem iv_press {x w mi wa : Int32} (I : Iv S N) : Iv (op_press S x w mi wa).2.2 (N + 1) := by
  unfold op_press
  split
  · rename_i hx
    split
    · split
      · exact I.m (by omega)
      · rename_i hf
        split
        · rename_i h6
          have hc := hx.cl (by have := I.cs; omega)
          obtain ⟨-, -, -, -, -, -, -, t6, t8, t9, t10, ⟨w2, t12, hw2⟩, t0⟩ := I.2.2.2.1 _ hc.1
          obtain ⟨-, -, -, a, m, -, em, -, hm, -⟩ := (I.fa hc.1 hf).2
          have eb : ∃ k : Nat, s_bl S (cl_ x) w mi wa = nI k ∧ k ≤ 24 := by
            unfold s_bl
            rw [em]
            dsimp only
            have e2 : (0 : Int32) + 2 * nI m = nI (2 * m) := by rw [Int32.zero_add]; exact pk_mul 2 m
            rw [e2]
            split <;> split
            · exact ⟨0, rfl, by omega⟩
            · exact ⟨2 * m, rfl, by omega⟩
            · exact ⟨0 + m, nI_add 0 m, by omega⟩
            · exact ⟨2 * m + m, nI_add _ _, by omega⟩
          refine I.pn (x := cl_ x) (by omega) (fun t ht => ((hp_te.i ht).tr (hp_te.i ht)).tr (hp_te.i ht)) rfl rfl (fun p hp => ((hp_tx.i (fun z => hp z.2)).tr (hp_tx.i (fun z => hp z.2))).tr (hp_tx.i (fun z => hp z.2))) (fun k hk => (hp_seti_ne (fun z => by omega)).trans ((hp_seti_ne (fun z => by omega)).trans (hp_seti_ne (fun z => by omega)))) (fun _ => ?_)
          have NE : ∀ v v2 v3 k, ¬ k = 6 ∧ ¬ k = 7 ∧ ¬ k = 8 → hp_vi (hp_seti (hp_seti (hp_seti S.1 43 (cl_ x) 6 v) 43 (cl_ x) 7 v2) 43 (cl_ x) 8 v3) 43 (cl_ x) k = hp_vi S.1 43 (cl_ x) k := fun v v2 v3 k hk => (hp_seti_ne (fun z => hk.2.2 z.2.2)).trans ((hp_seti_ne (fun z => hk.2.1 z.2.2)).trans (hp_seti_ne (fun z => hk.1 z.2.2)))
          rw [NE _ _ _ 9 (by decide), NE _ _ _ 10 (by decide), NE _ _ _ 12 (by decide), hp_seti_at]
          exact ⟨Or.inr ⟨(hp_seti_ne (by simp)).trans ((hp_seti_ne (by simp)).trans hp_seti_at), hf⟩, eb, t9, t10, ⟨w2, t12, by omega⟩, t0⟩
        · exact I.m (by omega)
    · exact I.m (by omega)
  · exact I.m (by omega)
theorem iv_rs (I : Iv S N) : ∀ k, Iv (rs_ S k) N
  | 0 => I
  | k + 1 => by
    have J := iv_rs I k
    have e2 := rs_2 S k
    have X : Iv (hp_seti (rs_ S k).1 43 k 12 0, (rs_ S k).2) N := by
      refine J.pn (x := k) (Nat.le_refl _) (fun t ht => hp_te.i ht) rfl rfl (fun p hp => hp_tx.i (fun z => hp z.2)) (fun j hj => hp_seti_ne (fun z => by omega)) (fun hk => ?_)
      obtain ⟨-, -, -, -, -, -, -, t6, t8, t9, t10, -, t0⟩ := J.2.2.2.1 k hk
      have NE : ∀ v j, ¬ j = 12 → hp_vi (hp_seti (rs_ S k).1 43 k 12 v) 43 k j = hp_vi (rs_ S k).1 43 k j := fun v j hj => hp_seti_ne (fun z => hj z.2.2)
      rw [NE _ 6 (by decide), NE _ 8 (by decide), NE _ 9 (by decide), NE _ 10 (by decide), hp_seti_at]
      exact ⟨t6, t8, t9, t10, ⟨0, rfl, by omega⟩, t0⟩
    rw [e2] at X
    exact X
theorem iv_rest (I : Iv S N) : Iv (op_rest S).2 (N + 1) := (iv_rs I _).m (by omega)
theorem iv_draw {x a b m c : Int32} {pp ii : Nat} (I : Iv S N) (hpc : pc_ (pt_ (hp_vi S.1 63 (cl_ x)) (cl_ (a * 8 + b)) (cl_ m) (c - 97)) pp ii) : Iv (op_draw S x a b m c pp ii).2.2 (N + 1) := by
  unfold op_draw
  split
  · rename_i hx
    split
    · rename_i hh
      split
      · have hc := hx.cl (by have := I.cs; omega)
        obtain ⟨-, -, t2, t3, t4⟩ := I.2.2.2.2.1 _ hc.1
        have D := dp_al S.1 (cl_ x) (cl_ (a * 8 + b)) (c - 97) (cl_ m)
        have T := fun t (ht : ¬ t = 63) => dp_te S.1 (cl_ x) (cl_ (a * 8 + b)) (c - 97) ht (cl_ m)
        refine I.pi (x := cl_ x) hc.1 (by omega) (fun t h1 _ => T t h1) ⟨congrFun D.1 63, congrFun D.2.1 63⟩ ⟨congrFun D.1 64, congrFun D.2.1 64⟩ (fun p hp => ⟨dp_tx _ _ _ _ hp _, dp_tx _ _ _ _ hp _⟩) (fun j j1 j2 => (c_ne j2).trans (c_ne j1)) ⟨fun k hk => ?_, ?_, ?_⟩
        · rw [dp_vi]
          unfold pt_
          split
          · obtain ⟨w, hw, ew⟩ := i8_ hh.2.2
            exact ⟨w, ew, hw⟩
          · exact t2 k hk
        · rw [(T 64 (by decide)).2.2.1]; exact t3
        · rw [c_at, show c_up (c_up S.2.1 (20 + cl_ x) pp) (30 + cl_ x) ii (20 + cl_ x) = pp from (c_ne (by omega)).trans c_at]
          exact hpc.cg (fun z _ => (dp_vi S.1 _ _ _ _ z).symm)
      · exact I.m (by omega)
    · exact I.m (by omega)
  · exact I.m (by omega)
theorem iv_sand {x fd dg sc : Int32} (I : Iv S N) : Iv (op_sand S x fd dg sc).2.2 (N + 1) := by
  unfold op_sand
  split
  · rename_i hx
    split
    · rename_i hh
      split
      · exact I.m (by omega)
      · have hc := hx.cl (by have := I.cs; omega)
        obtain ⟨-, -, t2, t3, t4⟩ := I.2.2.2.2.1 _ hc.1
        refine I.pi (A := hp_seti S.1 64 (cl_ x) (cl_ (fd - 97)) _) (c := S.2.1) (x := cl_ x) hc.1 (by omega) (fun t _ h2 => hp_te.i h2) ⟨rfl, rfl⟩ ⟨rfl, rfl⟩ (fun p hp => ⟨hp_tx.i (fun z => hp z.2), hp_tx.i (fun z => hp z.2)⟩) (fun j _ _ => rfl) ⟨?_, fun k hk => ?_, ?_⟩
        · rw [show hp_vi (hp_seti S.1 64 (cl_ x) (cl_ (fd - 97)) (mn 99 (hp_vi S.1 64 (cl_ x) (cl_ (fd - 97)) + (dg - 100) * sc / 50))) 63 = hp_vi S.1 63 from (hp_te.i (by decide)).2.2.1]; exact t2
        · by_cases e : k = cl_ (fd - 97)
          · subst e
            rw [hp_seti_at]
            obtain ⟨w, ew, hw⟩ := t3 _ (i8n hh.1).2.2
            obtain ⟨d, d1, d2, ed⟩ := a_nat (lo := 100) (hi := 300) hh.2.1 (by decide) (by decide)
            obtain ⟨s, s1, s2, es⟩ := a_nat (lo := 1) (hi := 60) hh.2.2 (by decide) (by decide)
            have hm : (d - 100) * s ≤ 200 * 60 := Nat.mul_le_mul (by omega) s2
            refine ⟨min 99 (w + (d - 100) * s / 50), ?_, by omega⟩
            rw [ew, ed, es, show nI d - 100 = nI (d - 100) from pk_sub (a := d) (b := 100) d1, pk_mul, show nI ((d - 100) * s) / 50 = nI ((d - 100) * s / 50) from pk_div (d := 50) (by omega) (by decide) (by decide), nI_add]
            exact mn_nI (a := 99) (by decide) (by omega)
          · rw [hp_seti_ne (fun z => e z.2.2)]; exact t3 k hk
        · rw [show hp_vi (hp_seti S.1 64 (cl_ x) (cl_ (fd - 97)) (mn 99 (hp_vi S.1 64 (cl_ x) (cl_ (fd - 97)) + (dg - 100) * sc / 50))) 63 = hp_vi S.1 63 from (hp_te.i (by decide)).2.2.1]; exact t4
    · exact I.m (by omega)
  · exact I.m (by omega)
end VVJ2
