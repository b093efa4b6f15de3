section VVJ3
variable {S S' : SP} {N N' : Nat}
theorem i_pk.gr {u p lo : Nat} (I : i_pk S u p lo) (e : hp_tx S.1 S'.1 u p) (e62 : ∀ f, f < nn_ S 1 → hp_ln S'.1 62 f = hp_ln S.1 62 f) (c : nn_ S 1 ≤ nn_ S' 1) : i_pk S' u p lo := by
  obtain ⟨a1, a2, a3, a, m, a4, a5, a6, a7, a8⟩ := I
  refine ⟨by rw [e.1]; exact a1, by rw [e.2.2.2]; exact a2, by rw [e.2.2.2]; omega, a, m, by rw [e.2.2.1]; exact a4, by rw [e.2.2.1]; exact a5, a6, a7, ?_⟩
  show a + m ≤ hp_ln S'.1 62 _
  rw [e.2.2.2, e62 _ a3]
  exact a8
theorem i_pn.gr {p : Nat} (I : i_pn S N p) (e : hp_tx S.1 S'.1 43 p) (e46 : hp_tx S.1 S'.1 46 p) (e47 : hp_tx S.1 S'.1 47 p) (e62 : ∀ f, f < nn_ S 1 → hp_ln S'.1 62 f = hp_ln S.1 62 f) (c1 : nn_ S 1 ≤ nn_ S' 1) (c10 : nn_ S' (10 + p) = nn_ S (10 + p)) (hN : N ≤ N') : i_pn S' N' p := by
  obtain ⟨b1, b2, b3, b4, b5, b6, b7, t6, t8, t9, t10, ⟨w, t12, hw⟩, t0⟩ := id I
  unfold i_pn s_fa s_ba at *
  rw [e.1, e.2.2.1, e.2.2.2, e46.1, e47.1, c10]
  exact ⟨b1, b2.imp id (fun q => ⟨q.1, q.2.gr e46 e62 c1⟩), b3.imp id (fun q => ⟨q.1, q.2.gr e47 e62 c1⟩), b4, b5, b6, b7, t6, t8, t9, t10, ⟨w, t12, by omega⟩, t0⟩
theorem i_pi.gr {p : Nat} (I : i_pi S p) (e44 : hp_tx S.1 S'.1 44 p) (e48 : hp_tx S.1 S'.1 48 p) (e63 : hp_tx S.1 S'.1 63 p) (e64 : hp_tx S.1 S'.1 64 p) (e62 : ∀ f, f < nn_ S 1 → hp_ln S'.1 62 f = hp_ln S.1 62 f) (c1 : nn_ S 1 ≤ nn_ S' 1) (c2 : nn_ S' (20 + p) = nn_ S (20 + p)) (c3 : nn_ S' (30 + p) = nn_ S (30 + p)) : i_pi S' p := by
  obtain ⟨b1, b2, t2, t3, t4⟩ := I
  unfold i_pi s_pa at *
  rw [e44.1, e44.2.2.2, e63.1, e63.2.1, e63.2.2.1, e64.1, e64.2.1, e64.2.2.1, e48.1, c2, c3]
  exact ⟨b1, b2.imp id (fun q => ⟨q.1, q.2.gr e48 e62 c1⟩), t2, t3, t4⟩
theorem i_fl.gr {f : Nat} (I : i_fl S f) (e : hp_tx S.1 S'.1 42 f) (e2 : hp_tx S.1 S'.1 62 f) (c : nn_ S 0 ≤ nn_ S' 0) : i_fl S' f := by
  obtain ⟨⟨a1, a2, a3, a4, a5⟩, b⟩ := I
  unfold i_fl s_lg s_n at *
  rw [e.1, e.2.2.1, e.2.2.2, e2.1, e2.2.1, e2.2.2.1]
  exact ⟨⟨a1, a2, a3, by omega, a5⟩, b⟩
theorem iv_log {wood dia len form : Int32} (I : Iv S N) : Iv (op_log S wood dia len form).2.2 (N + 1) := by
  unfold op_log
  split
  · rename_i hh
    split
    · exact I.m (by omega)
    · rename_i h8
      obtain ⟨⟨hw, hf⟩, hd, hl⟩ := hh
      show Iv (nw_log S (ixf_ wood tx_w 0) dia len form) (N + 1)
      obtain ⟨⟨c0, c1, c2, c3, c4, c5⟩, lg, fl, pn, pi, ⟨f1, f2, f3, f4, f5, f6⟩, s, u⟩ := id I
      have T := fun t (ht : ¬ t = 41) => nw_log_te S (ixf_ wood tx_w 0) dia len form ht
      have X := fun i (hi : ¬ i = nn_ S 0) => nw_log_tx S (ixf_ wood tx_w 0) dia len form hi
      have C : ∀ j, ¬ j = 0 → nn_ (nw_log S (ixf_ wood tx_w 0) dia len form) j = nn_ S j := fun j hj => c_ne hj
      have C0 : nn_ (nw_log S (ixf_ wood tx_w 0) dia len form) 0 = nn_ S 0 + 1 := c_at (c := S.2.1) (k := 0) (v := nn_ S 0 + 1)
      have V : ∀ k, hp_vi (nw_log S (ixf_ wood tx_w 0) dia len form).1 41 (nn_ S 0) k = if k = 3 then form else if k = 2 then len else if k = 1 then dia else if k = 0 then ixf_ wood tx_w 0 else 0 := fun k => by
        unfold nw_log; simp [vi_i, vi_n]
      have hs : ∀ f, f < nn_ S 1 → ∀ l, s_a (nw_log S (ixf_ wood tx_w 0) dia len form) f (nI l) = s_a S f (nI l) := fun f hf l => s_a_tx ((T 42 (by decide)).x f) (fun k _ => by rw [(X _ (by have := (fl f hf).1.2.2.2.1; omega)).2.2.1])
      generalize hS : nw_log S (ixf_ wood tx_w 0) dia len form = S2 at *
      refine ⟨⟨?_, ?_, ?_, ?_, ?_, ?_⟩, fun i hi => ?_, fun f hf9 => ?_, fun p hp => ?_, fun p hp => ?_, ⟨fun i hi => ?_, ?_, ?_, ?_, ?_, ?_⟩, ?_, fun f l hf9 hl9 => ?_⟩
      · rw [C0]; omega
      · rw [C 1 (by decide), C0]
        show _ = s_sl S2 (nn_ S 0) + (if hp_vi S2.1 41 (nn_ S 0) 4 = 0 then 0 else 1)
        rw [V, s_sl_te (S := S) (S' := S2) _ (fun i hi => by rw [(X i (by omega)).2.2.1])]
        exact c1
      · rw [C 2 (by decide)]; exact c2
      · rw [C 3 (by decide)]; exact c3
      · rw [C 4 (by decide), C 2 (by decide), s_la_te (S := S) (S' := S2) _ (fun i _ => by rw [(T 43 (by decide)).2.2.2.1])]; exact c4
      · rw [C 4 (by decide), C 5 (by decide)]; exact c5
      · rw [C0] at hi
        by_cases e : i = nn_ S 0
        · subst e
          unfold i_lg
          rw [V, V, V, V, V]
          refine ⟨?_, (ixf_w hw).2.1, ?_, ?_, ixf_f hf, Or.inl rfl⟩
          · rw [← hS]; unfold nw_log; simp [al_n, al_i]
          · obtain ⟨j, h1, h2, e⟩ := a_nat (lo := 100) (hi := 999) hd (by decide) (by decide)
            exact ⟨j, e, h1, by omega⟩
          · obtain ⟨j, h1, h2, e⟩ := a_nat (lo := 1) (hi := 40) hl (by decide) (by decide)
            exact ⟨j, e, h1, h2⟩
        · exact (lg i (by omega)).te (X i e)
      · rw [C 1 (by decide)] at hf9; exact (fl f hf9).gr ((T 42 (by decide)).x f) ((T 62 (by decide)).x f) (by rw [C0]; omega)
      · rw [C 2 (by decide)] at hp; exact (pn p hp).te ((T 43 (by decide)).x p) ((T 46 (by decide)).x p) ((T 47 (by decide)).x p) (T 62 (by decide)).2.1 (C 1 (by decide)) (C _ (by omega)) (by omega)
      · rw [C 3 (by decide)] at hp; exact (pi p hp).te ((T 44 (by decide)).x p) ((T 48 (by decide)).x p) ((T 63 (by decide)).x p) ((T 64 (by decide)).x p) (T 62 (by decide)).2.1 (C 1 (by decide)) (C _ (by omega)) (C _ (by omega))
      · rw [C0] at hi; rw [(X i (by omega)).1]; exact f1 i (by omega)
      · rw [C 1 (by decide), (T 42 (by decide)).1, (T 62 (by decide)).1]; exact f2
      · rw [C 2 (by decide), (T 43 (by decide)).1, (T 46 (by decide)).1, (T 47 (by decide)).1]; exact f3
      · rw [C 3 (by decide), (T 44 (by decide)).1, (T 48 (by decide)).1, (T 63 (by decide)).1, (T 64 (by decide)).1]; exact f4
      · rw [C 4 (by decide), (T 45 (by decide)).1]; exact f5
      · rw [C 5 (by decide), C 4 (by decide), (T 45 (by decide)).1, ← hS]; exact f6
      · unfold i_sm at *
        rw [C 1 (by decide), C 5 (by decide), (T 40 (by decide)).2.2.1, s_ut_te (S := S) (S' := S2) _ (fun f hf9 => ⟨by unfold s_n; rw [(T 62 (by decide)).2.1], fun l => ⟨hs f hf9 l, by rw [(T 62 (by decide)).2.2.1]⟩⟩), s_oa_te (S := S) (S' := S2) _ (fun k _ => ⟨by rw [← hS]; rfl, by rw [(T 45 (by decide)).2.2.1]⟩)]
        exact s
      · rw [C 1 (by decide)] at hf9
        have hl2 : l < s_n S f := by unfold s_n at *; rw [(T 62 (by decide)).2.1] at hl9; exact hl9
        rw [C 2 (by decide), C 3 (by decide), s_u1_te (S := S) (S' := S2) _ (fun p _ => ⟨by rw [(T 43 (by decide)).2.2.2.1], (T 46 (by decide)).x p, (T 47 (by decide)).x p⟩), s_u2_te (S := S) (S' := S2) _ (fun p _ => ⟨by rw [(T 44 (by decide)).2.2.2.1], (T 48 (by decide)).x p⟩), (T 62 (by decide)).2.2.1]
        exact u f l hf9 hl2
  · exact I.m (by omega)
theorem iv_panel {w d core t : Int32} (I : Iv S N) : Iv (op_panel S w d core t).2.2 (N + 1) := by
  unfold op_panel
  split
  · rename_i hh
    split
    · exact I.m (by omega)
    · rename_i h8
      obtain ⟨⟨hw, hd, ht9⟩, hcr⟩ := hh
      show Iv (nw_pan S w d (t * co_m core) (cl_ t)) (N + 1)
      obtain ⟨⟨c0, c1, c2, c3, c4, c5⟩, lg, fl, pn, pi, ⟨f1, f2, f3, f4, f5, f6⟩, s, u⟩ := id I
      have T := fun u (hu : ¬ u = 43) => nw_pan_te S w d (t * co_m core) (cl_ t) hu
      have X := fun i (hi : ¬ i = nn_ S 2) => nw_pan_tx S w d (t * co_m core) (cl_ t) hi
      have C : ∀ j, ¬ j = 2 → ¬ j = 10 + nn_ S 2 → nn_ (nw_pan S w d (t * co_m core) (cl_ t)) j = nn_ S j := fun j h1 h2 => (c_ne h2).trans (c_ne h1)
      have C2 : nn_ (nw_pan S w d (t * co_m core) (cl_ t)) 2 = nn_ S 2 + 1 := (c_ne (by omega)).trans c_at
      have C10 : nn_ (nw_pan S w d (t * co_m core) (cl_ t)) (10 + nn_ S 2) = cl_ t := c_at
      have V : ∀ k, hp_vi (nw_pan S w d (t * co_m core) (cl_ t)).1 43 (nn_ S 2) k = if k = 2 then t * co_m core else if k = 1 then d else if k = 0 then w else 0 := fun k => by
        unfold nw_pan; simp [vi_i, vi_n]
      have VR : ∀ k, hp_vr (nw_pan S w d (t * co_m core) (cl_ t)).1 43 (nn_ S 2) k = (0, 0) := fun k => by
        unfold nw_pan; simp [vr_i, vr_n]
      have hs : ∀ f, f < nn_ S 1 → ∀ l, s_a (nw_pan S w d (t * co_m core) (cl_ t)) f (nI l) = s_a S f (nI l) := fun f hf l => s_a_tx ((T 42 (by decide)).x f) (fun k _ => by rw [(T 41 (by decide)).2.2.1])
      generalize hS : nw_pan S w d (t * co_m core) (cl_ t) = S2 at *
      refine ⟨⟨?_, ?_, ?_, ?_, ?_, ?_⟩, fun i hi => ?_, fun f hf9 => ?_, fun p hp => ?_, fun p hp => ?_, ⟨?_, ?_, fun i hi => ?_, ?_, ?_, ?_⟩, ?_, fun f l hf9 hl9 => ?_⟩
      · rw [C 0 (by decide) (by omega)]; exact c0
      · rw [C 0 (by decide) (by omega), C 1 (by decide) (by omega), s_sl_te (S := S) (S' := S2) _ (fun i _ => by rw [(T 41 (by decide)).2.2.1])]; exact c1
      · rw [C2]; omega
      · rw [C 3 (by decide) (by omega)]; exact c3
      · rw [C 4 (by decide) (by omega), C2]
        show _ ≤ 8 * (s_la S2 (nn_ S 2) + (if (hp_vr S2.1 43 (nn_ S 2) 3).1 = 0 then 0 else 1) + (if (hp_vr S2.1 43 (nn_ S 2) 4).1 = 0 then 0 else 1))
        rw [VR, VR, s_la_te (S := S) (S' := S2) _ (fun i hi => by rw [(X i (by omega)).2.2.2])]
        exact c4
      · rw [C 4 (by decide) (by omega), C 5 (by decide) (by omega)]; exact c5
      · rw [C 0 (by decide) (by omega)] at hi; exact (lg i hi).te ((T 41 (by decide)).x i)
      · rw [C 1 (by decide) (by omega)] at hf9; exact (fl f hf9).te ((T 42 (by decide)).x f) ((T 62 (by decide)).x f) (C 0 (by decide) (by omega))
      · rw [C2] at hp
        by_cases e : p = nn_ S 2
        · subst e
          obtain ⟨tt, t1, t2, et⟩ := a_nat (lo := 5) (hi := 40) ht9 (by decide) (by decide)
          have ect : cl_ t = tt := by rw [et]; exact nI_clamp (by omega)
          have e3 := f3 _ (Nat.le_refl _)
          unfold i_pn s_fa s_ba
          rw [VR, VR, V, V, V, V, V, V, V, V, C10, (T 46 (by decide)).1, (T 47 (by decide)).1, ect]
          refine ⟨?_, Or.inl ⟨rfl, e3.2.1⟩, Or.inl ⟨rfl, e3.2.2⟩, ?_, ?_, ⟨t1, t2⟩, ?_, Or.inl ⟨rfl, rfl⟩, ⟨0, rfl, by omega⟩, ⟨0, rfl, by omega⟩, ⟨0, rfl, by omega⟩, ⟨0, rfl, by omega⟩, fun _ => rfl⟩
          · rw [← hS]; unfold nw_pan; simp [al_n, al_i]
          · obtain ⟨j, h1, h2, e⟩ := a_nat (lo := 100) (hi := 2000) hw (by decide) (by decide)
            exact ⟨j, e, h1, h2⟩
          · obtain ⟨j, h1, h2, e⟩ := a_nat (lo := 1) (hi := 20) hd (by decide) (by decide)
            exact ⟨j, e, h1, h2⟩
          · have em : ∃ m : Nat, co_m core = nI m ∧ 1 ≤ m ∧ m ≤ 3 := by
              unfold co_m
              split
              · exact ⟨1, rfl, by omega, by omega⟩
              · split
                · exact ⟨3, rfl, by omega, by omega⟩
                · exact ⟨2, rfl, by omega, by omega⟩
            obtain ⟨m, em, m1, m2⟩ := em
            refine ⟨m, ?_, m1, m2⟩
            show t * co_m core = nI (tt * m)
            rw [et, em]
            exact pk_mul tt m
        · exact (pn p (by omega)).te (X p e) ((T 46 (by decide)).x p) ((T 47 (by decide)).x p) (T 62 (by decide)).2.1 (C 1 (by decide) (by omega)) (C _ (by omega) (by omega)) (by omega)
      · rw [C 3 (by decide) (by omega)] at hp; exact (pi p hp).te ((T 44 (by decide)).x p) ((T 48 (by decide)).x p) ((T 63 (by decide)).x p) ((T 64 (by decide)).x p) (T 62 (by decide)).2.1 (C 1 (by decide) (by omega)) (C _ (by omega) (by omega)) (C _ (by omega) (by omega))
      · rw [C 0 (by decide) (by omega), (T 41 (by decide)).1]; exact f1
      · rw [C 1 (by decide) (by omega), (T 42 (by decide)).1, (T 62 (by decide)).1]; exact f2
      · rw [C2] at hi; rw [(X i (by omega)).1, (T 46 (by decide)).1, (T 47 (by decide)).1]; exact f3 i (by omega)
      · rw [C 3 (by decide) (by omega), (T 44 (by decide)).1, (T 48 (by decide)).1, (T 63 (by decide)).1, (T 64 (by decide)).1]; exact f4
      · rw [C 4 (by decide) (by omega), (T 45 (by decide)).1]; exact f5
      · rw [C 5 (by decide) (by omega), C 4 (by decide) (by omega), (T 45 (by decide)).1, ← hS]; exact f6
      · unfold i_sm at *
        rw [C 1 (by decide) (by omega), C 5 (by decide) (by omega), (T 40 (by decide)).2.2.1, s_ut_te (S := S) (S' := S2) _ (fun f hf9 => ⟨by unfold s_n; rw [(T 62 (by decide)).2.1], fun l => ⟨hs f hf9 l, by rw [(T 62 (by decide)).2.2.1]⟩⟩), s_oa_te (S := S) (S' := S2) _ (fun k _ => ⟨by rw [← hS]; rfl, by rw [(T 45 (by decide)).2.2.1]⟩)]
        exact s
      · rw [C 1 (by decide) (by omega)] at hf9
        have hl2 : l < s_n S f := by unfold s_n at *; rw [(T 62 (by decide)).2.1] at hl9; exact hl9
        rw [C2, C 3 (by decide) (by omega)]
        show s_u1 S2 f l (nn_ S 2) + s_hd S2 (hp_vr S2.1 43 (nn_ S 2) 3) 46 (nn_ S 2) f l + s_hd S2 (hp_vr S2.1 43 (nn_ S 2) 4) 47 (nn_ S 2) f l + _ = _
        have z0 : ∀ u p, s_hd S2 (0, 0) u p f l = 0 := fun u p => if_neg (fun q => q.1 rfl)
        rw [VR, VR, z0, z0, s_u1_te (S := S) (S' := S2) _ (fun p hp => ⟨by rw [(X p (by omega)).2.2.2], (T 46 (by decide)).x p, (T 47 (by decide)).x p⟩), s_u2_te (S := S) (S' := S2) _ (fun p _ => ⟨by rw [(T 44 (by decide)).2.2.2.1], (T 48 (by decide)).x p⟩), (T 62 (by decide)).2.2.1]
        exact u f l hf9 hl2
  · exact I.m (by omega)
end VVJ3
