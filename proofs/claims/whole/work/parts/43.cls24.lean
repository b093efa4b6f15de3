theorem q1_3.ux {S S' : SP} {h h' : PH} {p : Nat} (R : q1_3 S h) (e : ∀ j, ¬ j = p → hp_tx h h' 13 j ∧ hp_tx h h' 16 j ∧ hp_tx h h' 17 j) (f : ∀ j, ¬ j = p → hp_tx S.1 S'.1 43 j ∧ hp_tx S.1 S'.1 46 j ∧ hp_tx S.1 S'.1 47 j) (f0 : hp_te S.1 S'.1 42) (c : S'.2 = S.2) (hp : p < nn_ S 2) (P : pn_1 S' h' p) : q1_3 S' h' := by
  refine ⟨fun j hj => ?_, fun j hj => ?_⟩
  · by_cases q : j = p
    · exact q ▸ P
    · exact (R.1 j (by unfold nn_ at *; rw [c] at hj; exact hj)).tx (e j q).1 (e j q).2.1 (e j q).2.2 (f j q).1 (fun _ => by rw [f0.2.2.1]) (f j q).2.1 (f j q).2.2 (by rw [c])
  · have h9 : nn_ S 2 ≤ j := by unfold nn_ at *; rw [c] at hj; exact hj
    obtain ⟨x1, x2, x3⟩ := e j (by omega)
    rw [x1.1, x2.1, x3.1]
    exact R.2 j h9
def fc_ (S : SP) (p f : Nat) (a m j : Int32) : SP := (hp_seti (hp_seti (hp_setr (hp_seti (hp_seti (hp_setr (hp_new S.1 46 p 0) 46 p 0 (42, f)) 46 p 1 a) 46 p 2 m) 43 p 3 (46, p)) 43 p 5 j) 40 0 7 (hp_vi S.1 40 0 7 + hp_vi S.1 43 p 0 * hp_vi S.1 43 p 1), S.2)
def fh_ (S : SP) (h : PH) (p f : Nat) (a m j : Int32) : PH := hp_seti (hp_seti (hp_seti (hp_setr (hp_seti (hp_seti (hp_setr (hp_new h 16 p 0) 16 p 0 (12, f)) 16 p 1 a) 16 p 2 m) 13 p 4 (16, p)) 13 p 6 j) 13 p 10 (10 * hp_vi S.1 42 f 2)) 10 0 6 (hp_vi S.1 40 0 7 + hp_vi S.1 43 p 0 * hp_vi S.1 43 p 1)
theorem Rp1.fc {S : SP} {N : Nat} {h : PH} {p f : Nat} {a m j : Int32} (R : Rp1 S h) (I : Iv S N) (hp : p < nn_ S 2) (hf : f < nn_ S 1) (w : (s_fa S p).1 = 0) : Rp1 (fc_ S p f a m j) (fh_ S h p f a m j) := by
  obtain ⟨R0, RL, R1, R2, R3, R4, R5⟩ := R
  have T : ∀ t, ¬ t = 10 ∧ ¬ t = 13 ∧ ¬ t = 16 → hp_te h (fh_ S h p f a m j) t := fun t q => (by repeat' first | exact hp_te.rf | refine hp_te.tr ?_ (hp_te.i (by first | decide | omega)) | refine hp_te.tr ?_ (hp_te.r (by first | decide | omega)) | refine hp_te.tr ?_ (hp_te.n (by first | decide | omega)))
  have F : ∀ t, ¬ t = 40 ∧ ¬ t = 43 ∧ ¬ t = 46 → hp_te S.1 (fc_ S p f a m j).1 t := fun t q => (by repeat' first | exact hp_te.rf | refine hp_te.tr ?_ (hp_te.i (by first | decide | omega)) | refine hp_te.tr ?_ (hp_te.r (by first | decide | omega)) | refine hp_te.tr ?_ (hp_te.n (by first | decide | omega)))
  refine ⟨?_, RL.te (fun t ht => T t (by omega)) rfl, R1.te (T _ (by decide)) (F _ (by decide)) rfl, R2.te (T _ (by decide)) (T _ (by decide)) (T _ (by decide)) (T _ (by decide)) (F _ (by decide)) (F _ (by decide)) (F _ (by decide)) rfl, R3.ux (p := p) (fun i hi => ⟨(by repeat' first | exact hp_tx.rf | refine hp_tx.tr ?_ (hp_tx.i (by omega)) | refine hp_tx.tr ?_ (hp_tx.r (by omega)) | refine hp_tx.tr ?_ (hp_tx.n (by omega))), (by repeat' first | exact hp_tx.rf | refine hp_tx.tr ?_ (hp_tx.i (by omega)) | refine hp_tx.tr ?_ (hp_tx.r (by omega)) | refine hp_tx.tr ?_ (hp_tx.n (by omega))), (T 17 (by decide)).x i⟩) (fun i hi => ⟨(by repeat' first | exact hp_tx.rf | refine hp_tx.tr ?_ (hp_tx.i (by omega)) | refine hp_tx.tr ?_ (hp_tx.r (by omega)) | refine hp_tx.tr ?_ (hp_tx.n (by omega))), (by repeat' first | exact hp_tx.rf | refine hp_tx.tr ?_ (hp_tx.i (by omega)) | refine hp_tx.tr ?_ (hp_tx.r (by omega)) | refine hp_tx.tr ?_ (hp_tx.n (by omega))), (F 47 (by decide)).x i⟩) (F _ (by decide)) rfl hp ?_, R4.te (T _ (by decide)) (T _ (by decide)) (T _ (by decide)) (T _ (by decide)) (T _ (by decide)) (T _ (by decide)) (F _ (by decide)) (F _ (by decide)) (F _ (by decide)) (F _ (by decide)) rfl (fun _ _ => ⟨rfl, rfl⟩), R5.te (T _ (by decide)) (F _ (by decide)) rfl⟩
  · obtain ⟨⟨r0, r01⟩, r1, r2, r3, r4, r5, r6⟩ := R0
    unfold fc_ fh_
    refine ⟨⟨?_, r01⟩, ?_, ?_, ?_, ?_, ?_, ?_⟩
    · exact r0
    · exact r1
    · exact hp_seti_at.trans hp_seti_at.symm
    · exact r3
    · exact r4
    · exact r5
    · exact r6
  · obtain ⟨⟨a1, a2, a3⟩, ⟨b1, b2, b3, b4⟩, ⟨d1, d2, d3, d4, d5, d6, d7, d8⟩, e1, e2, e3, e4⟩ := R3.1 p hp
    have hfa : s_fa (fc_ S p f a m j) p = (46, p) := by show hp_vr (fc_ S p f a m j).1 43 p 3 = _; unfold fc_; simp [vr_i, vr_r]
    have hba : s_ba (fc_ S p f a m j) p = s_ba S p := by show hp_vr (fc_ S p f a m j).1 43 p 4 = _; unfold fc_; simp [vr_i, vr_r, vr_n]
    have h46 : hp_vr (fc_ S p f a m j).1 46 p 0 = (42, f) := by unfold fc_; simp [vr_i, vr_r, vr_n]
    obtain ⟨t, et, -, ht9⟩ := (I.2.2.1 f hf).2.2.1
    have hlf : s_lf (fc_ S p f a m j) p = 10 * hp_vi S.1 42 f 2 := by
      unfold s_lf
      rw [hfa, h46, if_neg (show ¬ (46 : Nat) = 0 by decide)]
      have e5 : hp_vi (fc_ S p f a m j).1 43 p 9 = 0 := by unfold fc_; simp [vi_i, vi_r, vi_n]; exact (I.2.2.2.1 p hp).2.2.2.2.2.2.2.2.2.2.2.2 w
      have e6 : hp_vi (fc_ S p f a m j).1 42 f 2 = hp_vi S.1 42 f 2 := by rw [(F 42 (by decide)).2.2.1]
      rw [e5, e6, et, show (10 : Int32) * nI t = nI (10 * t) from pk_mul 10 t]
      exact mx_sub (a := 10 * t) (b := 0) (by omega) (by omega)
    have hN : nn_ (fc_ S p f a m j) (10 + p) = nn_ S (10 + p) := rfl
    refine ⟨⟨a1, ?_, ?_⟩, ⟨?_, ?_, ?_, ?_⟩, ⟨?_, ?_, ?_, ?_, ?_, ?_, ?_, ?_⟩, fun q => ?_, fun _ => ⟨hp_new_al0 (n := 0), ?_, ?_, ?_⟩, fun q => ?_, fun q => ?_⟩
    · rw [hfa, if_neg (show ¬ (46 : Nat) = 0 by decide)]; unfold fh_; simp [vr_i, vr_r]
    · rw [hba]; unfold fh_; simp only [vr_i, vr_r, vr_n]; simp; exact a3
    · unfold fh_ fc_; simp [vi_i, vi_r, vi_n]; exact b1
    · unfold fh_ fc_; simp [vi_i, vi_r, vi_n]; exact b2
    · rw [hN]; unfold fh_; simp [vi_i, vi_r, vi_n]; exact b3
    · rw [hN]; unfold fh_ fc_; simp [vi_i, vi_r, vi_n]; exact b4
    · unfold fh_ fc_; simp [vi_i, vi_r, vi_n]
    · unfold fh_ fc_; simp [vi_i, vi_r, vi_n]; exact d2
    · unfold fh_ fc_; simp [vi_i, vi_r, vi_n]; exact d3
    · unfold fh_ fc_; simp [vi_i, vi_r, vi_n]; exact d4
    · rw [hlf]; unfold fh_; simp [vi_i]
    · unfold fh_ fc_; simp [vi_i, vi_r, vi_n]; exact d6
    · unfold fh_ fc_; simp [vi_i, vi_r, vi_n]; exact d7
    · unfold fh_ fc_; simp [vi_i, vi_r, vi_n]; exact d8
    · rw [hfa] at q; exact absurd q (show ¬ (46 : Nat) = 0 by decide)
    · rw [h46]; unfold fh_; simp [vr_i, vr_r, vr_n]
    · unfold fh_ fc_; simp [vi_i, vi_r, vi_n]
    · unfold fh_ fc_; simp [vi_i, vi_r, vi_n]
    · rw [hba] at q; exact e3 q
    · rw [hba] at q; exact e4 q
