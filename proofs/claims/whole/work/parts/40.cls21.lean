theorem Rp1.us {S : SP} {h h' : PH} {f a m : Nat} (R : Rp1 S h) (Q2 : q1_2 (su_ S f a m) h') (te : ∀ t, ¬ t = 12 → ¬ t = 32 → hp_te h h' t) : Rp1 (su_ S f a m) h' := by
  obtain ⟨R0, RL, R1, R2, R3, R4, R5⟩ := R
  have c := su_2 S f a m
  have F : ∀ {t : Nat}, t ≠ 62 → hp_te S.1 (su_ S f a m).1 t := fun ht => su_te S f a ht m
  exact ⟨R0.te (te _ (by decide) (by decide)) (F (by decide)).2.2.1, RL.te (fun t ht => te t (by omega) (by omega)) c, R1.te (te _ (by decide) (by decide)) (F (by decide)) (by rw [c]), Q2, R3.te (te _ (by decide) (by decide)) (te _ (by decide) (by decide)) (te _ (by decide) (by decide)) (F (by decide)) (F (by decide)) (F (by decide)) (F (by decide)) (by rw [c]) (fun _ _ => by rw [c]), R4.te (te _ (by decide) (by decide)) (te _ (by decide) (by decide)) (te _ (by decide) (by decide)) (te _ (by decide) (by decide)) (te _ (by decide) (by decide)) (te _ (by decide) (by decide)) (F (by decide)) (F (by decide)) (F (by decide)) (F (by decide)) (by rw [c]) (fun _ _ => by rw [c]; exact ⟨rfl, rfl⟩), R5.te (te _ (by decide) (by decide)) (F (by decide)) c⟩
/-- an offcut kept -/
def oc_up (S : SP) (w d : Int32) : SP := (hp_seti (hp_seti (hp_new S.1 45 (nn_ S 4) 2) 45 (nn_ S 4) 0 w) 45 (nn_ S 4) 1 d, c_up (c_up S.2.1 4 (nn_ S 4 + 1)) 5 (nn_ S 5 + 1), fun k => if k = nn_ S 5 then nn_ S 4 else S.2.2 k)
theorem oc_up_te (S : SP) (w d : Int32) {t : Nat} (ht : ¬ t = 45) : hp_te S.1 (oc_up S w d).1 t := (by repeat' first | exact hp_te.rf | refine hp_te.tr ?_ (hp_te.i (by first | decide | omega)) | refine hp_te.tr ?_ (hp_te.r (by first | decide | omega)) | refine hp_te.tr ?_ (hp_te.n (by first | decide | omega)))
theorem oc_up_tx (S : SP) (w d : Int32) {i : Nat} (hi : ¬ i = nn_ S 4) : hp_tx S.1 (oc_up S w d).1 45 i := (by repeat' first | exact hp_tx.rf | refine hp_tx.tr ?_ (hp_tx.i (by omega)) | refine hp_tx.tr ?_ (hp_tx.r (by omega)) | refine hp_tx.tr ?_ (hp_tx.n (by omega)))
theorem Rp1.oc {S : SP} {h h' : PH} {w d : Int32} (R : Rp1 S h) (ho : ∀ k, k < nn_ S 5 → S.2.2 k < nn_ S 4) (te : ∀ t, ¬ t = 15 → ¬ t = 24 → ¬ t = 29 → hp_te h h' t) (L : q_l h' 24 29 (nn_ S 5 + 1) (fun k => (15, if k = nn_ S 5 then nn_ S 4 else S.2.2 k))) (lx : ∀ i, ¬ i = nn_ S 4 → hp_tx h h' 15 i) (new : hp_al h' 15 (nn_ S 4) = true ∧ hp_vi h' 15 (nn_ S 4) 0 = w ∧ hp_vi h' 15 (nn_ S 4) 1 = d) : Rp1 (oc_up S w d) h' := by
  obtain ⟨R0, ⟨L0, L1, L2, L3, L4⟩, R1, R2, R3, R4, R5⟩ := R
  have F : ∀ {t : Nat}, ¬ t = 45 → hp_te S.1 (oc_up S w d).1 t := oc_up_te S w d
  have T : ∀ t, ¬ t = 15 ∧ ¬ t = 24 ∧ ¬ t = 29 → hp_te h h' t := fun t q => te t q.1 q.2.1 q.2.2
  refine ⟨R0.te (T _ (by decide)) (F (by decide)).2.2.1, ⟨L0.te (T _ (by decide)) (T _ (by decide)) (T _ (by decide)), L1.te (T _ (by decide)) (T _ (by decide)) (T _ (by decide)), L2.te (T _ (by decide)) (T _ (by decide)) (T _ (by decide)), L3.te (T _ (by decide)) (T _ (by decide)) (T _ (by decide)), L⟩, R1.te (T _ (by decide)) (F (by decide)) rfl, R2.te (T _ (by decide)) (T _ (by decide)) (T _ (by decide)) (T _ (by decide)) (F (by decide)) (F (by decide)) (F (by decide)) rfl, R3.te (T _ (by decide)) (T _ (by decide)) (T _ (by decide)) (F (by decide)) (F (by decide)) (F (by decide)) (F (by decide)) rfl (fun p _ => (c_ne (by omega)).trans (c_ne (by omega))), R4.te (T _ (by decide)) (T _ (by decide)) (T _ (by decide)) (T _ (by decide)) (T _ (by decide)) (T _ (by decide)) (F (by decide)) (F (by decide)) (F (by decide)) (F (by decide)) rfl (fun p _ => ⟨(c_ne (by omega)).trans (c_ne (by omega)), (c_ne (by omega)).trans (c_ne (by omega))⟩), ⟨fun k hk => ?_, fun j hj => ?_⟩⟩
  · have hk9 : k < nn_ S 5 + 1 := hk
    show hp_al h' 15 (if k = nn_ S 5 then nn_ S 4 else S.2.2 k) = true ∧ hp_vi h' 15 (if k = nn_ S 5 then nn_ S 4 else S.2.2 k) 0 = hp_vi (oc_up S w d).1 45 (if k = nn_ S 5 then nn_ S 4 else S.2.2 k) 0 ∧ hp_vi h' 15 (if k = nn_ S 5 then nn_ S 4 else S.2.2 k) 1 = hp_vi (oc_up S w d).1 45 (if k = nn_ S 5 then nn_ S 4 else S.2.2 k) 1
    by_cases q : k = nn_ S 5
    · rw [if_pos q]
      refine ⟨new.1, new.2.1.trans ?_, new.2.2.trans ?_⟩
      · unfold oc_up; simp [vi_i]
      · unfold oc_up; simp [vi_i]
    · rw [if_neg q]
      have ho9 := ho k (by omega)
      have X := lx (S.2.2 k) (by omega)
      have Y := oc_up_tx S w d (i := S.2.2 k) (by omega)
      rw [X.1, X.2.2.1, Y.2.2.1]
      exact R5.1 k (by omega)
  · have hj9 : nn_ S 4 + 1 ≤ j := hj
    rw [(lx j (by omega)).1]
    exact R5.2 j (by omega)
/-- what a laying keeps beside its strips, and the rest -/
def ls_ (S : SP) (f a : Nat) (st ht r0 : Int32) : Nat → SP × Int32
  | 0 => (S, r0)
  | k + 1 => if 50 ≤ s_w S f (nI (a + k)) - st then (oc_up (ls_ S f a st ht r0 k).1 (s_w S f (nI (a + k)) - st) ht, (ls_ S f a st ht r0 k).2 - (s_w S f (nI (a + k)) - st) * ht) else ls_ S f a st ht r0 k
theorem ls_te (S : SP) (f a : Nat) (st ht r0 : Int32) {t : Nat} (h : ¬ t = 45) : ∀ k, hp_te S.1 (ls_ S f a st ht r0 k).1.1 t
  | 0 => hp_te.rf
  | k + 1 => by
    unfold ls_
    split
    · exact (ls_te S f a st ht r0 h k).tr (oc_up_te _ _ _ h)
    · exact ls_te S f a st ht r0 h k
theorem ls_c (S : SP) (f a : Nat) (st ht r0 : Int32) : ∀ k, (∀ j, ¬ j = 4 → ¬ j = 5 → (ls_ S f a st ht r0 k).1.2.1 j = S.2.1 j) ∧ nn_ (ls_ S f a st ht r0 k).1 5 + nn_ S 4 = nn_ (ls_ S f a st ht r0 k).1 4 + nn_ S 5 ∧ nn_ (ls_ S f a st ht r0 k).1 4 ≤ nn_ S 4 + k ∧ ((∀ i, i < nn_ S 5 → S.2.2 i < nn_ S 4) → ∀ i, i < nn_ (ls_ S f a st ht r0 k).1 5 → (ls_ S f a st ht r0 k).1.2.2 i < nn_ (ls_ S f a st ht r0 k).1 4)
  | 0 => ⟨fun _ _ _ => rfl, Nat.add_comm _ _, Nat.le_refl _, fun h => h⟩
  | k + 1 => by
    obtain ⟨h1, h2, h3, h4⟩ := ls_c S f a st ht r0 k
    unfold ls_
    split
    · refine ⟨fun j q1 q2 => ?_, ?_, ?_, fun ho i hi => ?_⟩
      · exact (c_ne q2).trans ((c_ne q1).trans (h1 j q1 q2))
      · show nn_ (ls_ S f a st ht r0 k).1 5 + 1 + nn_ S 4 = nn_ (ls_ S f a st ht r0 k).1 4 + 1 + nn_ S 5
        omega
      · show nn_ (ls_ S f a st ht r0 k).1 4 + 1 ≤ _
        omega
      · have hi9 : i < nn_ (ls_ S f a st ht r0 k).1 5 + 1 := hi
        show (if i = nn_ (ls_ S f a st ht r0 k).1 5 then nn_ (ls_ S f a st ht r0 k).1 4 else (ls_ S f a st ht r0 k).1.2.2 i) < nn_ (ls_ S f a st ht r0 k).1 4 + 1
        split
        · omega
        · have := h4 ho i (by omega)
          omega
    · exact ⟨h1, h2, by omega, h4⟩
