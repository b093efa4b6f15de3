theorem Rp1.tk {S : SP} {h h' : PH} {b : Nat} (R : Rp1 S h) (hb : b < nn_ S 5) (te : ∀ t, ¬ t = 10 → ¬ t = 24 → ¬ t = 29 → hp_te h h' t) (L : q_l h' 24 29 (nn_ S 5 - 1) (fun k => (15, if k < b then S.2.2 k else S.2.2 (k + 1)))) (Z : q1_0 (tk_ S b) h') : Rp1 (tk_ S b) h' := by
  obtain ⟨R0, ⟨L0, L1, L2, L3, L4⟩, R1, R2, R3, R4, R5⟩ := R
  have F : ∀ t, ¬ t = 40 → hp_te S.1 (tk_ S b).1 t := fun t q => hp_te.i q
  have T : ∀ t, ¬ t = 10 ∧ ¬ t = 24 ∧ ¬ t = 29 → hp_te h h' t := fun t q => te t q.1 q.2.1 q.2.2
  refine ⟨Z, ⟨L0.te (T _ (by decide)) (T _ (by decide)) (T _ (by decide)), L1.te (T _ (by decide)) (T _ (by decide)) (T _ (by decide)), L2.te (T _ (by decide)) (T _ (by decide)) (T _ (by decide)), L3.te (T _ (by decide)) (T _ (by decide)) (T _ (by decide)), L⟩, R1.te (T _ (by decide)) (F _ (by decide)) rfl, R2.te (T _ (by decide)) (T _ (by decide)) (T _ (by decide)) (T _ (by decide)) (F _ (by decide)) (F _ (by decide)) (F _ (by decide)) rfl, R3.te (T _ (by decide)) (T _ (by decide)) (T _ (by decide)) (F _ (by decide)) (F _ (by decide)) (F _ (by decide)) (F _ (by decide)) rfl (fun p _ => c_ne (by omega)), R4.te (T _ (by decide)) (T _ (by decide)) (T _ (by decide)) (T _ (by decide)) (T _ (by decide)) (T _ (by decide)) (F _ (by decide)) (F _ (by decide)) (F _ (by decide)) (F _ (by decide)) rfl (fun p _ => ⟨c_ne (by omega), c_ne (by omega)⟩), ⟨fun k hk => ?_, fun j hj => ?_⟩⟩
  · have hk9 : k < nn_ S 5 - 1 := hk
    show hp_al h' 15 (if k < b then S.2.2 k else S.2.2 (k + 1)) = true ∧ hp_vi h' 15 (if k < b then S.2.2 k else S.2.2 (k + 1)) 0 = hp_vi S.1 45 (if k < b then S.2.2 k else S.2.2 (k + 1)) 0 ∧ hp_vi h' 15 (if k < b then S.2.2 k else S.2.2 (k + 1)) 1 = hp_vi S.1 45 (if k < b then S.2.2 k else S.2.2 (k + 1)) 1
    rw [(T 15 (by decide)).1, (T 15 (by decide)).2.2.1]
    split
    · exact R5.1 k (by omega)
    · exact R5.1 (k + 1) (by omega)
  · rw [(T 15 (by decide)).1]
    exact R5.2 j hj
def bi_ : Option Nat → Int32
  | none => -1
  | some b => nI b
def br_ (S : SP) : Option Nat → RN
  | none => (0, 0)
  | some b => (15, S.2.2 b)
