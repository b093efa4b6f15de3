theorem vf32_of {r : UInt32} (h : Jvm.FP.Core.val32 r ≠ .nan) : vf_n32 r := by
  unfold vf_n32
  rw [UInt32.le_iff_toNat_le, UInt32.toNat_and]
  show r.toNat &&& (2 ^ 31 - 1) ≤ 0x7f800000
  rw [Nat.and_two_pow_sub_one_eq_mod]
  refine Nat.le_of_not_lt fun hl => h ?_
  have e1 : Jvm.FP.Core.fieldE Jvm.FP.Core.b32 r.toNat = 255 := by
    show r.toNat / 2 ^ 23 % 2 ^ 8 = 255
    omega
  have e2 : ¬ Jvm.FP.Core.fieldT Jvm.FP.Core.b32 r.toNat = 0 := by
    show ¬ r.toNat % 2 ^ 23 = 0
    omega
  show Jvm.FP.Core.decode Jvm.FP.Core.b32 r.toNat = .nan
  unfold Jvm.FP.Core.decode
  rw [e1, if_pos (by decide), if_neg e2]
theorem vf64_of {r : UInt64} (h : Jvm.FP.Core.val64 r ≠ .nan) : vf_n64 r := by
  unfold vf_n64
  rw [UInt64.le_iff_toNat_le, UInt64.toNat_and]
  show r.toNat &&& (2 ^ 63 - 1) ≤ 0x7ff0000000000000
  rw [Nat.and_two_pow_sub_one_eq_mod]
  refine Nat.le_of_not_lt fun hl => h ?_
  have e1 : Jvm.FP.Core.fieldE Jvm.FP.Core.b64 r.toNat = 2047 := by
    show r.toNat / 2 ^ 52 % 2 ^ 11 = 2047
    omega
  have e2 : ¬ Jvm.FP.Core.fieldT Jvm.FP.Core.b64 r.toNat = 0 := by
    show ¬ r.toNat % 2 ^ 52 = 0
    omega
  show Jvm.FP.Core.decode Jvm.FP.Core.b64 r.toNat = .nan
  unfold Jvm.FP.Core.decode
  rw [e1, if_pos (by decide), if_neg e2]
theorem fl_rr (f : Jvm.FP.Core.Fmt) (s : Bool) (a b : Nat) (e : Int) : Jvm.FP.Core.roundRatio f s a b e ≠ .nan := by
  unfold Jvm.FP.Core.roundRatio Jvm.FP.Core.roundAt Jvm.FP.Core.settle Jvm.FP.Core.bound
  repeat' split
  all_goals intro q; cases q
theorem fl_ro (f : Jvm.FP.Core.Fmt) {d : Jvm.FP.Core.Datum} (h : d ≠ .nan) : Jvm.FP.Core.round f d ≠ .nan := by
  cases d with
  | nan => exact absurd rfl h
  | inf s => intro q; cases q
  | fin s c q => exact fl_rr _ _ _ _ _
theorem fl_qu (f : Jvm.FP.Core.Fmt) {s t : Bool} {c d : Nat} {q r : Int} (h : d ≠ 0) : Jvm.FP.Core.quotient f (.fin s c q) (.fin t d r) ≠ .nan := by
  show (if d = 0 then _ else Jvm.FP.Core.roundRatio f (s != t) c d (q - r)) ≠ _
  rw [if_neg h]
  exact fl_rr _ _ _ _ _
theorem fl_wh {i : Int} {d : Jvm.FP.Core.Datum} (h : Jvm.FP.Core.Whole i d) : ∃ s c q, d = .fin s c q ∧ (i ≠ 0 → c ≠ 0) := by
  cases d with
  | nan => exact h.elim
  | inf s => exact h.elim
  | fin s c q =>
    refine ⟨s, c, q, rfl, fun hi hc => hi ?_⟩
    subst hc
    have h2 : Jvm.FP.Core.signed s (0 * 2 ^ q.toNat) = i * ((2 ^ (-q).toNat : Nat) : Int) := h
    rw [Nat.zero_mul] at h2
    have h3 : Jvm.FP.Core.signed s 0 = 0 := by cases s <;> rfl
    rw [h3] at h2
    rcases Int.mul_eq_zero.mp h2.symm with h4 | h4
    · exact h4
    · exact absurd h4 (by have := Nat.two_pow_pos (-q).toNat; omega)
theorem fl_fd {a b : UInt32} {i j : Int} (ha : Jvm.FP.Core.FInt i a) (hb : Jvm.FP.Core.FInt j b) (hj : j ≠ 0) : Jvm.FP.Core.val32 (FP.fdiv a b) ≠ .nan := by
  obtain ⟨s, c, q, e1, -⟩ := fl_wh ha
  obtain ⟨t, d, r, e2, h2⟩ := fl_wh hb
  show Jvm.FP.Core.val32 (Jvm.FP.Core.fdiv a b) ≠ .nan
  rw [Jvm.FP.Core.val32_fdiv, e1, e2]
  exact fl_qu _ (h2 hj)
theorem fl_dd {a b : UInt64} {i j : Int} (ha : Jvm.FP.Core.DInt i a) (hb : Jvm.FP.Core.DInt j b) (hj : j ≠ 0) : Jvm.FP.Core.val64 (FP.ddiv a b) ≠ .nan := by
  obtain ⟨s, c, q, e1, -⟩ := fl_wh ha
  obtain ⟨t, d, r, e2, h2⟩ := fl_wh hb
  show Jvm.FP.Core.val64 (Jvm.FP.Core.ddiv a b) ≠ .nan
  rw [Jvm.FP.Core.val64_ddiv, e1, e2]
  exact fl_qu _ (h2 hj)
theorem fl_f2 {a : UInt32} (h : Jvm.FP.Core.val32 a ≠ .nan) : Jvm.FP.Core.val64 (FP.f2d a) ≠ .nan := by
  have e : Jvm.FP.Core.fIsNaN a = false := decide_eq_false h
  have e2 : FP.f2d a = Jvm.FP.Core.f2d a := by
    show (if Jvm.FP.Core.fIsNaN a then _ else _) = _
    rw [e]
    rfl
  rw [e2, Jvm.FP.Core.val64_f2d]
  exact fl_ro _ h
/-- a quotient of two counts is a number -/
theorem vf_if {a b : Int32} (ha : a.toInt.natAbs ≤ 2 ^ 24) (hb : b.toInt.natAbs ≤ 2 ^ 24) (hj : b ≠ 0) : Jvm.FP.Core.val32 (FP.fdiv (FP.i2f a) (FP.i2f b)) ≠ .nan :=
  fl_fd (Jvm.FP.Core.i2f_int ha) (Jvm.FP.Core.i2f_int hb) (fun e => hj (Int32.toInt_inj.mp (e.trans rfl)))
theorem vf_id {a b : Int32} (hj : b ≠ 0) : Jvm.FP.Core.val64 (FP.ddiv (FP.i2d a) (FP.i2d b)) ≠ .nan :=
  fl_dd (Jvm.FP.Core.i2d_int a) (Jvm.FP.Core.i2d_int b) (fun e => hj (Int32.toInt_inj.mp (e.trans rfl)))
theorem vf_c0 {a : UInt64} (h : Jvm.FP.Core.val64 a ≠ .nan) (o : CmpOp) : Op.cmpValue (FP.dcmp a a) o = 0 := by
  have e : FP.dcmp a a = some .eq := Jvm.FP.Core.dcmp_self h
  rw [e]
  rfl
