section VVR
variable {G : GW} {d k n : Nat} {y : MethodName} {cc : ByteArray} {nL : Nat} {ret : Option FieldType} {hh : List (Nat × Nat × Nat × Nat)} {pc : Nat} {ls : List (Option PV)} {st : List PV} {h : PH} {Q : RS → PH → Prop}
theorem v_iconst  {z : Int} (q : Nat) (hd : decode cc pc = .ok (.iconst z, 1))  (hq : pc + 1 = q) (K : VV G d k n y cc nL ret hh q ls (pv_I (Int32.ofInt z) :: st) h Q) : VV G d k n y cc nL ret hh pc ls (st) h Q := by
  intro p e R s m args below meth c H locs cells slots h0 l0 loc a C hR hE hL hl hs ho
  subst hq
  show W p (gw_l G) e R s m args below meth c H locs cells slots _ (F0 m pc a (st.map (pv_c loc)))
  exact lv_iconst C.1 C.2.1 hd rfl (K p e R s m args below meth c H locs cells slots h0 l0 loc a C hR hE hL hl ⟨trivial, hs⟩ ho)
theorem v_bipush  {z : Int} (q : Nat) (hd : decode cc pc = .ok (.bipush z, 2))  (hq : pc + 2 = q) (K : VV G d k n y cc nL ret hh q ls (pv_I ((Int8.ofInt z).toInt32) :: st) h Q) : VV G d k n y cc nL ret hh pc ls (st) h Q := by
  intro p e R s m args below meth c H locs cells slots h0 l0 loc a C hR hE hL hl hs ho
  subst hq
  show W p (gw_l G) e R s m args below meth c H locs cells slots _ (F0 m pc a (st.map (pv_c loc)))
  exact lv_bipush C.1 C.2.1 hd rfl (K p e R s m args below meth c H locs cells slots h0 l0 loc a C hR hE hL hl ⟨trivial, hs⟩ ho)
theorem v_sipush  {z : Int} (q : Nat) (hd : decode cc pc = .ok (.sipush z, 3))  (hq : pc + 3 = q) (K : VV G d k n y cc nL ret hh q ls (pv_I ((Int16.ofInt z).toInt32) :: st) h Q) : VV G d k n y cc nL ret hh pc ls (st) h Q := by
  intro p e R s m args below meth c H locs cells slots h0 l0 loc a C hR hE hL hl hs ho
  subst hq
  show W p (gw_l G) e R s m args below meth c H locs cells slots _ (F0 m pc a (st.map (pv_c loc)))
  exact lv_sipush C.1 C.2.1 hd rfl (K p e R s m args below meth c H locs cells slots h0 l0 loc a C hR hE hL hl ⟨trivial, hs⟩ ho)
theorem v_iconstv  {z : Int} {v : Int32} (q : Nat) (hd : decode cc pc = .ok (.iconst z, 1)) (hv : Int32.ofInt z = v) (hq : pc + 1 = q) (K : VV G d k n y cc nL ret hh q ls (pv_I (v) :: st) h Q) : VV G d k n y cc nL ret hh pc ls (st) h Q := by
  intro p e R s m args below meth c H locs cells slots h0 l0 loc a C hR hE hL hl hs ho
  subst hq
  show W p (gw_l G) e R s m args below meth c H locs cells slots _ (F0 m pc a (st.map (pv_c loc)))
  exact lv_iconst C.1 C.2.1 hd hv (K p e R s m args below meth c H locs cells slots h0 l0 loc a C hR hE hL hl ⟨trivial, hs⟩ ho)
theorem v_bipushv  {z : Int} {v : Int32} (q : Nat) (hd : decode cc pc = .ok (.bipush z, 2)) (hv : (Int8.ofInt z).toInt32 = v) (hq : pc + 2 = q) (K : VV G d k n y cc nL ret hh q ls (pv_I (v) :: st) h Q) : VV G d k n y cc nL ret hh pc ls (st) h Q := by
  intro p e R s m args below meth c H locs cells slots h0 l0 loc a C hR hE hL hl hs ho
  subst hq
  show W p (gw_l G) e R s m args below meth c H locs cells slots _ (F0 m pc a (st.map (pv_c loc)))
  exact lv_bipush C.1 C.2.1 hd hv (K p e R s m args below meth c H locs cells slots h0 l0 loc a C hR hE hL hl ⟨trivial, hs⟩ ho)
theorem v_sipushv  {z : Int} {v : Int32} (q : Nat) (hd : decode cc pc = .ok (.sipush z, 3)) (hv : (Int16.ofInt z).toInt32 = v) (hq : pc + 3 = q) (K : VV G d k n y cc nL ret hh q ls (pv_I (v) :: st) h Q) : VV G d k n y cc nL ret hh pc ls (st) h Q := by
  intro p e R s m args below meth c H locs cells slots h0 l0 loc a C hR hE hL hl hs ho
  subst hq
  show W p (gw_l G) e R s m args below meth c H locs cells slots _ (F0 m pc a (st.map (pv_c loc)))
  exact lv_sipush C.1 C.2.1 hd hv (K p e R s m args below meth c H locs cells slots h0 l0 loc a C hR hE hL hl ⟨trivial, hs⟩ ho)
theorem v_lconst  {z : Fin 2} {v : Int64} (q : Nat) (hd : decode cc pc = .ok (.lconst z, 1)) (hv : Int64.ofNat (z : Nat) = v) (hq : pc + 1 = q) (K : VV G d k n y cc nL ret hh q ls (pv_L (v) :: st) h Q) : VV G d k n y cc nL ret hh pc ls (st) h Q := by
  intro p e R s m args below meth c H locs cells slots h0 l0 loc a C hR hE hL hl hs ho
  subst hq
  show W p (gw_l G) e R s m args below meth c H locs cells slots _ (F0 m pc a (st.map (pv_c loc)))
  exact lv_lconst C.1 C.2.1 hd hv (K p e R s m args below meth c H locs cells slots h0 l0 loc a C hR hE hL hl ⟨trivial, hs⟩ ho)
theorem v_fconst0   (q : Nat) (hd : decode cc pc = .ok (.fconst 0, 1))  (hq : pc + 1 = q) (K : VV G d k n y cc nL ret hh q ls (pv_F (FP.fconst0) :: st) h Q) : VV G d k n y cc nL ret hh pc ls (st) h Q := by
  intro p e R s m args below meth c H locs cells slots h0 l0 loc a C hR hE hL hl hs ho
  subst hq
  show W p (gw_l G) e R s m args below meth c H locs cells slots _ (F0 m pc a (st.map (pv_c loc)))
  exact lv_fconst0 C.1 C.2.1 hd  (K p e R s m args below meth c H locs cells slots h0 l0 loc a C hR hE hL hl ⟨trivial, hs⟩ ho)
theorem v_dconst0   (q : Nat) (hd : decode cc pc = .ok (.dconst 0, 1))  (hq : pc + 1 = q) (K : VV G d k n y cc nL ret hh q ls (pv_D (FP.dconst0) :: st) h Q) : VV G d k n y cc nL ret hh pc ls (st) h Q := by
  intro p e R s m args below meth c H locs cells slots h0 l0 loc a C hR hE hL hl hs ho
  subst hq
  show W p (gw_l G) e R s m args below meth c H locs cells slots _ (F0 m pc a (st.map (pv_c loc)))
  exact lv_dconst0 C.1 C.2.1 hd  (K p e R s m args below meth c H locs cells slots h0 l0 loc a C hR hE hL hl ⟨trivial, hs⟩ ho)
theorem v_iadd {z : Int32} {x : Int32}  (q : Nat) (hd : decode cc pc = .ok (.iadd, 1))  (hq : pc + 1 = q) (K : VV G d k n y cc nL ret hh q ls (pv_I (x + z) :: st) h Q) : VV G d k n y cc nL ret hh pc ls (pv_I z :: pv_I x :: st) h Q := by
  intro p e R s m args below meth c H locs cells slots h0 l0 loc a C hR hE hL hl hs ho
  subst hq
  show W p (gw_l G) e R s m args below meth c H locs cells slots _ (F0 m pc a (Value.int z :: Value.int x :: st.map (pv_c loc)))
  exact lv_iadd C.1 C.2.1 hd  (K p e R s m args below meth c H locs cells slots h0 l0 loc a C hR hE hL hl ⟨trivial, hs.2.2⟩ ho)
theorem v_isub {z : Int32} {x : Int32}  (q : Nat) (hd : decode cc pc = .ok (.isub, 1))  (hq : pc + 1 = q) (K : VV G d k n y cc nL ret hh q ls (pv_I (x - z) :: st) h Q) : VV G d k n y cc nL ret hh pc ls (pv_I z :: pv_I x :: st) h Q := by
  intro p e R s m args below meth c H locs cells slots h0 l0 loc a C hR hE hL hl hs ho
  subst hq
  show W p (gw_l G) e R s m args below meth c H locs cells slots _ (F0 m pc a (Value.int z :: Value.int x :: st.map (pv_c loc)))
  exact lv_isub C.1 C.2.1 hd  (K p e R s m args below meth c H locs cells slots h0 l0 loc a C hR hE hL hl ⟨trivial, hs.2.2⟩ ho)
theorem v_imul {z : Int32} {x : Int32}  (q : Nat) (hd : decode cc pc = .ok (.imul, 1))  (hq : pc + 1 = q) (K : VV G d k n y cc nL ret hh q ls (pv_I (x * z) :: st) h Q) : VV G d k n y cc nL ret hh pc ls (pv_I z :: pv_I x :: st) h Q := by
  intro p e R s m args below meth c H locs cells slots h0 l0 loc a C hR hE hL hl hs ho
  subst hq
  show W p (gw_l G) e R s m args below meth c H locs cells slots _ (F0 m pc a (Value.int z :: Value.int x :: st.map (pv_c loc)))
  exact lv_imul C.1 C.2.1 hd  (K p e R s m args below meth c H locs cells slots h0 l0 loc a C hR hE hL hl ⟨trivial, hs.2.2⟩ ho)
theorem v_iand {z : Int32} {x : Int32}  (q : Nat) (hd : decode cc pc = .ok (.iand, 1))  (hq : pc + 1 = q) (K : VV G d k n y cc nL ret hh q ls (pv_I (x &&& z) :: st) h Q) : VV G d k n y cc nL ret hh pc ls (pv_I z :: pv_I x :: st) h Q := by
  intro p e R s m args below meth c H locs cells slots h0 l0 loc a C hR hE hL hl hs ho
  subst hq
  show W p (gw_l G) e R s m args below meth c H locs cells slots _ (F0 m pc a (Value.int z :: Value.int x :: st.map (pv_c loc)))
  exact lv_iand C.1 C.2.1 hd  (K p e R s m args below meth c H locs cells slots h0 l0 loc a C hR hE hL hl ⟨trivial, hs.2.2⟩ ho)
theorem v_ior {z : Int32} {x : Int32}  (q : Nat) (hd : decode cc pc = .ok (.ior, 1))  (hq : pc + 1 = q) (K : VV G d k n y cc nL ret hh q ls (pv_I (x ||| z) :: st) h Q) : VV G d k n y cc nL ret hh pc ls (pv_I z :: pv_I x :: st) h Q := by
  intro p e R s m args below meth c H locs cells slots h0 l0 loc a C hR hE hL hl hs ho
  subst hq
  show W p (gw_l G) e R s m args below meth c H locs cells slots _ (F0 m pc a (Value.int z :: Value.int x :: st.map (pv_c loc)))
  exact lv_ior C.1 C.2.1 hd  (K p e R s m args below meth c H locs cells slots h0 l0 loc a C hR hE hL hl ⟨trivial, hs.2.2⟩ ho)
theorem v_ishl {z : Int32} {x : Int32}  (q : Nat) (hd : decode cc pc = .ok (.ishl, 1))  (hq : pc + 1 = q) (K : VV G d k n y cc nL ret hh q ls (pv_I (x <<< (z &&& 31)) :: st) h Q) : VV G d k n y cc nL ret hh pc ls (pv_I z :: pv_I x :: st) h Q := by
  intro p e R s m args below meth c H locs cells slots h0 l0 loc a C hR hE hL hl hs ho
  subst hq
  show W p (gw_l G) e R s m args below meth c H locs cells slots _ (F0 m pc a (Value.int z :: Value.int x :: st.map (pv_c loc)))
  exact lv_ishl C.1 C.2.1 hd  (K p e R s m args below meth c H locs cells slots h0 l0 loc a C hR hE hL hl ⟨trivial, hs.2.2⟩ ho)
theorem v_ishr {z : Int32} {x : Int32}  (q : Nat) (hd : decode cc pc = .ok (.ishr, 1))  (hq : pc + 1 = q) (K : VV G d k n y cc nL ret hh q ls (pv_I (x >>> (z &&& 31)) :: st) h Q) : VV G d k n y cc nL ret hh pc ls (pv_I z :: pv_I x :: st) h Q := by
  intro p e R s m args below meth c H locs cells slots h0 l0 loc a C hR hE hL hl hs ho
  subst hq
  show W p (gw_l G) e R s m args below meth c H locs cells slots _ (F0 m pc a (Value.int z :: Value.int x :: st.map (pv_c loc)))
  exact lv_ishr C.1 C.2.1 hd  (K p e R s m args below meth c H locs cells slots h0 l0 loc a C hR hE hL hl ⟨trivial, hs.2.2⟩ ho)
theorem v_iushr {z : Int32} {x : Int32}  (q : Nat) (hd : decode cc pc = .ok (.iushr, 1))  (hq : pc + 1 = q) (K : VV G d k n y cc nL ret hh q ls (pv_I ((x.toUInt32 >>> (z.toUInt32 &&& Int32.toUInt32 31)).toInt32) :: st) h Q) : VV G d k n y cc nL ret hh pc ls (pv_I z :: pv_I x :: st) h Q := by
  intro p e R s m args below meth c H locs cells slots h0 l0 loc a C hR hE hL hl hs ho
  subst hq
  show W p (gw_l G) e R s m args below meth c H locs cells slots _ (F0 m pc a (Value.int z :: Value.int x :: st.map (pv_c loc)))
  exact lv_iushr C.1 C.2.1 hd rfl (K p e R s m args below meth c H locs cells slots h0 l0 loc a C hR hE hL hl ⟨trivial, hs.2.2⟩ ho)
theorem v_idiv {z : Int32} {x : Int32}  (q : Nat) (hd : decode cc pc = .ok (.idiv, 1)) (hne : ¬ z = 0) (hq : pc + 1 = q) (K : VV G d k n y cc nL ret hh q ls (pv_I (x / z) :: st) h Q) : VV G d k n y cc nL ret hh pc ls (pv_I z :: pv_I x :: st) h Q := by
  intro p e R s m args below meth c H locs cells slots h0 l0 loc a C hR hE hL hl hs ho
  subst hq
  show W p (gw_l G) e R s m args below meth c H locs cells slots _ (F0 m pc a (Value.int z :: Value.int x :: st.map (pv_c loc)))
  exact lv_idiv C.1 C.2.1 hd hne (K p e R s m args below meth c H locs cells slots h0 l0 loc a C hR hE hL hl ⟨trivial, hs.2.2⟩ ho)
theorem v_irem {z : Int32} {x : Int32}  (q : Nat) (hd : decode cc pc = .ok (.irem, 1)) (hne : ¬ z = 0) (hq : pc + 1 = q) (K : VV G d k n y cc nL ret hh q ls (pv_I (x - x / z * z) :: st) h Q) : VV G d k n y cc nL ret hh pc ls (pv_I z :: pv_I x :: st) h Q := by
  intro p e R s m args below meth c H locs cells slots h0 l0 loc a C hR hE hL hl hs ho
  subst hq
  show W p (gw_l G) e R s m args below meth c H locs cells slots _ (F0 m pc a (Value.int z :: Value.int x :: st.map (pv_c loc)))
  exact lv_irem C.1 C.2.1 hd hne (K p e R s m args below meth c H locs cells slots h0 l0 loc a C hR hE hL hl ⟨trivial, hs.2.2⟩ ho)
theorem v_ineg {x : Int32}  (q : Nat) (hd : decode cc pc = .ok (.ineg, 1))  (hq : pc + 1 = q) (K : VV G d k n y cc nL ret hh q ls (pv_I (-x) :: st) h Q) : VV G d k n y cc nL ret hh pc ls (pv_I x :: st) h Q := by
  intro p e R s m args below meth c H locs cells slots h0 l0 loc a C hR hE hL hl hs ho
  subst hq
  show W p (gw_l G) e R s m args below meth c H locs cells slots _ (F0 m pc a (Value.int x :: st.map (pv_c loc)))
  exact lv_ineg C.1 C.2.1 hd  (K p e R s m args below meth c H locs cells slots h0 l0 loc a C hR hE hL hl ⟨trivial, hs.2⟩ ho)
theorem v_ladd {z : Int64} {x : Int64}  (q : Nat) (hd : decode cc pc = .ok (.ladd, 1))  (hq : pc + 1 = q) (K : VV G d k n y cc nL ret hh q ls (pv_L (x + z) :: st) h Q) : VV G d k n y cc nL ret hh pc ls (pv_L z :: pv_L x :: st) h Q := by
  intro p e R s m args below meth c H locs cells slots h0 l0 loc a C hR hE hL hl hs ho
  subst hq
  show W p (gw_l G) e R s m args below meth c H locs cells slots _ (F0 m pc a (Value.long z :: Value.long x :: st.map (pv_c loc)))
  exact lv_ladd C.1 C.2.1 hd  (K p e R s m args below meth c H locs cells slots h0 l0 loc a C hR hE hL hl ⟨trivial, hs.2.2⟩ ho)
theorem v_lmul {z : Int64} {x : Int64}  (q : Nat) (hd : decode cc pc = .ok (.lmul, 1))  (hq : pc + 1 = q) (K : VV G d k n y cc nL ret hh q ls (pv_L (x * z) :: st) h Q) : VV G d k n y cc nL ret hh pc ls (pv_L z :: pv_L x :: st) h Q := by
  intro p e R s m args below meth c H locs cells slots h0 l0 loc a C hR hE hL hl hs ho
  subst hq
  show W p (gw_l G) e R s m args below meth c H locs cells slots _ (F0 m pc a (Value.long z :: Value.long x :: st.map (pv_c loc)))
  exact lv_lmul C.1 C.2.1 hd  (K p e R s m args below meth c H locs cells slots h0 l0 loc a C hR hE hL hl ⟨trivial, hs.2.2⟩ ho)
theorem v_lcmp {z : Int64} {x : Int64}  (q : Nat) (hd : decode cc pc = .ok (.lcmp, 1))  (hq : pc + 1 = q) (K : VV G d k n y cc nL ret hh q ls (pv_I (lg_cmp x z) :: st) h Q) : VV G d k n y cc nL ret hh pc ls (pv_L z :: pv_L x :: st) h Q := by
  intro p e R s m args below meth c H locs cells slots h0 l0 loc a C hR hE hL hl hs ho
  subst hq
  show W p (gw_l G) e R s m args below meth c H locs cells slots _ (F0 m pc a (Value.long z :: Value.long x :: st.map (pv_c loc)))
  exact W.lcmp C.1 C.2.1 hd  (K p e R s m args below meth c H locs cells slots h0 l0 loc a C hR hE hL hl ⟨trivial, hs.2.2⟩ ho)
theorem v_fcmp {z : UInt32} {x : UInt32} {o : CmpOp} (q : Nat) (hd : decode cc pc = .ok (.fcmp o, 1))  (hq : pc + 1 = q) (K : VV G d k n y cc nL ret hh q ls (pv_I (Op.cmpValue (FP.fcmp x z) o) :: st) h Q) : VV G d k n y cc nL ret hh pc ls (pv_F z :: pv_F x :: st) h Q := by
  intro p e R s m args below meth c H locs cells slots h0 l0 loc a C hR hE hL hl hs ho
  subst hq
  show W p (gw_l G) e R s m args below meth c H locs cells slots _ (F0 m pc a (Value.float z :: Value.float x :: st.map (pv_c loc)))
  exact lv_fcmp C.1 C.2.1 hd  (K p e R s m args below meth c H locs cells slots h0 l0 loc a C hR hE hL hl ⟨trivial, hs.2.2⟩ ho)
theorem v_dcmp {z : UInt64} {x : UInt64} {o : CmpOp} (q : Nat) (hd : decode cc pc = .ok (.dcmp o, 1))  (hq : pc + 1 = q) (K : VV G d k n y cc nL ret hh q ls (pv_I (Op.cmpValue (FP.dcmp x z) o) :: st) h Q) : VV G d k n y cc nL ret hh pc ls (pv_D z :: pv_D x :: st) h Q := by
  intro p e R s m args below meth c H locs cells slots h0 l0 loc a C hR hE hL hl hs ho
  subst hq
  show W p (gw_l G) e R s m args below meth c H locs cells slots _ (F0 m pc a (Value.double z :: Value.double x :: st.map (pv_c loc)))
  exact lv_dcmp C.1 C.2.1 hd  (K p e R s m args below meth c H locs cells slots h0 l0 loc a C hR hE hL hl ⟨trivial, hs.2.2⟩ ho)
theorem v_fdiv {z : UInt32} {x : UInt32}  (q : Nat) (hd : decode cc pc = .ok (.fdiv, 1)) (hne : vf_n32 (FP.fdiv x z)) (hq : pc + 1 = q) (K : VV G d k n y cc nL ret hh q ls (pv_F (FP.fdiv x z) :: st) h Q) : VV G d k n y cc nL ret hh pc ls (pv_F z :: pv_F x :: st) h Q := by
  intro p e R s m args below meth c H locs cells slots h0 l0 loc a C hR hE hL hl hs ho
  subst hq
  show W p (gw_l G) e R s m args below meth c H locs cells slots _ (F0 m pc a (Value.float z :: Value.float x :: st.map (pv_c loc)))
  exact lv_fdiv C.1 C.2.1 hd hne (K p e R s m args below meth c H locs cells slots h0 l0 loc a C hR hE hL hl ⟨trivial, hs.2.2⟩ ho)
theorem v_ddiv {z : UInt64} {x : UInt64}  (q : Nat) (hd : decode cc pc = .ok (.ddiv, 1)) (hne : vf_n64 (FP.ddiv x z)) (hq : pc + 1 = q) (K : VV G d k n y cc nL ret hh q ls (pv_D (FP.ddiv x z) :: st) h Q) : VV G d k n y cc nL ret hh pc ls (pv_D z :: pv_D x :: st) h Q := by
  intro p e R s m args below meth c H locs cells slots h0 l0 loc a C hR hE hL hl hs ho
  subst hq
  show W p (gw_l G) e R s m args below meth c H locs cells slots _ (F0 m pc a (Value.double z :: Value.double x :: st.map (pv_c loc)))
  exact lv_ddiv C.1 C.2.1 hd hne (K p e R s m args below meth c H locs cells slots h0 l0 loc a C hR hE hL hl ⟨trivial, hs.2.2⟩ ho)
theorem v_i2l {x : Int32}  (q : Nat) (hd : decode cc pc = .ok (.i2l, 1))  (hq : pc + 1 = q) (K : VV G d k n y cc nL ret hh q ls (pv_L (x.toInt64) :: st) h Q) : VV G d k n y cc nL ret hh pc ls (pv_I x :: st) h Q := by
  intro p e R s m args below meth c H locs cells slots h0 l0 loc a C hR hE hL hl hs ho
  subst hq
  show W p (gw_l G) e R s m args below meth c H locs cells slots _ (F0 m pc a (Value.int x :: st.map (pv_c loc)))
  exact lv_i2l C.1 C.2.1 hd rfl (K p e R s m args below meth c H locs cells slots h0 l0 loc a C hR hE hL hl ⟨trivial, hs.2⟩ ho)
theorem v_i2f {x : Int32}  (q : Nat) (hd : decode cc pc = .ok (.i2f, 1))  (hq : pc + 1 = q) (K : VV G d k n y cc nL ret hh q ls (pv_F (FP.i2f x) :: st) h Q) : VV G d k n y cc nL ret hh pc ls (pv_I x :: st) h Q := by
  intro p e R s m args below meth c H locs cells slots h0 l0 loc a C hR hE hL hl hs ho
  subst hq
  show W p (gw_l G) e R s m args below meth c H locs cells slots _ (F0 m pc a (Value.int x :: st.map (pv_c loc)))
  exact lv_i2f C.1 C.2.1 hd  (K p e R s m args below meth c H locs cells slots h0 l0 loc a C hR hE hL hl ⟨trivial, hs.2⟩ ho)
theorem v_i2d {x : Int32}  (q : Nat) (hd : decode cc pc = .ok (.i2d, 1))  (hq : pc + 1 = q) (K : VV G d k n y cc nL ret hh q ls (pv_D (FP.i2d x) :: st) h Q) : VV G d k n y cc nL ret hh pc ls (pv_I x :: st) h Q := by
  intro p e R s m args below meth c H locs cells slots h0 l0 loc a C hR hE hL hl hs ho
  subst hq
  show W p (gw_l G) e R s m args below meth c H locs cells slots _ (F0 m pc a (Value.int x :: st.map (pv_c loc)))
  exact lv_i2d C.1 C.2.1 hd  (K p e R s m args below meth c H locs cells slots h0 l0 loc a C hR hE hL hl ⟨trivial, hs.2⟩ ho)
theorem v_f2d {x : UInt32}  (q : Nat) (hd : decode cc pc = .ok (.f2d, 1)) (hne : vf_n64 (FP.f2d x)) (hq : pc + 1 = q) (K : VV G d k n y cc nL ret hh q ls (pv_D (FP.f2d x) :: st) h Q) : VV G d k n y cc nL ret hh pc ls (pv_F x :: st) h Q := by
  intro p e R s m args below meth c H locs cells slots h0 l0 loc a C hR hE hL hl hs ho
  subst hq
  show W p (gw_l G) e R s m args below meth c H locs cells slots _ (F0 m pc a (Value.float x :: st.map (pv_c loc)))
  exact lv_f2d C.1 C.2.1 hd hne (K p e R s m args below meth c H locs cells slots h0 l0 loc a C hR hE hL hl ⟨trivial, hs.2⟩ ho)
theorem v_i2c {x : Int32}  (q : Nat) (hd : decode cc pc = .ok (.i2c, 1))  (hq : pc + 1 = q) (K : VV G d k n y cc nL ret hh q ls (pv_I ((x.toUInt32 % 65536).toInt32) :: st) h Q) : VV G d k n y cc nL ret hh pc ls (pv_I x :: st) h Q := by
  intro p e R s m args below meth c H locs cells slots h0 l0 loc a C hR hE hL hl hs ho
  subst hq
  show W p (gw_l G) e R s m args below meth c H locs cells slots _ (F0 m pc a (Value.int x :: st.map (pv_c loc)))
  exact lv_i2c C.1 C.2.1 hd rfl (K p e R s m args below meth c H locs cells slots h0 l0 loc a C hR hE hL hl ⟨trivial, hs.2⟩ ho)
theorem v_i2b {x : Int32}  (q : Nat) (hd : decode cc pc = .ok (.i2b, 1))  (hq : pc + 1 = q) (K : VV G d k n y cc nL ret hh q ls (pv_I (x.toInt8.toInt32) :: st) h Q) : VV G d k n y cc nL ret hh pc ls (pv_I x :: st) h Q := by
  intro p e R s m args below meth c H locs cells slots h0 l0 loc a C hR hE hL hl hs ho
  subst hq
  show W p (gw_l G) e R s m args below meth c H locs cells slots _ (F0 m pc a (Value.int x :: st.map (pv_c loc)))
  exact lv_i2b C.1 C.2.1 hd rfl (K p e R s m args below meth c H locs cells slots h0 l0 loc a C hR hE hL hl ⟨trivial, hs.2⟩ ho)
theorem v_ldc2 {own : String} {ix : Nat} {v : Int64} (q : Nat) (hd : decode cc pc = .ok (.ldc2_w ix, 3)) (hw : Cond.constantLong own ix v ∈ g_ws) (ho9 : y.cls = own) (hq : pc + 3 = q) (K : VV G d k n y cc nL ret hh q ls (pv_L v :: st) h Q) : VV G d k n y cc nL ret hh pc ls st h Q := by
  intro p e R s m args below meth c H locs cells slots h0 l0 loc a C hR hE hL hl hs ho
  subst hq
  subst ho9
  exact lv_ldc2 C.1 C.2.1 C.2.2.2.2.2.2.1 (C.2.2.2.2.2.2.2.1 _ hw) hd (K p e R s m args below meth c H locs cells slots h0 l0 loc a C hR hE hL hl ⟨trivial, hs⟩ ho)
theorem v_ldci {own : String} {ix : Nat} {v : Int32} (q : Nat) (hd : decode cc pc = .ok (.ldc ix, 2)) (hw : Cond.constant own ix v ∈ g_ws) (ho9 : y.cls = own) (hq : pc + 2 = q) (K : VV G d k n y cc nL ret hh q ls (pv_I v :: st) h Q) : VV G d k n y cc nL ret hh pc ls st h Q := by
  intro p e R s m args below meth c H locs cells slots h0 l0 loc a C hR hE hL hl hs ho
  subst hq
  subst ho9
  exact lv_ldc C.1 C.2.1 C.2.2.2.2.2.2.1 (C.2.2.2.2.2.2.2.1 _ hw) hd (K p e R s m args below meth c H locs cells slots h0 l0 loc a C hR hE hL hl ⟨trivial, hs⟩ ho)
theorem v_null (q : Nat) (hd : decode cc pc = .ok (.aconst_null, 1)) (hq : pc + 1 = q) (K : VV G d k n y cc nL ret hh q ls (pv_O (0, 0) :: st) h Q) : VV G d k n y cc nL ret hh pc ls st h Q := by
  intro p e R s m args below meth c H locs cells slots h0 l0 loc a C hR hE hL hl hs ho
  subst hq
  exact lv_null C.1 C.2.1 hd (K p e R s m args below meth c H locs cells slots h0 l0 loc a C hR hE hL hl ⟨Or.inl rfl, hs⟩ ho)
theorem pv_cat (loc : Nat → Nat → Nat) (v : PV) : (pv_c loc v).category = 1 ∨ (pv_c loc v).category = 2 := lv_cat _
def pv_n (v : PV) : Bool := match v with
  | .inr (.inr (.inl _)) => false
  | .inr (.inr (.inr (.inr _))) => false
  | _ => true
theorem va_rf_cat (r : Option Nat) : (va_rf r).category = 1 := by cases r <;> rfl
theorem pv_n1 {loc : Nat → Nat → Nat} {v : PV} (h : pv_n v = true) : (pv_c loc v).category = 1 := by
  rcases v with x | r | x | x | x
  · rfl
  · exact va_rf_cat _
  · cases h
  · rfl
  · cases h
theorem pv_n2 {loc : Nat → Nat → Nat} {v : PV} (h : pv_n v = false) : (pv_c loc v).category = 2 := by
  rcases v with x | r | x | x | x
  · cases h
  · cases h
  · rfl
  · cases h
  · rfl
/-- none or a value of one place -/
def lv_n (v : Option PV) : Bool := match v with
  | none => true
  | some v => pv_n v
def lv_nw (ls : List (Option PV)) : Nat → Bool
  | 0 => true
  | i + 1 => match ls[i]? with
    | some v => lv_n v
    | none => true
def lv_la (loc : Nat → Nat → Nat) (ls : List (Option PV)) : List (Nat × Value) := (List.range ls.length).filterMap (fun i => (ls.getD i none).map (fun v => (i, pv_c loc v)))
theorem lv_la_mem {loc : Nat → Nat → Nat} {ls : List (Option PV)} {i : Nat} {v : PV} (h : ls[i]? = some (some v)) : (i, pv_c loc v) ∈ lv_la loc ls := by
  have hi : i < ls.length := (List.getElem?_eq_some_iff.mp h).1
  refine List.mem_filterMap.mpr ⟨i, List.mem_range.mpr hi, ?_⟩
  simp [List.getD, h]
theorem lv_la_of {loc : Nat → Nat → Nat} {ls : List (Option PV)} {q : Nat × Value} (h : q ∈ lv_la loc ls) : ∃ v, ls[q.1]? = some (some v) ∧ q.2 = pv_c loc v := by
  obtain ⟨i, hi, h⟩ := List.mem_filterMap.mp h
  have hi := List.mem_range.mp hi
  rw [List.getD, List.getElem?_eq_getElem hi] at h
  simp only [Option.getD_some] at h
  cases hv : ls[i] with
  | none => rw [hv] at h; simp at h
  | some v =>
    rw [hv] at h
    simp at h
    subst h
    exact ⟨v, by rw [List.getElem?_eq_getElem hi, hv], rfl⟩
theorem lv_ok.has {loc : Nat → Nat → Nat} {a : Array Slot} {ls : List (Option PV)} {nL : Nat} (h : lv_ok loc a nL ls) : lv_has a nL (lv_la loc ls) := by
  refine ⟨h.1, h.2.1, fun q hq => ?_⟩
  obtain ⟨v, h1, h2⟩ := lv_la_of hq
  rw [h2]
  exact h.2.2 _ _ h1
theorem lv_ok.put1 {loc : Nat → Nat → Nat} {a : Array Slot} {ls : List (Option PV)} {nL i : Nat} {v : PV} {w : Value} (hw : w = pv_c loc v) (hn : lv_nw ls i = true)
    (h : lv_has a nL ((i, w) :: (lv_la loc ls).filter (fun q => !(q.1 == i) && !(q.1 + 1 == i && q.2.category == 2)))) : lv_ok loc a nL (ls.set i (some v)) := by
  refine ⟨h.1, h.2.1, fun j u hj => ?_⟩
  rw [List.getElem?_set] at hj
  by_cases e : i = j
  · subst e
    rw [if_pos rfl] at hj
    split at hj
    · cases hj
      rw [← hw]
      exact h.2.2 _ List.mem_cons_self
    · cases hj
  · rw [if_neg e] at hj
    refine h.2.2 (j, pv_c loc u) (List.mem_cons_of_mem _ (List.mem_filter.mpr ⟨lv_la_mem hj, ?_⟩))
    have h1 : (j == i) = false := by simpa using fun q => e q.symm
    have h2 : (j + 1 == i && (pv_c loc u).category == 2) = false := by
      by_cases e2 : j + 1 = i
      · subst e2
        simp only [lv_nw, hj, lv_n] at hn
        rw [pv_n1 hn]
        simp
      · simp [e2]
    simp only [h1, h2]
    rfl
theorem lv_ok.put2 {loc : Nat → Nat → Nat} {a : Array Slot} {ls : List (Option PV)} {nL i : Nat} {v : PV} {w : Value} (hw : w = pv_c loc v) (hn : lv_nw ls i = true)
    (h : lv_has a nL ((i, w) :: (lv_la loc ls).filter (fun q => !(q.1 == i) && (!(q.1 == i + 1) && !(q.1 + 1 == i && q.2.category == 2))))) : lv_ok loc a nL ((ls.set i (some v)).set (i + 1) none) := by
  refine ⟨h.1, h.2.1, fun j u hj => ?_⟩
  rw [List.getElem?_set, List.getElem?_set] at hj
  by_cases e3 : i + 1 = j
  · rw [if_pos e3] at hj
    split at hj <;> cases hj
  · rw [if_neg e3] at hj
    by_cases e : i = j
    · subst e
      rw [if_pos rfl] at hj
      split at hj
      · cases hj
        rw [← hw]
        exact h.2.2 _ List.mem_cons_self
      · cases hj
    · rw [if_neg e] at hj
      refine h.2.2 (j, pv_c loc u) (List.mem_cons_of_mem _ (List.mem_filter.mpr ⟨lv_la_mem hj, ?_⟩))
      have h1 : (j == i) = false := by simpa using fun q => e q.symm
      have h3 : (j == i + 1) = false := by simpa using fun q => e3 q.symm
      have h2 : (j + 1 == i && (pv_c loc u).category == 2) = false := by
        by_cases e2 : j + 1 = i
        · subst e2
          simp only [lv_nw, hj, lv_n] at hn
          rw [pv_n1 hn]
          simp
        · simp [e2]
      simp only [h1, h2, h3]
      rfl
theorem ok_l.at {h : PH} {ls : List (Option PV)} {i : Nat} {v : PV} (h0 : ok_l h ls) (hi : ls[i]? = some (some v)) : ok_v h v := by
  induction ls generalizing i with
  | nil => simp at hi
  | cons w l ih =>
    cases i with
    | zero =>
      simp at hi
      subst hi
      exact h0.1
    | succ j =>
      simp at hi
      cases w with
      | none => exact ih h0 hi
      | some u => exact ih h0.2 hi
theorem ok_l.put {h : PH} {ls : List (Option PV)} {i : Nat} {v : Option PV} (h0 : ok_l h ls) (hv : ∀ w, v = some w → ok_v h w) : ok_l h (ls.set i v) := by
  induction ls generalizing i with
  | nil => exact h0
  | cons w l ih =>
    cases i with
    | zero =>
      cases v with
      | none => cases w with
        | none => exact h0
        | some u => exact h0.2
      | some u => cases w with
        | none => exact ⟨hv u rfl, h0⟩
        | some u2 => exact ⟨hv u rfl, h0.2⟩
    | succ j =>
      cases w with
      | none => exact ih h0
      | some u => exact ⟨h0.1, ih h0.2⟩
theorem v_iload_n {x : Int32} {j : Fin 4} (q : Nat) (hd : decode cc pc = .ok (.iload_n j, 1)) (hv : ls[(j : Nat)]? = some (some (pv_I x))) (hq : pc + 1 = q) (K : VV G d k n y cc nL ret hh q ls (pv_I x :: st) h Q) : VV G d k n y cc nL ret hh pc ls st h Q := by
  intro p e R s m args below meth c H locs cells slots h0 l0 loc a C hR hE hL hl hs ho
  subst hq
  exact lv_iload_n C.1 C.2.1 hd rfl (hl.2.2 _ _ hv) (K p e R s m args below meth c H locs cells slots h0 l0 loc a C hR hE hL hl ⟨trivial, hs⟩ ho)
theorem v_iload {x : Int32} {j : Nat} (q : Nat) (hd : decode cc pc = .ok (.iload j, 2)) (hv : ls[j]? = some (some (pv_I x))) (hq : pc + 2 = q) (K : VV G d k n y cc nL ret hh q ls (pv_I x :: st) h Q) : VV G d k n y cc nL ret hh pc ls st h Q := by
  intro p e R s m args below meth c H locs cells slots h0 l0 loc a C hR hE hL hl hs ho
  subst hq
  exact lv_iload C.1 C.2.1 hd (hl.2.2 _ _ hv) (K p e R s m args below meth c H locs cells slots h0 l0 loc a C hR hE hL hl ⟨trivial, hs⟩ ho)
theorem v_istore_n {x : Int32} {j : Fin 4} (q : Nat) (hd : decode cc pc = .ok (.istore_n j, 1)) (hn : (j : Nat) < nL) (hp : lv_nw ls (j : Nat) = true) (hq : pc + 1 = q) (K : VV G d k n y cc nL ret hh q (ls.set (j : Nat) (some (pv_I x))) st h Q) : VV G d k n y cc nL ret hh pc ls (pv_I x :: st) h Q := by
  intro p e R s m args below meth c H locs cells slots h0 l0 loc a C hR hE hL hl hs ho
  subst hq
  show W p (gw_l G) e R s m args below meth c H locs cells slots _ (F0 m pc a (Value.int x :: st.map (pv_c loc)))
  exact lv_istore_n C.1 C.2.1 hd rfl hl.has hn rfl (fun a2 h2 => K p e R s m args below meth c H locs cells slots h0 l0 loc a2 C hR hE hL (lv_ok.put1 (v := pv_I x) rfl hp h2) hs.2 (ho.put (fun _ h9 => by cases h9; trivial)))
theorem v_istore {x : Int32} {j : Nat} (q : Nat) (hd : decode cc pc = .ok (.istore j, 2)) (hn : j < nL) (hp : lv_nw ls j = true) (hq : pc + 2 = q) (K : VV G d k n y cc nL ret hh q (ls.set j (some (pv_I x))) st h Q) : VV G d k n y cc nL ret hh pc ls (pv_I x :: st) h Q := by
  intro p e R s m args below meth c H locs cells slots h0 l0 loc a C hR hE hL hl hs ho
  subst hq
  show W p (gw_l G) e R s m args below meth c H locs cells slots _ (F0 m pc a (Value.int x :: st.map (pv_c loc)))
  exact lv_istore C.1 C.2.1 hd hl.has hn rfl (fun a2 h2 => K p e R s m args below meth c H locs cells slots h0 l0 loc a2 C hR hE hL (lv_ok.put1 (v := pv_I x) rfl hp h2) hs.2 (ho.put (fun _ h9 => by cases h9; trivial)))
theorem v_lload_n {x : Int64} {j : Fin 4} (q : Nat) (hd : decode cc pc = .ok (.lload_n j, 1)) (hv : ls[(j : Nat)]? = some (some (pv_L x))) (hq : pc + 1 = q) (K : VV G d k n y cc nL ret hh q ls (pv_L x :: st) h Q) : VV G d k n y cc nL ret hh pc ls st h Q := by
  intro p e R s m args below meth c H locs cells slots h0 l0 loc a C hR hE hL hl hs ho
  subst hq
  exact lv_lload_n C.1 C.2.1 hd rfl (hl.2.2 _ _ hv) (K p e R s m args below meth c H locs cells slots h0 l0 loc a C hR hE hL hl ⟨trivial, hs⟩ ho)
theorem v_lload {x : Int64} {j : Nat} (q : Nat) (hd : decode cc pc = .ok (.lload j, 2)) (hv : ls[j]? = some (some (pv_L x))) (hq : pc + 2 = q) (K : VV G d k n y cc nL ret hh q ls (pv_L x :: st) h Q) : VV G d k n y cc nL ret hh pc ls st h Q := by
  intro p e R s m args below meth c H locs cells slots h0 l0 loc a C hR hE hL hl hs ho
  subst hq
  exact lv_lload C.1 C.2.1 hd (hl.2.2 _ _ hv) (K p e R s m args below meth c H locs cells slots h0 l0 loc a C hR hE hL hl ⟨trivial, hs⟩ ho)
theorem v_lstore_n {x : Int64} {j : Fin 4} (q : Nat) (hd : decode cc pc = .ok (.lstore_n j, 1)) (hn : (j : Nat) + 1 < nL) (hp : lv_nw ls (j : Nat) = true) (hq : pc + 1 = q) (K : VV G d k n y cc nL ret hh q ((ls.set (j : Nat) (some (pv_L x))).set ((j : Nat) + 1) none) st h Q) : VV G d k n y cc nL ret hh pc ls (pv_L x :: st) h Q := by
  intro p e R s m args below meth c H locs cells slots h0 l0 loc a C hR hE hL hl hs ho
  subst hq
  show W p (gw_l G) e R s m args below meth c H locs cells slots _ (F0 m pc a (Value.long x :: st.map (pv_c loc)))
  exact lv_lstore_n C.1 C.2.1 hd rfl hl.has hn rfl (fun a2 h2 => K p e R s m args below meth c H locs cells slots h0 l0 loc a2 C hR hE hL (lv_ok.put2 (v := pv_L x) rfl hp h2) hs.2 ((ho.put (fun _ h9 => by cases h9; trivial)).put (fun _ h9 => by cases h9)))
theorem v_lstore {x : Int64} {j : Nat} (q : Nat) (hd : decode cc pc = .ok (.lstore j, 2)) (hn : j + 1 < nL) (hp : lv_nw ls j = true) (hq : pc + 2 = q) (K : VV G d k n y cc nL ret hh q ((ls.set j (some (pv_L x))).set (j + 1) none) st h Q) : VV G d k n y cc nL ret hh pc ls (pv_L x :: st) h Q := by
  intro p e R s m args below meth c H locs cells slots h0 l0 loc a C hR hE hL hl hs ho
  subst hq
  show W p (gw_l G) e R s m args below meth c H locs cells slots _ (F0 m pc a (Value.long x :: st.map (pv_c loc)))
  exact lv_lstore C.1 C.2.1 hd hl.has hn rfl (fun a2 h2 => K p e R s m args below meth c H locs cells slots h0 l0 loc a2 C hR hE hL (lv_ok.put2 (v := pv_L x) rfl hp h2) hs.2 ((ho.put (fun _ h9 => by cases h9; trivial)).put (fun _ h9 => by cases h9)))
theorem v_fload_n {x : UInt32} {j : Fin 4} (q : Nat) (hd : decode cc pc = .ok (.fload_n j, 1)) (hv : ls[(j : Nat)]? = some (some (pv_F x))) (hq : pc + 1 = q) (K : VV G d k n y cc nL ret hh q ls (pv_F x :: st) h Q) : VV G d k n y cc nL ret hh pc ls st h Q := by
  intro p e R s m args below meth c H locs cells slots h0 l0 loc a C hR hE hL hl hs ho
  subst hq
  exact lv_fload_n C.1 C.2.1 hd rfl (hl.2.2 _ _ hv) (K p e R s m args below meth c H locs cells slots h0 l0 loc a C hR hE hL hl ⟨trivial, hs⟩ ho)
theorem v_fload {x : UInt32} {j : Nat} (q : Nat) (hd : decode cc pc = .ok (.fload j, 2)) (hv : ls[j]? = some (some (pv_F x))) (hq : pc + 2 = q) (K : VV G d k n y cc nL ret hh q ls (pv_F x :: st) h Q) : VV G d k n y cc nL ret hh pc ls st h Q := by
  intro p e R s m args below meth c H locs cells slots h0 l0 loc a C hR hE hL hl hs ho
  subst hq
  exact lv_fload C.1 C.2.1 hd (hl.2.2 _ _ hv) (K p e R s m args below meth c H locs cells slots h0 l0 loc a C hR hE hL hl ⟨trivial, hs⟩ ho)
theorem v_fstore_n {x : UInt32} {j : Fin 4} (q : Nat) (hd : decode cc pc = .ok (.fstore_n j, 1)) (hn : (j : Nat) < nL) (hp : lv_nw ls (j : Nat) = true) (hq : pc + 1 = q) (K : VV G d k n y cc nL ret hh q (ls.set (j : Nat) (some (pv_F x))) st h Q) : VV G d k n y cc nL ret hh pc ls (pv_F x :: st) h Q := by
  intro p e R s m args below meth c H locs cells slots h0 l0 loc a C hR hE hL hl hs ho
  subst hq
  show W p (gw_l G) e R s m args below meth c H locs cells slots _ (F0 m pc a (Value.float x :: st.map (pv_c loc)))
  exact lv_fstore_n C.1 C.2.1 hd rfl hl.has hn rfl (fun a2 h2 => K p e R s m args below meth c H locs cells slots h0 l0 loc a2 C hR hE hL (lv_ok.put1 (v := pv_F x) rfl hp h2) hs.2 (ho.put (fun _ h9 => by cases h9; trivial)))
theorem v_fstore {x : UInt32} {j : Nat} (q : Nat) (hd : decode cc pc = .ok (.fstore j, 2)) (hn : j < nL) (hp : lv_nw ls j = true) (hq : pc + 2 = q) (K : VV G d k n y cc nL ret hh q (ls.set j (some (pv_F x))) st h Q) : VV G d k n y cc nL ret hh pc ls (pv_F x :: st) h Q := by
  intro p e R s m args below meth c H locs cells slots h0 l0 loc a C hR hE hL hl hs ho
  subst hq
  show W p (gw_l G) e R s m args below meth c H locs cells slots _ (F0 m pc a (Value.float x :: st.map (pv_c loc)))
  exact lv_fstore C.1 C.2.1 hd hl.has hn rfl (fun a2 h2 => K p e R s m args below meth c H locs cells slots h0 l0 loc a2 C hR hE hL (lv_ok.put1 (v := pv_F x) rfl hp h2) hs.2 (ho.put (fun _ h9 => by cases h9; trivial)))
theorem v_dload_n {x : UInt64} {j : Fin 4} (q : Nat) (hd : decode cc pc = .ok (.dload_n j, 1)) (hv : ls[(j : Nat)]? = some (some (pv_D x))) (hq : pc + 1 = q) (K : VV G d k n y cc nL ret hh q ls (pv_D x :: st) h Q) : VV G d k n y cc nL ret hh pc ls st h Q := by
  intro p e R s m args below meth c H locs cells slots h0 l0 loc a C hR hE hL hl hs ho
  subst hq
  exact lv_dload_n C.1 C.2.1 hd rfl (hl.2.2 _ _ hv) (K p e R s m args below meth c H locs cells slots h0 l0 loc a C hR hE hL hl ⟨trivial, hs⟩ ho)
theorem v_dload {x : UInt64} {j : Nat} (q : Nat) (hd : decode cc pc = .ok (.dload j, 2)) (hv : ls[j]? = some (some (pv_D x))) (hq : pc + 2 = q) (K : VV G d k n y cc nL ret hh q ls (pv_D x :: st) h Q) : VV G d k n y cc nL ret hh pc ls st h Q := by
  intro p e R s m args below meth c H locs cells slots h0 l0 loc a C hR hE hL hl hs ho
  subst hq
  exact lv_dload C.1 C.2.1 hd (hl.2.2 _ _ hv) (K p e R s m args below meth c H locs cells slots h0 l0 loc a C hR hE hL hl ⟨trivial, hs⟩ ho)
theorem v_dstore_n {x : UInt64} {j : Fin 4} (q : Nat) (hd : decode cc pc = .ok (.dstore_n j, 1)) (hn : (j : Nat) + 1 < nL) (hp : lv_nw ls (j : Nat) = true) (hq : pc + 1 = q) (K : VV G d k n y cc nL ret hh q ((ls.set (j : Nat) (some (pv_D x))).set ((j : Nat) + 1) none) st h Q) : VV G d k n y cc nL ret hh pc ls (pv_D x :: st) h Q := by
  intro p e R s m args below meth c H locs cells slots h0 l0 loc a C hR hE hL hl hs ho
  subst hq
  show W p (gw_l G) e R s m args below meth c H locs cells slots _ (F0 m pc a (Value.double x :: st.map (pv_c loc)))
  exact lv_dstore_n C.1 C.2.1 hd rfl hl.has hn rfl (fun a2 h2 => K p e R s m args below meth c H locs cells slots h0 l0 loc a2 C hR hE hL (lv_ok.put2 (v := pv_D x) rfl hp h2) hs.2 ((ho.put (fun _ h9 => by cases h9; trivial)).put (fun _ h9 => by cases h9)))
theorem v_dstore {x : UInt64} {j : Nat} (q : Nat) (hd : decode cc pc = .ok (.dstore j, 2)) (hn : j + 1 < nL) (hp : lv_nw ls j = true) (hq : pc + 2 = q) (K : VV G d k n y cc nL ret hh q ((ls.set j (some (pv_D x))).set (j + 1) none) st h Q) : VV G d k n y cc nL ret hh pc ls (pv_D x :: st) h Q := by
  intro p e R s m args below meth c H locs cells slots h0 l0 loc a C hR hE hL hl hs ho
  subst hq
  show W p (gw_l G) e R s m args below meth c H locs cells slots _ (F0 m pc a (Value.double x :: st.map (pv_c loc)))
  exact lv_dstore C.1 C.2.1 hd hl.has hn rfl (fun a2 h2 => K p e R s m args below meth c H locs cells slots h0 l0 loc a2 C hR hE hL (lv_ok.put2 (v := pv_D x) rfl hp h2) hs.2 ((ho.put (fun _ h9 => by cases h9; trivial)).put (fun _ h9 => by cases h9)))
theorem v_aload_n {r : RN} {j : Fin 4} (q : Nat) (hd : decode cc pc = .ok (.aload_n j, 1)) (hv : ls[(j : Nat)]? = some (some (pv_O r))) (hq : pc + 1 = q) (K : VV G d k n y cc nL ret hh q ls (pv_O r :: st) h Q) : VV G d k n y cc nL ret hh pc ls st h Q := by
  intro p e R s m args below meth c H locs cells slots h0 l0 loc a C hR hE hL hl hs ho
  subst hq
  have h1 := hl.2.2 _ _ hv
  have h2 := K p e R s m args below meth c H locs cells slots h0 l0 loc a C hR hE hL hl ⟨ho.at hv, hs⟩ ho
  have h3 : pv_c loc (pv_O r) = va_rf (hp_ro loc r) := rfl
  rw [List.map_cons, h3] at h2
  rw [h3] at h1
  cases hr : hp_ro loc r with
  | none => rw [hr] at h1 h2; exact lv_aload_nN C.1 C.2.1 hd rfl h1 h2
  | some a9 => rw [hr] at h1 h2; exact lv_aload_n C.1 C.2.1 hd rfl h1 h2
theorem v_astore_n {r : RN} {j : Fin 4} (q : Nat) (hd : decode cc pc = .ok (.astore_n j, 1)) (hn : (j : Nat) < nL) (hp : lv_nw ls (j : Nat) = true) (hq : pc + 1 = q) (K : VV G d k n y cc nL ret hh q (ls.set (j : Nat) (some (pv_O r))) st h Q) : VV G d k n y cc nL ret hh pc ls (pv_O r :: st) h Q := by
  intro p e R s m args below meth c H locs cells slots h0 l0 loc a C hR hE hL hl hs ho
  subst hq
  have h2 : ∀ a2 : Array Slot, lv_ok loc a2 nL (ls.set (j : Nat) (some (pv_O r))) → _ := fun a2 h2 => K p e R s m args below meth c H locs cells slots h0 l0 loc a2 C hR hE hL h2 hs.2 (ho.put (fun _ h9 => by cases h9; exact hs.1))
  show W p (gw_l G) e R s m args below meth c H locs cells slots _ (F0 m pc a (va_rf (hp_ro loc r) :: st.map (pv_c loc)))
  cases hr : hp_ro loc r with
  | none => exact lv_astore_nN C.1 C.2.1 hd rfl hl.has hn rfl (fun a2 h3 => h2 a2 (lv_ok.put1 (v := pv_O r) (by show Value.null = va_rf (hp_ro loc r); rw [hr]; rfl) hp h3))
  | some a9 => exact lv_astore_n C.1 C.2.1 hd rfl hl.has hn rfl (fun a2 h3 => h2 a2 (lv_ok.put1 (v := pv_O r) (by show Value.ref a9 = va_rf (hp_ro loc r); rw [hr]; rfl) hp h3))
theorem v_aload {r : RN} {j : Nat} (q : Nat) (hd : decode cc pc = .ok (.aload j, 2)) (hv : ls[j]? = some (some (pv_O r))) (hq : pc + 2 = q) (K : VV G d k n y cc nL ret hh q ls (pv_O r :: st) h Q) : VV G d k n y cc nL ret hh pc ls st h Q := by
  intro p e R s m args below meth c H locs cells slots h0 l0 loc a C hR hE hL hl hs ho
  subst hq
  have h1 := hl.2.2 _ _ hv
  have h2 := K p e R s m args below meth c H locs cells slots h0 l0 loc a C hR hE hL hl ⟨ho.at hv, hs⟩ ho
  have h3 : pv_c loc (pv_O r) = va_rf (hp_ro loc r) := rfl
  rw [List.map_cons, h3] at h2
  rw [h3] at h1
  cases hr : hp_ro loc r with
  | none => rw [hr] at h1 h2; exact lv_aloadN C.1 C.2.1 hd h1 h2
  | some a9 => rw [hr] at h1 h2; exact lv_aload C.1 C.2.1 hd h1 h2
theorem v_astore {r : RN} {j : Nat} (q : Nat) (hd : decode cc pc = .ok (.astore j, 2)) (hn : j < nL) (hp : lv_nw ls j = true) (hq : pc + 2 = q) (K : VV G d k n y cc nL ret hh q (ls.set j (some (pv_O r))) st h Q) : VV G d k n y cc nL ret hh pc ls (pv_O r :: st) h Q := by
  intro p e R s m args below meth c H locs cells slots h0 l0 loc a C hR hE hL hl hs ho
  subst hq
  have h2 : ∀ a2 : Array Slot, lv_ok loc a2 nL (ls.set j (some (pv_O r))) → _ := fun a2 h2 => K p e R s m args below meth c H locs cells slots h0 l0 loc a2 C hR hE hL h2 hs.2 (ho.put (fun _ h9 => by cases h9; exact hs.1))
  show W p (gw_l G) e R s m args below meth c H locs cells slots _ (F0 m pc a (va_rf (hp_ro loc r) :: st.map (pv_c loc)))
  cases hr : hp_ro loc r with
  | none => exact lv_astoreN C.1 C.2.1 hd hl.has hn rfl (fun a2 h3 => h2 a2 (lv_ok.put1 (v := pv_O r) (by show Value.null = va_rf (hp_ro loc r); rw [hr]; rfl) hp h3))
  | some a9 => exact lv_astore C.1 C.2.1 hd hl.has hn rfl (fun a2 h3 => h2 a2 (lv_ok.put1 (v := pv_O r) (by show Value.ref a9 = va_rf (hp_ro loc r); rw [hr]; rfl) hp h3))
theorem v_iinc {x : Int32} {j : Nat} {z : Int} (q : Nat) (hd : decode cc pc = .ok (.iinc j z, 3)) (hv : ls[j]? = some (some (pv_I x))) (hn : j < nL) (hp : lv_nw ls j = true) (hq : pc + 3 = q) (K : VV G d k n y cc nL ret hh q (ls.set j (some (pv_I (x + Int32.ofInt z)))) st h Q) : VV G d k n y cc nL ret hh pc ls st h Q := by
  intro p e R s m args below meth c H locs cells slots h0 l0 loc a C hR hE hL hl hs ho
  subst hq
  obtain ⟨k9, hk9⟩ := List.getElem?_of_mem (lv_la_mem (loc := loc) hv)
  exact lv_iinc C.1 C.2.1 hd hl.has hk9 rfl hn rfl (fun a2 h2 => K p e R s m args below meth c H locs cells slots h0 l0 loc a2 C hR hE hL (lv_ok.put1 (v := pv_I (x + Int32.ofInt z)) rfl hp h2) hs (ho.put (fun _ h9 => by cases h9; trivial)))
theorem v_pop {v : PV} (q : Nat) (hd : decode cc pc = .ok (.pop, 1)) (hv : pv_n v = true) (hq : pc + 1 = q) (K : VV G d k n y cc nL ret hh q ls st h Q) : VV G d k n y cc nL ret hh pc ls (v :: st) h Q := by
  intro p e R s m args below meth c H locs cells slots h0 l0 loc a C hR hE hL hl hs ho
  subst hq
  exact lv_pop C.1 C.2.1 hd (pv_n1 hv) (K p e R s m args below meth c H locs cells slots h0 l0 loc a C hR hE hL hl hs.2 ho)
theorem v_dup {v : PV} (q : Nat) (hd : decode cc pc = .ok (.dup, 1)) (hv : pv_n v = true) (hq : pc + 1 = q) (K : VV G d k n y cc nL ret hh q ls (v :: v :: st) h Q) : VV G d k n y cc nL ret hh pc ls (v :: st) h Q := by
  intro p e R s m args below meth c H locs cells slots h0 l0 loc a C hR hE hL hl hs ho
  subst hq
  exact lv_dup C.1 C.2.1 hd (pv_n1 hv) (K p e R s m args below meth c H locs cells slots h0 l0 loc a C hR hE hL hl ⟨hs.1, hs⟩ ho)
theorem v_dup_x1 {v w : PV} (q : Nat) (hd : decode cc pc = .ok (.dup_x1, 1)) (hv : pv_n v = true) (hw : pv_n w = true) (hq : pc + 1 = q) (K : VV G d k n y cc nL ret hh q ls (v :: w :: v :: st) h Q) : VV G d k n y cc nL ret hh pc ls (v :: w :: st) h Q := by
  intro p e R s m args below meth c H locs cells slots h0 l0 loc a C hR hE hL hl hs ho
  subst hq
  exact lv_dup_x1 C.1 C.2.1 hd (pv_n1 hv) (pv_n1 hw) (K p e R s m args below meth c H locs cells slots h0 l0 loc a C hR hE hL hl ⟨hs.1, hs.2.1, hs.1, hs.2.2⟩ ho)
theorem v_if_eq {x : Int32} {off : Int} (t q : Nat) (hd : decode cc pc = .ok (.ifCond .eq off, 3)) (ht : (pc : Int) + off = (t : Int)) (hq : pc + 3 = q) (KT : (x = 0) → VV G d k n y cc nL ret hh t ls st h Q) (KF : (¬ x = 0) → VV G d k n y cc nL ret hh q ls st h Q) : VV G d k n y cc nL ret hh pc ls (pv_I x :: st) h Q := by
  intro p e R s m args below meth c H locs cells slots h0 l0 loc a C hR hE hL hl hs ho
  subst hq
  exact lv_if_eq C.1 C.2.1 hd ht (fun c9 => KT c9 p e R s m args below meth c H locs cells slots h0 l0 loc a C hR hE hL hl hs.2 ho) (fun c9 => KF c9 p e R s m args below meth c H locs cells slots h0 l0 loc a C hR hE hL hl hs.2 ho)
theorem v_if_ne {x : Int32} {off : Int} (t q : Nat) (hd : decode cc pc = .ok (.ifCond .ne off, 3)) (ht : (pc : Int) + off = (t : Int)) (hq : pc + 3 = q) (KT : (¬ x = 0) → VV G d k n y cc nL ret hh t ls st h Q) (KF : (x = 0) → VV G d k n y cc nL ret hh q ls st h Q) : VV G d k n y cc nL ret hh pc ls (pv_I x :: st) h Q := by
  intro p e R s m args below meth c H locs cells slots h0 l0 loc a C hR hE hL hl hs ho
  subst hq
  exact lv_if_ne C.1 C.2.1 hd ht (fun c9 => KT c9 p e R s m args below meth c H locs cells slots h0 l0 loc a C hR hE hL hl hs.2 ho) (fun c9 => KF c9 p e R s m args below meth c H locs cells slots h0 l0 loc a C hR hE hL hl hs.2 ho)
theorem v_if_lt {x : Int32} {off : Int} (t q : Nat) (hd : decode cc pc = .ok (.ifCond .lt off, 3)) (ht : (pc : Int) + off = (t : Int)) (hq : pc + 3 = q) (KT : (x < 0) → VV G d k n y cc nL ret hh t ls st h Q) (KF : (¬ x < 0) → VV G d k n y cc nL ret hh q ls st h Q) : VV G d k n y cc nL ret hh pc ls (pv_I x :: st) h Q := by
  intro p e R s m args below meth c H locs cells slots h0 l0 loc a C hR hE hL hl hs ho
  subst hq
  exact lv_if_lt C.1 C.2.1 hd ht (fun c9 => KT c9 p e R s m args below meth c H locs cells slots h0 l0 loc a C hR hE hL hl hs.2 ho) (fun c9 => KF c9 p e R s m args below meth c H locs cells slots h0 l0 loc a C hR hE hL hl hs.2 ho)
theorem v_if_ge {x : Int32} {off : Int} (t q : Nat) (hd : decode cc pc = .ok (.ifCond .ge off, 3)) (ht : (pc : Int) + off = (t : Int)) (hq : pc + 3 = q) (KT : (0 ≤ x) → VV G d k n y cc nL ret hh t ls st h Q) (KF : (¬ 0 ≤ x) → VV G d k n y cc nL ret hh q ls st h Q) : VV G d k n y cc nL ret hh pc ls (pv_I x :: st) h Q := by
  intro p e R s m args below meth c H locs cells slots h0 l0 loc a C hR hE hL hl hs ho
  subst hq
  exact lv_if_ge C.1 C.2.1 hd ht (fun c9 => KT c9 p e R s m args below meth c H locs cells slots h0 l0 loc a C hR hE hL hl hs.2 ho) (fun c9 => KF c9 p e R s m args below meth c H locs cells slots h0 l0 loc a C hR hE hL hl hs.2 ho)
theorem v_if_gt {x : Int32} {off : Int} (t q : Nat) (hd : decode cc pc = .ok (.ifCond .gt off, 3)) (ht : (pc : Int) + off = (t : Int)) (hq : pc + 3 = q) (KT : (0 < x) → VV G d k n y cc nL ret hh t ls st h Q) (KF : (¬ 0 < x) → VV G d k n y cc nL ret hh q ls st h Q) : VV G d k n y cc nL ret hh pc ls (pv_I x :: st) h Q := by
  intro p e R s m args below meth c H locs cells slots h0 l0 loc a C hR hE hL hl hs ho
  subst hq
  exact lv_if_gt C.1 C.2.1 hd ht (fun c9 => KT c9 p e R s m args below meth c H locs cells slots h0 l0 loc a C hR hE hL hl hs.2 ho) (fun c9 => KF c9 p e R s m args below meth c H locs cells slots h0 l0 loc a C hR hE hL hl hs.2 ho)
theorem v_if_le {x : Int32} {off : Int} (t q : Nat) (hd : decode cc pc = .ok (.ifCond .le off, 3)) (ht : (pc : Int) + off = (t : Int)) (hq : pc + 3 = q) (KT : (x ≤ 0) → VV G d k n y cc nL ret hh t ls st h Q) (KF : (¬ x ≤ 0) → VV G d k n y cc nL ret hh q ls st h Q) : VV G d k n y cc nL ret hh pc ls (pv_I x :: st) h Q := by
  intro p e R s m args below meth c H locs cells slots h0 l0 loc a C hR hE hL hl hs ho
  subst hq
  exact lv_if_le C.1 C.2.1 hd ht (fun c9 => KT c9 p e R s m args below meth c H locs cells slots h0 l0 loc a C hR hE hL hl hs.2 ho) (fun c9 => KF c9 p e R s m args below meth c H locs cells slots h0 l0 loc a C hR hE hL hl hs.2 ho)
theorem v_icmp_eq {x z : Int32} {off : Int} (t q : Nat) (hd : decode cc pc = .ok (.if_icmp .eq off, 3)) (ht : (pc : Int) + off = (t : Int)) (hq : pc + 3 = q) (KT : (x = z) → VV G d k n y cc nL ret hh t ls st h Q) (KF : (¬ x = z) → VV G d k n y cc nL ret hh q ls st h Q) : VV G d k n y cc nL ret hh pc ls (pv_I z :: pv_I x :: st) h Q := by
  intro p e R s m args below meth c H locs cells slots h0 l0 loc a C hR hE hL hl hs ho
  subst hq
  exact lv_icmp_eq C.1 C.2.1 hd ht (fun c9 => KT c9 p e R s m args below meth c H locs cells slots h0 l0 loc a C hR hE hL hl hs.2.2 ho) (fun c9 => KF c9 p e R s m args below meth c H locs cells slots h0 l0 loc a C hR hE hL hl hs.2.2 ho)
theorem v_icmp_ne {x z : Int32} {off : Int} (t q : Nat) (hd : decode cc pc = .ok (.if_icmp .ne off, 3)) (ht : (pc : Int) + off = (t : Int)) (hq : pc + 3 = q) (KT : (¬ x = z) → VV G d k n y cc nL ret hh t ls st h Q) (KF : (x = z) → VV G d k n y cc nL ret hh q ls st h Q) : VV G d k n y cc nL ret hh pc ls (pv_I z :: pv_I x :: st) h Q := by
  intro p e R s m args below meth c H locs cells slots h0 l0 loc a C hR hE hL hl hs ho
  subst hq
  exact lv_icmp_ne C.1 C.2.1 hd ht (fun c9 => KT c9 p e R s m args below meth c H locs cells slots h0 l0 loc a C hR hE hL hl hs.2.2 ho) (fun c9 => KF c9 p e R s m args below meth c H locs cells slots h0 l0 loc a C hR hE hL hl hs.2.2 ho)
theorem v_icmp_lt {x z : Int32} {off : Int} (t q : Nat) (hd : decode cc pc = .ok (.if_icmp .lt off, 3)) (ht : (pc : Int) + off = (t : Int)) (hq : pc + 3 = q) (KT : (x < z) → VV G d k n y cc nL ret hh t ls st h Q) (KF : (¬ x < z) → VV G d k n y cc nL ret hh q ls st h Q) : VV G d k n y cc nL ret hh pc ls (pv_I z :: pv_I x :: st) h Q := by
  intro p e R s m args below meth c H locs cells slots h0 l0 loc a C hR hE hL hl hs ho
  subst hq
  exact lv_icmp_lt C.1 C.2.1 hd ht (fun c9 => KT c9 p e R s m args below meth c H locs cells slots h0 l0 loc a C hR hE hL hl hs.2.2 ho) (fun c9 => KF c9 p e R s m args below meth c H locs cells slots h0 l0 loc a C hR hE hL hl hs.2.2 ho)
theorem v_icmp_ge {x z : Int32} {off : Int} (t q : Nat) (hd : decode cc pc = .ok (.if_icmp .ge off, 3)) (ht : (pc : Int) + off = (t : Int)) (hq : pc + 3 = q) (KT : (z ≤ x) → VV G d k n y cc nL ret hh t ls st h Q) (KF : (¬ z ≤ x) → VV G d k n y cc nL ret hh q ls st h Q) : VV G d k n y cc nL ret hh pc ls (pv_I z :: pv_I x :: st) h Q := by
  intro p e R s m args below meth c H locs cells slots h0 l0 loc a C hR hE hL hl hs ho
  subst hq
  exact lv_icmp_ge C.1 C.2.1 hd ht (fun c9 => KT c9 p e R s m args below meth c H locs cells slots h0 l0 loc a C hR hE hL hl hs.2.2 ho) (fun c9 => KF c9 p e R s m args below meth c H locs cells slots h0 l0 loc a C hR hE hL hl hs.2.2 ho)
theorem v_icmp_gt {x z : Int32} {off : Int} (t q : Nat) (hd : decode cc pc = .ok (.if_icmp .gt off, 3)) (ht : (pc : Int) + off = (t : Int)) (hq : pc + 3 = q) (KT : (z < x) → VV G d k n y cc nL ret hh t ls st h Q) (KF : (¬ z < x) → VV G d k n y cc nL ret hh q ls st h Q) : VV G d k n y cc nL ret hh pc ls (pv_I z :: pv_I x :: st) h Q := by
  intro p e R s m args below meth c H locs cells slots h0 l0 loc a C hR hE hL hl hs ho
  subst hq
  exact lv_icmp_gt C.1 C.2.1 hd ht (fun c9 => KT c9 p e R s m args below meth c H locs cells slots h0 l0 loc a C hR hE hL hl hs.2.2 ho) (fun c9 => KF c9 p e R s m args below meth c H locs cells slots h0 l0 loc a C hR hE hL hl hs.2.2 ho)
theorem v_icmp_le {x z : Int32} {off : Int} (t q : Nat) (hd : decode cc pc = .ok (.if_icmp .le off, 3)) (ht : (pc : Int) + off = (t : Int)) (hq : pc + 3 = q) (KT : (x ≤ z) → VV G d k n y cc nL ret hh t ls st h Q) (KF : (¬ x ≤ z) → VV G d k n y cc nL ret hh q ls st h Q) : VV G d k n y cc nL ret hh pc ls (pv_I z :: pv_I x :: st) h Q := by
  intro p e R s m args below meth c H locs cells slots h0 l0 loc a C hR hE hL hl hs ho
  subst hq
  exact lv_icmp_le C.1 C.2.1 hd ht (fun c9 => KT c9 p e R s m args below meth c H locs cells slots h0 l0 loc a C hR hE hL hl hs.2.2 ho) (fun c9 => KF c9 p e R s m args below meth c H locs cells slots h0 l0 loc a C hR hE hL hl hs.2.2 ho)
theorem v_goto {off : Int} (q : Nat) (hd : decode cc pc = .ok (.goto off, 3)) (ht : (pc : Int) + off = (q : Int)) (K : VV G d k n y cc nL ret hh q ls st h Q) : VV G d k n y cc nL ret hh pc ls st h Q := by
  intro p e R s m args below meth c H locs cells slots h0 l0 loc a C hR hE hL hl hs ho
  exact lv_goto C.1 C.2.1 hd ht (K p e R s m args below meth c H locs cells slots h0 l0 loc a C hR hE hL hl hs ho)
theorem v_ifnull {r : RN} {off : Int} (t q : Nat) (hd : decode cc pc = .ok (.ifnull off, 3)) (ht : (pc : Int) + off = (t : Int)) (hq : pc + 3 = q) (KT : r.1 = 0 → VV G d k n y cc nL ret hh t ls st h Q) (KF : ¬ r.1 = 0 → VV G d k n y cc nL ret hh q ls st h Q) : VV G d k n y cc nL ret hh pc ls (pv_O r :: st) h Q := by
  intro p e R s m args below meth c H locs cells slots h0 l0 loc a C hR hE hL hl hs ho
  subst hq
  show W p (gw_l G) e R s m args below meth c H locs cells slots _ (F0 m pc a (va_rf (hp_ro loc r) :: st.map (pv_c loc)))
  by_cases hr : r.1 = 0
  · rw [hp_ro, if_pos hr]
    exact lv_ifnullN C.1 C.2.1 hd ht (KT hr p e R s m args below meth c H locs cells slots h0 l0 loc a C hR hE hL hl hs.2 ho)
  · rw [hp_ro, if_neg hr]
    exact lv_ifnull C.1 C.2.1 hd (KF hr p e R s m args below meth c H locs cells slots h0 l0 loc a C hR hE hL hl hs.2 ho)
theorem v_ifnonnull {r : RN} {off : Int} (t q : Nat) (hd : decode cc pc = .ok (.ifnonnull off, 3)) (ht : (pc : Int) + off = (t : Int)) (hq : pc + 3 = q) (KT : ¬ r.1 = 0 → VV G d k n y cc nL ret hh t ls st h Q) (KF : r.1 = 0 → VV G d k n y cc nL ret hh q ls st h Q) : VV G d k n y cc nL ret hh pc ls (pv_O r :: st) h Q := by
  intro p e R s m args below meth c H locs cells slots h0 l0 loc a C hR hE hL hl hs ho
  subst hq
  show W p (gw_l G) e R s m args below meth c H locs cells slots _ (F0 m pc a (va_rf (hp_ro loc r) :: st.map (pv_c loc)))
  by_cases hr : r.1 = 0
  · rw [hp_ro, if_pos hr]
    exact lv_ifnonnullN C.1 C.2.1 hd (KF hr p e R s m args below meth c H locs cells slots h0 l0 loc a C hR hE hL hl hs.2 ho)
  · rw [hp_ro, if_neg hr]
    exact lv_ifnonnull C.1 C.2.1 hd ht (KT hr p e R s m args below meth c H locs cells slots h0 l0 loc a C hR hE hL hl hs.2 ho)
theorem hp_ro_eq {G : GW} {loc : Nat → Nat → Nat} {h : PH} {H : Heap} {r z : RN} (hR : hp_Rep G loc h H) (h1 : ok_r h r) (h2 : ok_r h z) (h10 : r = z ∨ r.1 = 0 ∨ z.1 = 0 ∨ (10 ≤ r.1 ∧ z.1 ≠ 8) ∨ (10 ≤ z.1 ∧ r.1 ≠ 8)) : (hp_ro loc r = hp_ro loc z) ↔ r = z := by
  constructor
  · intro e
    rcases h1 with h1 | h1
    · subst h1
      rcases h2 with h2 | h2
      · exact h2.symm
      · have hz : z.1 ≠ 0 := fun q => by rw [q, hR.2.2.2.2.1] at h2; cases h2
        simp [hp_ro, hz] at e
    · have hr : r.1 ≠ 0 := fun q => by rw [q, hR.2.2.2.2.1] at h1; cases h1
      rcases h2 with h2 | h2
      · subst h2
        simp [hp_ro, hr] at e
      · have hz : z.1 ≠ 0 := fun q => by rw [q, hR.2.2.2.2.1] at h2; cases h2
        simp [hp_ro, hr, hz] at e
        rcases h10 with q | q | q | q | q
        · exact q
        · exact absurd q hr
        · exact absurd q hz
        · obtain ⟨e1, e2⟩ := hR.2.1 _ _ _ _ h1 h2 q.1 q.2 e
          exact Prod.ext e1 e2
        · obtain ⟨e1, e2⟩ := hR.2.1 _ _ _ _ h2 h1 q.1 q.2 e.symm
          exact (Prod.ext e1 e2).symm
  · intro e
    rw [e]
theorem v_acmp_eq {r z : RN} {off : Int} (t q : Nat) (hd : decode cc pc = .ok (.if_acmp .eq off, 3)) (h10 : r = z ∨ r.1 = 0 ∨ z.1 = 0 ∨ (10 ≤ r.1 ∧ z.1 ≠ 8) ∨ (10 ≤ z.1 ∧ r.1 ≠ 8)) (ht : (pc : Int) + off = (t : Int)) (hq : pc + 3 = q) (KT : r = z → VV G d k n y cc nL ret hh t ls st h Q) (KF : ¬ r = z → VV G d k n y cc nL ret hh q ls st h Q) : VV G d k n y cc nL ret hh pc ls (pv_O z :: pv_O r :: st) h Q := by
  intro p e R s m args below meth c H locs cells slots h0 l0 loc a C hR hE hL hl hs ho
  subst hq
  have e9 := hp_ro_eq hR hs.2.1 hs.1 h10
  show W p (gw_l G) e R s m args below meth c H locs cells slots _ (F0 m pc a (va_rf (hp_ro loc z) :: va_rf (hp_ro loc r) :: st.map (pv_c loc)))
  exact lv_acmp_eq C.1 C.2.1 hd ht (fun c9 => KT (e9.mp c9) p e R s m args below meth c H locs cells slots h0 l0 loc a C hR hE hL hl hs.2.2 ho) (fun c9 => KF (fun c8 => c9 (e9.mpr c8)) p e R s m args below meth c H locs cells slots h0 l0 loc a C hR hE hL hl hs.2.2 ho)
theorem v_acmp_ne {r z : RN} {off : Int} (t q : Nat) (hd : decode cc pc = .ok (.if_acmp .ne off, 3)) (h10 : r = z ∨ r.1 = 0 ∨ z.1 = 0 ∨ (10 ≤ r.1 ∧ z.1 ≠ 8) ∨ (10 ≤ z.1 ∧ r.1 ≠ 8)) (ht : (pc : Int) + off = (t : Int)) (hq : pc + 3 = q) (KT : ¬ r = z → VV G d k n y cc nL ret hh t ls st h Q) (KF : r = z → VV G d k n y cc nL ret hh q ls st h Q) : VV G d k n y cc nL ret hh pc ls (pv_O z :: pv_O r :: st) h Q := by
  intro p e R s m args below meth c H locs cells slots h0 l0 loc a C hR hE hL hl hs ho
  subst hq
  have e9 := hp_ro_eq hR hs.2.1 hs.1 h10
  show W p (gw_l G) e R s m args below meth c H locs cells slots _ (F0 m pc a (va_rf (hp_ro loc z) :: va_rf (hp_ro loc r) :: st.map (pv_c loc)))
  exact lv_acmp_ne C.1 C.2.1 hd ht (fun c9 => KT (fun c8 => c9 (e9.mpr c8)) p e R s m args below meth c H locs cells slots h0 l0 loc a C hR hE hL hl hs.2.2 ho) (fun c9 => KF (e9.mp c9) p e R s m args below meth c H locs cells slots h0 l0 loc a C hR hE hL hl hs.2.2 ho)
theorem v_tblIn {dflt lo hi : Int} {offs : Array Int} {len : Nat} {x : Int32} {off : Int} (t : Nat) (hd : decode cc pc = .ok (.tableswitch dflt lo hi offs, len)) (h1 : ¬ x.toInt < lo) (h2 : ¬ hi < x.toInt) (h3 : offs[(x.toInt - lo).toNat]? = some off) (ht : (pc : Int) + off = (t : Int)) (K : VV G d k n y cc nL ret hh t ls st h Q) : VV G d k n y cc nL ret hh pc ls (pv_I x :: st) h Q := by
  intro p e R s m args below meth c H locs cells slots h0 l0 loc a C hR hE hL hl hs ho
  exact lv_tableIn C.1 C.2.1 hd h1 h2 h3 ht (K p e R s m args below meth c H locs cells slots h0 l0 loc a C hR hE hL hl hs.2 ho)
theorem v_tblOut {dflt lo hi : Int} {offs : Array Int} {len : Nat} {x : Int32} (t : Nat) (hd : decode cc pc = .ok (.tableswitch dflt lo hi offs, len)) (h1 : x.toInt < lo ∨ hi < x.toInt) (ht : (pc : Int) + dflt = (t : Int)) (K : VV G d k n y cc nL ret hh t ls st h Q) : VV G d k n y cc nL ret hh pc ls (pv_I x :: st) h Q := by
  intro p e R s m args below meth c H locs cells slots h0 l0 loc a C hR hE hL hl hs ho
  exact lv_tableOut C.1 C.2.1 hd h1 ht (K p e R s m args below meth c H locs cells slots h0 l0 loc a C hR hE hL hl hs.2 ho)
theorem v_ireturn {x : Int32} (hd : decode cc pc = .ok (.ireturn, 1)) (hr : ret = some .int) (hq : Q (.inl (some (pv_I x))) h) : VV G d k n y cc nL ret hh pc ls [pv_I x] h Q := by
  intro p e R s m args below meth c H locs cells slots h0 l0 loc a C hR hE hL hl hs ho
  refine vx_ret (W.widen (k := R.cells) (n := R.slots) (by have := C.2.2.2.2.2.2.2.2.2.2.2.2.1; omega) (by have := C.2.2.2.2.2.2.2.2.2.2.2.2.2; omega) ?_)
  exact W.iret C.1 C.2.1 (C.2.2.2.1.trans hr)  (fun t ht hW => ⟨some (pv_I x), loc, h, rfl, hq, by rw [ht]; exact hR, hE, fun v hv => by cases hv; exact hs.1⟩) hL hd C.2.2.2.2.1
theorem v_zreturn {x : Int32} {ty : FieldType} (hn : narrow ty (.int x) = .int x) (hd : decode cc pc = .ok (.ireturn, 1)) (hr : ret = some ty) (hq : Q (.inl (some (pv_I x))) h) : VV G d k n y cc nL ret hh pc ls [pv_I x] h Q := by
  intro p e R s m args below meth c H locs cells slots h0 l0 loc a C hR hE hL hl hs ho
  refine vx_ret (W.widen (k := R.cells) (n := R.slots) (by have := C.2.2.2.2.2.2.2.2.2.2.2.2.1; omega) (by have := C.2.2.2.2.2.2.2.2.2.2.2.2.2; omega) ?_)
  exact W.zret C.1 C.2.1 (C.2.2.2.1.trans hr) hn (fun t ht hW => ⟨some (pv_I x), loc, h, rfl, hq, by rw [ht]; exact hR, hE, fun v hv => by cases hv; exact hs.1⟩) hL hd C.2.2.2.2.1
theorem v_lreturn {x : Int64} (hd : decode cc pc = .ok (.lreturn, 1)) (hr : ret = some .long) (hq : Q (.inl (some (pv_L x))) h) : VV G d k n y cc nL ret hh pc ls [pv_L x] h Q := by
  intro p e R s m args below meth c H locs cells slots h0 l0 loc a C hR hE hL hl hs ho
  refine vx_ret (W.widen (k := R.cells) (n := R.slots) (by have := C.2.2.2.2.2.2.2.2.2.2.2.2.1; omega) (by have := C.2.2.2.2.2.2.2.2.2.2.2.2.2; omega) ?_)
  exact W.lret C.1 C.2.1 (C.2.2.2.1.trans hr)  (fun t ht hW => ⟨some (pv_L x), loc, h, rfl, hq, by rw [ht]; exact hR, hE, fun v hv => by cases hv; exact hs.1⟩) hL hd C.2.2.2.2.1
theorem v_freturn {x : UInt32} (hd : decode cc pc = .ok (.freturn, 1)) (hr : ret = some .float) (hq : Q (.inl (some (pv_F x))) h) : VV G d k n y cc nL ret hh pc ls [pv_F x] h Q := by
  intro p e R s m args below meth c H locs cells slots h0 l0 loc a C hR hE hL hl hs ho
  refine vx_ret (W.widen (k := R.cells) (n := R.slots) (by have := C.2.2.2.2.2.2.2.2.2.2.2.2.1; omega) (by have := C.2.2.2.2.2.2.2.2.2.2.2.2.2; omega) ?_)
  exact W.fret C.1 C.2.1 (C.2.2.2.1.trans hr)  (fun t ht hW => ⟨some (pv_F x), loc, h, rfl, hq, by rw [ht]; exact hR, hE, fun v hv => by cases hv; exact hs.1⟩) hL hd C.2.2.2.2.1
theorem v_dreturn {x : UInt64} (hd : decode cc pc = .ok (.dreturn, 1)) (hr : ret = some .double) (hq : Q (.inl (some (pv_D x))) h) : VV G d k n y cc nL ret hh pc ls [pv_D x] h Q := by
  intro p e R s m args below meth c H locs cells slots h0 l0 loc a C hR hE hL hl hs ho
  refine vx_ret (W.widen (k := R.cells) (n := R.slots) (by have := C.2.2.2.2.2.2.2.2.2.2.2.2.1; omega) (by have := C.2.2.2.2.2.2.2.2.2.2.2.2.2; omega) ?_)
  exact W.dret C.1 C.2.1 (C.2.2.2.1.trans hr)  (fun t ht hW => ⟨some (pv_D x), loc, h, rfl, hq, by rw [ht]; exact hR, hE, fun v hv => by cases hv; exact hs.1⟩) hL hd C.2.2.2.2.1
theorem v_return  (hd : decode cc pc = .ok (.return_, 1)) (hr : ret = none) (hq : Q (.inl (none)) h) : VV G d k n y cc nL ret hh pc ls [] h Q := by
  intro p e R s m args below meth c H locs cells slots h0 l0 loc a C hR hE hL hl hs ho
  refine vx_ret (W.widen (k := R.cells) (n := R.slots) (by have := C.2.2.2.2.2.2.2.2.2.2.2.2.1; omega) (by have := C.2.2.2.2.2.2.2.2.2.2.2.2.2; omega) ?_)
  exact W.vret C.1 C.2.1 (C.2.2.2.1.trans hr)  (fun t ht hW => ⟨none, loc, h, rfl, hq, by rw [ht]; exact hR, hE, fun v hv => by cases hv⟩) hL hd C.2.2.2.2.1
theorem v_areturn {r : RN} {ty : FieldType} (hd : decode cc pc = .ok (.areturn, 1)) (hr : ret = some ty) (hty : (∃ z, ty = .object z) ∨ ∃ z, ty = .array z) (hq : Q (.inl (some (pv_O r))) h) : VV G d k n y cc nL ret hh pc ls [pv_O r] h Q := by
  intro p e R s m args below meth c H locs cells slots h0 l0 loc a C hR hE hL hl hs ho
  refine vx_ret (W.widen (k := R.cells) (n := R.slots) (by have := C.2.2.2.2.2.2.2.2.2.2.2.2.1; omega) (by have := C.2.2.2.2.2.2.2.2.2.2.2.2.2; omega) ?_)
  have hv9 : pv_c loc (pv_O r) = .null ∨ ∃ a9, pv_c loc (pv_O r) = .ref a9 := by
    show va_rf (hp_ro loc r) = .null ∨ ∃ a9, va_rf (hp_ro loc r) = .ref a9
    cases hp_ro loc r <;> simp [va_rf]
  exact W.aret C.1 C.2.1 (C.2.2.2.1.trans hr) hty hv9 (fun t ht hW => ⟨some (pv_O r), loc, h, rfl, hq, by rw [ht]; exact hR, hE, fun v hv => by cases hv; exact hs.1⟩) hL hd C.2.2.2.2.1
end VVR
