/-- a new list put into slot i of the class's object -/
def nl_ (h : PH) (o i t : Nat) : PH := hp_setr (hp_setr (hp_seti (hp_new h t 0 0) t 0 0 0) t 0 1 (5, 0)) o 0 i (t, 0)
theorem nl_al {h : PH} {o i t u j : Nat} : hp_al (nl_ h o i t) u j = if u = t ∧ j = 0 then true else hp_al h u j := rfl
set_option maxRecDepth 20000 in
theorem C_X6_init {G : GW} {h : PH} {Q : RS → PH → Prop} (f0 : hp_al h 20 0 = false) (f1 : hp_al h 21 0 = false) (f2 : hp_al h 22 0 = false) (f3 : hp_al h 23 0 = false) (f4 : hp_al h 24 0 = false) (hq : Q (.inl none) (hp_seti (nl_ (nl_ (nl_ (nl_ (nl_ h 10 0 20) 10 1 21) 10 2 22) 10 3 23) 10 4 24) 10 0 5 8)) : VV G 4 5 15 yX6_init cX6_init 1 (none) [] 0 (vv_en 1 [pv_O (10, 0)]) [] h Q := by
  show VV G 4 5 15 yX6_init cX6_init 1 (none) [] 0 [some (pv_O (10, 0))] [] h Q
  refine v_aload_n 1 dX6_init_0 rfl rfl ?_
  refine v_objinit 4 dX6_init_1 oi_X6_1 oi_1 oi_2 (by first | decide | (dsimp only; omega)) (by first | decide | (dsimp only; omega)) (by first | decide | (dsimp only; omega)) rfl ?_
  refine v_aload_n 5 dX6_init_4 rfl rfl ?_
  refine v_new (k1 := 4) (n1 := 12) 8 20 0 dX6_init_5 nw_X6_7 (by rfl) (by decide) (by first | exact f0 | simp [al_n, al_r, al_i, f0]) rfl rfl rfl ?_
  refine v_dup 9 dX6_init_8 rfl rfl ?_
  refine v_invi (d' := 3) (k' := 0) (n' := 0) (k2 := 4) (n2 := 12) 12 [] dX6_init_9 mt_X6_9 mi_Jx4a65c_init_da8c8 rfl rfl (by first | assumption | rfl) rfl rfl (of_decide_eq_true rfl) rfl (by decide) rfl rfl rfl rfl (C_Jx4a65c_init_da8c8 rfl (by decide) ?_)
  refine v_putfr 15 dX6_init_12 pf_X6_init_10 (by first | assumption | rfl) (by first | assumption | decide) (by rfl) rfl ?_
  refine v_aload_n 16 dX6_init_15 rfl rfl ?_
  refine v_new (k1 := 3) (n1 := 9) 19 21 0 dX6_init_16 nw_X6_7 (by rfl) (by decide) (by first | exact f1 | simp [al_n, al_r, al_i, f1]) rfl rfl rfl ?_
  refine v_dup 20 dX6_init_19 rfl rfl ?_
  refine v_invi (d' := 3) (k' := 0) (n' := 0) (k2 := 3) (n2 := 9) 23 [] dX6_init_20 mt_X6_9 mi_Jx4a65c_init_da8c8 rfl rfl (by first | assumption | rfl) rfl rfl (of_decide_eq_true rfl) rfl (by decide) rfl rfl rfl rfl (C_Jx4a65c_init_da8c8 rfl (by decide) ?_)
  refine v_putfr 26 dX6_init_23 pf_X6_init_16 (by first | assumption | rfl) (by first | assumption | decide) (by rfl) rfl ?_
  refine v_aload_n 27 dX6_init_26 rfl rfl ?_
  refine v_new (k1 := 2) (n1 := 6) 30 22 0 dX6_init_27 nw_X6_7 (by rfl) (by decide) (by first | exact f2 | simp [al_n, al_r, al_i, f2]) rfl rfl rfl ?_
  refine v_dup 31 dX6_init_30 rfl rfl ?_
  refine v_invi (d' := 3) (k' := 0) (n' := 0) (k2 := 2) (n2 := 6) 34 [] dX6_init_31 mt_X6_9 mi_Jx4a65c_init_da8c8 rfl rfl (by first | assumption | rfl) rfl rfl (of_decide_eq_true rfl) rfl (by decide) rfl rfl rfl rfl (C_Jx4a65c_init_da8c8 rfl (by decide) ?_)
  refine v_putfr 37 dX6_init_34 pf_X6_init_19 (by first | assumption | rfl) (by first | assumption | decide) (by rfl) rfl ?_
  refine v_aload_n 38 dX6_init_37 rfl rfl ?_
  refine v_new (k1 := 1) (n1 := 3) 41 23 0 dX6_init_38 nw_X6_7 (by rfl) (by decide) (by first | exact f3 | simp [al_n, al_r, al_i, f3]) rfl rfl rfl ?_
  refine v_dup 42 dX6_init_41 rfl rfl ?_
  refine v_invi (d' := 3) (k' := 0) (n' := 0) (k2 := 1) (n2 := 3) 45 [] dX6_init_42 mt_X6_9 mi_Jx4a65c_init_da8c8 rfl rfl (by first | assumption | rfl) rfl rfl (of_decide_eq_true rfl) rfl (by decide) rfl rfl rfl rfl (C_Jx4a65c_init_da8c8 rfl (by decide) ?_)
  refine v_putfr 48 dX6_init_45 pf_X6_init_22 (by first | assumption | rfl) (by first | assumption | decide) (by rfl) rfl ?_
  refine v_aload_n 49 dX6_init_48 rfl rfl ?_
  refine v_new (k1 := 0) (n1 := 0) 52 24 0 dX6_init_49 nw_X6_7 (by rfl) (by decide) (by first | exact f4 | simp [al_n, al_r, al_i, f4]) rfl rfl rfl ?_
  refine v_dup 53 dX6_init_52 rfl rfl ?_
  refine v_invi (d' := 3) (k' := 0) (n' := 0) (k2 := 0) (n2 := 0) 56 [] dX6_init_53 mt_X6_9 mi_Jx4a65c_init_da8c8 rfl rfl (by first | assumption | rfl) rfl rfl (of_decide_eq_true rfl) rfl (by decide) rfl rfl rfl rfl (C_Jx4a65c_init_da8c8 rfl (by decide) ?_)
  refine v_putfr 59 dX6_init_56 pf_X6_init_25 (by first | assumption | rfl) (by first | assumption | decide) (by rfl) rfl ?_
  refine v_aload_n 60 dX6_init_59 rfl rfl ?_
  refine v_bipushv (v := 8) 62 dX6_init_60 (by decide) rfl ?_
  refine v_putfi 65 dX6_init_62 pf_X6_init_28 (by first | assumption | rfl) (by first | assumption | decide) (by rfl) rfl rfl rfl ?_
  refine v_return dX6_init_65 rfl ?_
  exact hq
