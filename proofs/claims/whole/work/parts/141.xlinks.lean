set_option maxRecDepth 20000 in
theorem pf_Jxc12de_init_da8c8_7 : pf_ok yJxc12de_init_da8c8 7 3 0 := ⟨_, rfl, by decide, Or.inl ⟨rfl, Or.inl (g_at 104 (by decide +kernel) (by decide +kernel))⟩⟩
