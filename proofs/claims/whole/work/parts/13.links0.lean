theorem g_at {w : Cond} (i : Nat) (h : lw_tbl[i]? = some w) (hg : goodWord w = true) : w ∈ g_ws := List.mem_filter.mpr ⟨List.mem_of_getElem? h, hg⟩
theorem g_an {w : Cond} (i : Nat) (h : lw_tbl[i]? = some w) (hg : w_soft w = true) : w ∈ g_nw := List.mem_filter.mpr ⟨List.mem_of_getElem? h, hg⟩
theorem oi_1 : Cond.instanceMethod Lib.objectInit ∈ g_ws := (g_at 84 (by decide +kernel) (by decide +kernel))
theorem oi_2 : Cond.code Lib.objectInit ⟨#[0xb1]⟩ 1 none ∈ g_ws := g_at 85 (by decide +kernel) (by decide +kernel)
set_option maxRecDepth 20000 in
theorem ac_int : Cond.arrayClass .int ∈ g_ws := (g_at 669 (by decide +kernel) (by decide +kernel))
set_option maxRecDepth 20000 in
theorem ac_boolean : Cond.arrayClass .boolean ∈ g_ws := (g_at 670 (by decide +kernel) (by decide +kernel))
set_option maxRecDepth 20000 in
theorem ac_long : Cond.arrayClass .long ∈ g_ws := (g_at 1895 (by decide +kernel) (by decide +kernel))
set_option maxRecDepth 20000 in
theorem ac_double : Cond.arrayClass .double ∈ g_ws := (g_at 1896 (by decide +kernel) (by decide +kernel))
set_option maxRecDepth 20000 in
theorem ac_byte : Cond.arrayClass .byte ∈ g_ws := (g_at 420 (by decide +kernel) (by decide +kernel))
set_option maxRecDepth 20000 in
theorem ca_E1 : Cond.castable "java/lang/IllegalArgumentException" "java/lang/IllegalArgumentException" ∈ g_nw := (g_an 354 (by decide +kernel) (by decide +kernel))
set_option maxRecDepth 20000 in
theorem ca_E2 : Cond.castable "java/lang/IllegalStateException" "java/lang/IllegalStateException" ∈ g_nw := (g_an 423 (by decide +kernel) (by decide +kernel))
set_option maxRecDepth 20000 in
theorem ca_E3 : Cond.castable "java/lang/IndexOutOfBoundsException" "java/lang/IndexOutOfBoundsException" ∈ g_nw := (g_an 574 (by decide +kernel) (by decide +kernel))
set_option maxRecDepth 20000 in
theorem ca_E4 : Cond.castable "java/lang/UnsupportedOperationException" "java/lang/UnsupportedOperationException" ∈ g_nw := (g_an 590 (by decide +kernel) (by decide +kernel))
set_option maxRecDepth 20000 in
theorem ca_E5 : Cond.castable "java/util/NoSuchElementException" "java/util/NoSuchElementException" ∈ g_nw := (g_an 878 (by decide +kernel) (by decide +kernel))
set_option maxRecDepth 20000 in
theorem ca_E0 : Cond.castable "java/lang/ArithmeticException" "java/lang/ArithmeticException" ∈ g_nw := (g_an 1224 (by decide +kernel) (by decide +kernel))
set_option maxRecDepth 20000 in
theorem ca_J6 : Cond.castable RJ6 "java/lang/Object" ∈ g_nw := (g_an 1899 (by decide +kernel) (by decide +kernel))
set_option maxRecDepth 20000 in
theorem ca_X6 : Cond.castable RX6 "java/lang/Object" ∈ g_nw := (g_an 1900 (by decide +kernel) (by decide +kernel))
set_option maxRecDepth 20000 in
theorem ca_Jx4a65c : Cond.castable RJx4a65c "java/lang/Object" ∈ g_nw := (g_an 1901 (by decide +kernel) (by decide +kernel))
set_option maxRecDepth 20000 in
theorem ca_X12 : Cond.castable RX12 "java/lang/Object" ∈ g_nw := (g_an 1902 (by decide +kernel) (by decide +kernel))
set_option maxRecDepth 20000 in
theorem ca_X1 : Cond.castable RX1 "java/lang/Object" ∈ g_nw := (g_an 1905 (by decide +kernel) (by decide +kernel))
set_option maxRecDepth 20000 in
theorem ca_X9 : Cond.castable RX9 "java/lang/Object" ∈ g_nw := (g_an 1906 (by decide +kernel) (by decide +kernel))
set_option maxRecDepth 20000 in
theorem ca_X0 : Cond.castable RX0 "java/lang/Object" ∈ g_nw := (g_an 1910 (by decide +kernel) (by decide +kernel))
set_option maxRecDepth 20000 in
theorem ca_X7 : Cond.castable RX7 "java/lang/Object" ∈ g_nw := (g_an 1911 (by decide +kernel) (by decide +kernel))
set_option maxRecDepth 20000 in
theorem ca_X4 : Cond.castable RX4 "java/lang/Object" ∈ g_nw := (g_an 1912 (by decide +kernel) (by decide +kernel))
set_option maxRecDepth 20000 in
theorem ca_X10 : Cond.castable RX10 "java/lang/Object" ∈ g_nw := (g_an 1913 (by decide +kernel) (by decide +kernel))
set_option maxRecDepth 20000 in
theorem ca_X3 : Cond.castable RX3 "java/lang/Object" ∈ g_nw := (g_an 1914 (by decide +kernel) (by decide +kernel))
set_option maxRecDepth 20000 in
theorem ca_X2 : Cond.castable RX2 "java/lang/Object" ∈ g_nw := (g_an 1915 (by decide +kernel) (by decide +kernel))
set_option maxRecDepth 20000 in
theorem ca_X8 : Cond.castable RX8 "java/lang/Object" ∈ g_nw := (g_an 1916 (by decide +kernel) (by decide +kernel))
set_option maxRecDepth 20000 in
theorem ca_Jx35411 : Cond.castable RJx35411 "java/lang/Object" ∈ g_nw := (g_an 1918 (by decide +kernel) (by decide +kernel))
set_option maxRecDepth 20000 in
theorem ca_X5 : Cond.castable RX5 "java/lang/Object" ∈ g_nw := (g_an 1919 (by decide +kernel) (by decide +kernel))
set_option maxRecDepth 20000 in
theorem ca_X11 : Cond.castable RX11 "java/lang/Object" ∈ g_nw := (g_an 1920 (by decide +kernel) (by decide +kernel))
set_option maxRecDepth 20000 in
theorem ca_J0 : Cond.castable RJ0 "java/lang/Object" ∈ g_nw := (g_an 1923 (by decide +kernel) (by decide +kernel))
set_option maxRecDepth 20000 in
theorem ca_I : Cond.castable "[I" "java/lang/Object" ∈ g_nw := (g_an 1929 (by decide +kernel) (by decide +kernel))
set_option maxRecDepth 20000 in
theorem ma_i : Cond.initialized "java/lang/Math" ∈ g_ws := (g_at 45 (by decide +kernel) (by decide +kernel))
set_option maxRecDepth 20000 in
theorem md_X6_init : md_ok yX6_init cX6_init 1 ((none : Option Jvm.ClassFile.FieldType)) 0 := ⟨g_at 82 (by decide +kernel) (by decide +kernel), (g_at 38 (by decide +kernel) (by decide +kernel)), by decide, ⟨by decide, by decide⟩, by decide +kernel, by decide⟩
set_option maxRecDepth 20000 in
theorem mi_X6_init : Cond.instanceMethod yX6_init ∈ g_ws := (g_at 81 (by decide +kernel) (by decide +kernel))
set_option maxRecDepth 20000 in
theorem oi_X6_1 : Cond.methodLink RX6 1 Lib.objectInit ∈ g_ws := (g_at 83 (by decide +kernel) (by decide +kernel))
set_option maxRecDepth 20000 in
theorem cl_X6_7 : Cond.classLink RX6 7 "java/util/ArrayList" ∈ g_ws := (g_at 86 (by decide +kernel) (by decide +kernel))
set_option maxRecDepth 20000 in
theorem nw_X6_7 : nw_ok RX6 7 3 3 := ⟨_, rfl, (g_at 86 (by decide +kernel) (by decide +kernel)), (g_at 87 (by decide +kernel) (by decide +kernel)), (g_at 41 (by decide +kernel) (by decide +kernel))⟩
set_option maxRecDepth 20000 in
theorem md_Jx4a65c_init_da8c8 : md_ok yJx4a65c_init_da8c8 cJx4a65c_init_da8c8 1 ((none : Option Jvm.ClassFile.FieldType)) 0 := ⟨g_at 90 (by decide +kernel) (by decide +kernel), (g_at 41 (by decide +kernel) (by decide +kernel)), by decide, ⟨by decide, by decide⟩, by decide +kernel, by decide⟩
set_option maxRecDepth 20000 in
theorem mi_Jx4a65c_init_da8c8 : Cond.instanceMethod yJx4a65c_init_da8c8 ∈ g_ws := (g_at 89 (by decide +kernel) (by decide +kernel))
set_option maxRecDepth 20000 in
theorem mt_X6_9 : mt_ok RX6 9 yJx4a65c_init_da8c8 cJx4a65c_init_da8c8 1 ((none : Option Jvm.ClassFile.FieldType)) 0 := ⟨(g_at 88 (by decide +kernel) (by decide +kernel)), md_Jx4a65c_init_da8c8⟩
set_option maxRecDepth 20000 in
theorem pf_X6_init_10 : pf_ok yX6_init 10 10 0 := ⟨_, rfl, by decide, Or.inr ⟨rfl, rfl, rfl, (g_at 115 (by decide +kernel) (by decide +kernel))⟩⟩
set_option maxRecDepth 20000 in
theorem pf_X6_init_16 : pf_ok yX6_init 16 10 1 := ⟨_, rfl, by decide, Or.inr ⟨rfl, rfl, rfl, (g_at 116 (by decide +kernel) (by decide +kernel))⟩⟩
set_option maxRecDepth 20000 in
theorem pf_X6_init_19 : pf_ok yX6_init 19 10 2 := ⟨_, rfl, by decide, Or.inr ⟨rfl, rfl, rfl, (g_at 117 (by decide +kernel) (by decide +kernel))⟩⟩
set_option maxRecDepth 20000 in
theorem pf_X6_init_22 : pf_ok yX6_init 22 10 3 := ⟨_, rfl, by decide, Or.inr ⟨rfl, rfl, rfl, (g_at 118 (by decide +kernel) (by decide +kernel))⟩⟩
set_option maxRecDepth 20000 in
theorem pf_X6_init_25 : pf_ok yX6_init 25 10 4 := ⟨_, rfl, by decide, Or.inr ⟨rfl, rfl, rfl, (g_at 119 (by decide +kernel) (by decide +kernel))⟩⟩
set_option maxRecDepth 20000 in
theorem pf_X6_init_28 : pf_ok yX6_init 28 10 5 := ⟨_, rfl, by decide, Or.inl ⟨rfl, Or.inl (g_at 120 (by decide +kernel) (by decide +kernel))⟩⟩
set_option maxRecDepth 20000 in
theorem md_Jxc12de_init_da8c8 : md_ok yJxc12de_init_da8c8 cJxc12de_init_da8c8 1 ((none : Option Jvm.ClassFile.FieldType)) 0 := ⟨g_at 93 (by decide +kernel) (by decide +kernel), (g_at 40 (by decide +kernel) (by decide +kernel)), by decide, ⟨by decide, by decide⟩, by decide +kernel, by decide⟩
set_option maxRecDepth 20000 in
theorem mi_Jxc12de_init_da8c8 : Cond.instanceMethod yJxc12de_init_da8c8 ∈ g_ws := (g_at 92 (by decide +kernel) (by decide +kernel))
set_option maxRecDepth 20000 in
theorem mt_Jx4a65c_1 : mt_ok RJx4a65c 1 yJxc12de_init_da8c8 cJxc12de_init_da8c8 1 ((none : Option Jvm.ClassFile.FieldType)) 0 := ⟨(g_at 91 (by decide +kernel) (by decide +kernel)), md_Jxc12de_init_da8c8⟩
set_option maxRecDepth 20000 in
theorem gs_Jx4a65c_39 : Cond.fieldLink RJx4a65c 39 "java/util/ArrayList" "DEFAULTCAPACITY_EMPTY_ELEMENTDATA" "[Ljava/lang/Object;" ∈ g_ws := (g_at 98 (by decide +kernel) (by decide +kernel))
set_option maxRecDepth 20000 in
theorem pf_Jx4a65c_init_da8c8_9 : pf_ok yJx4a65c_init_da8c8 9 3 1 := ⟨_, rfl, by decide, Or.inl ⟨rfl, Or.inl (g_at 100 (by decide +kernel) (by decide +kernel))⟩⟩
set_option maxRecDepth 20000 in
theorem md_Jxa1e45_init_da8c8 : md_ok yJxa1e45_init_da8c8 cJxa1e45_init_da8c8 1 ((none : Option Jvm.ClassFile.FieldType)) 0 := ⟨g_at 96 (by decide +kernel) (by decide +kernel), (g_at 39 (by decide +kernel) (by decide +kernel)), by decide, ⟨by decide, by decide⟩, by decide +kernel, by decide⟩
set_option maxRecDepth 20000 in
theorem mi_Jxa1e45_init_da8c8 : Cond.instanceMethod yJxa1e45_init_da8c8 ∈ g_ws := (g_at 95 (by decide +kernel) (by decide +kernel))
set_option maxRecDepth 20000 in
theorem mt_Jxc12de_1 : mt_ok RJxc12de 1 yJxa1e45_init_da8c8 cJxa1e45_init_da8c8 1 ((none : Option Jvm.ClassFile.FieldType)) 0 := ⟨(g_at 94 (by decide +kernel) (by decide +kernel)), md_Jxa1e45_init_da8c8⟩
set_option maxRecDepth 20000 in
theorem oi_Jxa1e45_1 : Cond.methodLink RJxa1e45 1 Lib.objectInit ∈ g_ws := (g_at 97 (by decide +kernel) (by decide +kernel))
set_option maxRecDepth 20000 in
theorem md_X6_rest : md_ok yX6_rest cX6_rest 4 (some .int) 0 := ⟨g_at 152 (by decide +kernel) (by decide +kernel), (g_at 38 (by decide +kernel) (by decide +kernel)), by decide, ⟨by decide, by decide⟩, by decide +kernel, by decide⟩
set_option maxRecDepth 20000 in
theorem mi_X6_rest : Cond.instanceMethod yX6_rest ∈ g_ws := (g_at 150 (by decide +kernel) (by decide +kernel))
set_option maxRecDepth 20000 in
theorem me_X6_rest : Cond.selects RX6 yX6_rest yX6_rest ∈ g_ws := (g_at 151 (by decide +kernel) (by decide +kernel))
set_option maxRecDepth 20000 in
theorem fl_X6_19 : fl_ok RX6 19 10 2 := ⟨_, rfl, by decide, Or.inl (g_at 117 (by decide +kernel) (by decide +kernel))⟩
set_option maxRecDepth 20000 in
theorem md_Jx4a65c_size_8abf5 : md_ok yJx4a65c_size_8abf5 cJx4a65c_size_8abf5 1 (some .int) 0 := ⟨g_at 156 (by decide +kernel) (by decide +kernel), (g_at 41 (by decide +kernel) (by decide +kernel)), by decide, ⟨by decide, by decide⟩, by decide +kernel, by decide⟩
set_option maxRecDepth 20000 in
theorem mi_Jx4a65c_size_8abf5 : Cond.instanceMethod yJx4a65c_size_8abf5 ∈ g_ws := (g_at 154 (by decide +kernel) (by decide +kernel))
set_option maxRecDepth 20000 in
theorem me_Jx4a65c_size_8abf5 : Cond.selects RJx4a65c yJx4a65c_size_8abf5 yJx4a65c_size_8abf5 ∈ g_ws := (g_at 155 (by decide +kernel) (by decide +kernel))
set_option maxRecDepth 20000 in
theorem mt_X6_47 : mt_ok RX6 47 yJx4a65c_size_8abf5 cJx4a65c_size_8abf5 1 (some .int) 0 := ⟨(g_at 153 (by decide +kernel) (by decide +kernel)), md_Jx4a65c_size_8abf5⟩
set_option maxRecDepth 20000 in
theorem md_Jx4a65c_get_915e3 : md_ok yJx4a65c_get_915e3 cJx4a65c_get_915e3 2 (some (.object "java/lang/Object")) 1 := ⟨g_at 160 (by decide +kernel) (by decide +kernel), (g_at 41 (by decide +kernel) (by decide +kernel)), by decide, ⟨by decide, by decide⟩, by decide +kernel, by decide⟩
set_option maxRecDepth 20000 in
theorem mi_Jx4a65c_get_915e3 : Cond.instanceMethod yJx4a65c_get_915e3 ∈ g_ws := (g_at 158 (by decide +kernel) (by decide +kernel))
set_option maxRecDepth 20000 in
theorem me_Jx4a65c_get_915e3 : Cond.selects RJx4a65c yJx4a65c_get_915e3 yJx4a65c_get_915e3 ∈ g_ws := (g_at 159 (by decide +kernel) (by decide +kernel))
set_option maxRecDepth 20000 in
theorem mt_X6_216 : mt_ok RX6 216 yJx4a65c_get_915e3 cJx4a65c_get_915e3 2 (some (.object "java/lang/Object")) 1 := ⟨(g_at 157 (by decide +kernel) (by decide +kernel)), md_Jx4a65c_get_915e3⟩
set_option maxRecDepth 20000 in
theorem cl_X6_108 : Cond.classLink RX6 108 "VeneerLoft$Panel" ∈ g_ws := (g_at 171 (by decide +kernel) (by decide +kernel))
set_option maxRecDepth 20000 in
theorem fl_X6_220 : fl_ok RX6 220 8 12 := ⟨_, rfl, by decide, Or.inl (g_at 759 (by decide +kernel) (by decide +kernel))⟩
set_option maxRecDepth 20000 in
theorem pf_X6_rest_220 : pf_ok yX6_rest 220 8 12 := ⟨_, rfl, by decide, Or.inl ⟨rfl, Or.inl (g_at 759 (by decide +kernel) (by decide +kernel))⟩⟩
set_option maxRecDepth 20000 in
theorem fl_Jx4a65c_48 : fl_ok RJx4a65c 48 3 2 := ⟨_, rfl, by decide, Or.inl (g_at 103 (by decide +kernel) (by decide +kernel))⟩
set_option maxRecDepth 20000 in
theorem md_J15_checkIndex_7cf53 : md_ok yJ15_checkIndex_7cf53 cJ15_checkIndex_7cf53 2 (some .int) 2 := ⟨g_at 163 (by decide +kernel) (by decide +kernel), (g_at 61 (by decide +kernel) (by decide +kernel)), by decide, ⟨by decide, by decide⟩, by decide +kernel, by decide⟩
set_option maxRecDepth 20000 in
theorem ms_J15_checkIndex_7cf53 : Cond.static yJ15_checkIndex_7cf53 ∈ g_ws := (g_at 162 (by decide +kernel) (by decide +kernel))
set_option maxRecDepth 20000 in
theorem mt_Jx4a65c_118 : mt_ok RJx4a65c 118 yJ15_checkIndex_7cf53 cJ15_checkIndex_7cf53 2 (some .int) 2 := ⟨(g_at 161 (by decide +kernel) (by decide +kernel)), md_J15_checkIndex_7cf53⟩
set_option maxRecDepth 20000 in
theorem md_Jx4a65c_elementData_915e3 : md_ok yJx4a65c_elementData_915e3 cJx4a65c_elementData_915e3 2 (some (.object "java/lang/Object")) 1 := ⟨g_at 170 (by decide +kernel) (by decide +kernel), (g_at 41 (by decide +kernel) (by decide +kernel)), by decide, ⟨by decide, by decide⟩, by decide +kernel, by decide⟩
set_option maxRecDepth 20000 in
theorem mi_Jx4a65c_elementData_915e3 : Cond.instanceMethod yJx4a65c_elementData_915e3 ∈ g_ws := (g_at 168 (by decide +kernel) (by decide +kernel))
set_option maxRecDepth 20000 in
theorem me_Jx4a65c_elementData_915e3 : Cond.selects RJx4a65c yJx4a65c_elementData_915e3 yJx4a65c_elementData_915e3 ∈ g_ws := (g_at 169 (by decide +kernel) (by decide +kernel))
set_option maxRecDepth 20000 in
theorem mt_Jx4a65c_123 : mt_ok RJx4a65c 123 yJx4a65c_elementData_915e3 cJx4a65c_elementData_915e3 2 (some (.object "java/lang/Object")) 1 := ⟨(g_at 167 (by decide +kernel) (by decide +kernel)), md_Jx4a65c_elementData_915e3⟩
set_option maxRecDepth 20000 in
theorem md_J3_checkIndex_8e157 : md_ok yJ3_checkIndex_8e157 cJ3_checkIndex_8e157 3 (some .int) 3 := ⟨g_at 166 (by decide +kernel) (by decide +kernel), (g_at 47 (by decide +kernel) (by decide +kernel)), by decide, ⟨by decide, by decide⟩, by decide +kernel, by decide⟩
set_option maxRecDepth 20000 in
theorem ms_J3_checkIndex_8e157 : Cond.static yJ3_checkIndex_8e157 ∈ g_ws := (g_at 165 (by decide +kernel) (by decide +kernel))
set_option maxRecDepth 20000 in
theorem mt_J15_105 : mt_ok RJ15 105 yJ3_checkIndex_8e157 cJ3_checkIndex_8e157 3 (some .int) 3 := ⟨(g_at 164 (by decide +kernel) (by decide +kernel)), md_J3_checkIndex_8e157⟩
set_option maxRecDepth 20000 in
theorem fl_Jx4a65c_9 : fl_ok RJx4a65c 9 3 1 := ⟨_, rfl, by decide, Or.inl (g_at 100 (by decide +kernel) (by decide +kernel))⟩
set_option maxRecDepth 20000 in
theorem md_X6_offcuts : md_ok yX6_offcuts cX6_offcuts 4 (some .int) 1 := ⟨g_at 175 (by decide +kernel) (by decide +kernel), (g_at 38 (by decide +kernel) (by decide +kernel)), by decide, ⟨by decide, by decide⟩, by decide +kernel, by decide⟩
set_option maxRecDepth 20000 in
theorem mi_X6_offcuts : Cond.instanceMethod yX6_offcuts ∈ g_ws := (g_at 173 (by decide +kernel) (by decide +kernel))
set_option maxRecDepth 20000 in
theorem me_X6_offcuts : Cond.selects RX6 yX6_offcuts yX6_offcuts ∈ g_ws := (g_at 174 (by decide +kernel) (by decide +kernel))
set_option maxRecDepth 20000 in
theorem fl_X6_25 : fl_ok RX6 25 10 4 := ⟨_, rfl, by decide, Or.inl (g_at 119 (by decide +kernel) (by decide +kernel))⟩
set_option maxRecDepth 20000 in
theorem cl_X6_296 : Cond.classLink RX6 296 "VeneerLoft$Offcut" ∈ g_ws := (g_at 176 (by decide +kernel) (by decide +kernel))
set_option maxRecDepth 20000 in
theorem fl_X6_298 : fl_ok RX6 298 6 0 := ⟨_, rfl, by decide, Or.inl (g_at 853 (by decide +kernel) (by decide +kernel))⟩
set_option maxRecDepth 20000 in
theorem md_X6_checksum : md_ok yX6_checksum cX6_checksum 4 (some .long) 0 := ⟨g_at 180 (by decide +kernel) (by decide +kernel), (g_at 38 (by decide +kernel) (by decide +kernel)), by decide, ⟨by decide, by decide⟩, by decide +kernel, by decide⟩
set_option maxRecDepth 20000 in
theorem mi_X6_checksum : Cond.instanceMethod yX6_checksum ∈ g_ws := (g_at 178 (by decide +kernel) (by decide +kernel))
set_option maxRecDepth 20000 in
theorem me_X6_checksum : Cond.selects RX6 yX6_checksum yX6_checksum ∈ g_ws := (g_at 179 (by decide +kernel) (by decide +kernel))
set_option maxRecDepth 20000 in
theorem cn_X6_330 : Cond.constantLong RX6 330 (7) ∈ g_ws := (g_at 181 (by decide +kernel) (by decide +kernel))
set_option maxRecDepth 20000 in
theorem fl_X6_16 : fl_ok RX6 16 10 1 := ⟨_, rfl, by decide, Or.inl (g_at 116 (by decide +kernel) (by decide +kernel))⟩
set_option maxRecDepth 20000 in
theorem cn_X6_332 : Cond.constantLong RX6 332 (31) ∈ g_ws := (g_at 182 (by decide +kernel) (by decide +kernel))
set_option maxRecDepth 20000 in
theorem cl_X6_76 : Cond.classLink RX6 76 "VeneerLoft$Flitch" ∈ g_ws := (g_at 183 (by decide +kernel) (by decide +kernel))
set_option maxRecDepth 20000 in
theorem fl_X6_324 : fl_ok RX6 324 4 7 := ⟨_, rfl, by decide, Or.inl (g_at 651 (by decide +kernel) (by decide +kernel))⟩
set_option maxRecDepth 20000 in
theorem md_X4_worth : md_ok yX4_worth cX4_worth 2 (some .int) 0 := ⟨g_at 187 (by decide +kernel) (by decide +kernel), (g_at 65 (by decide +kernel) (by decide +kernel)), by decide, ⟨by decide, by decide⟩, by decide +kernel, by decide⟩
set_option maxRecDepth 20000 in
theorem mi_X4_worth : Cond.instanceMethod yX4_worth ∈ g_ws := (g_at 185 (by decide +kernel) (by decide +kernel))
set_option maxRecDepth 20000 in
theorem me_X4_worth : Cond.selects RX4 yX4_worth yX4_worth ∈ g_ws := (g_at 186 (by decide +kernel) (by decide +kernel))
set_option maxRecDepth 20000 in
theorem mt_X6_321 : mt_ok RX6 321 yX4_worth cX4_worth 2 (some .int) 0 := ⟨(g_at 184 (by decide +kernel) (by decide +kernel)), md_X4_worth⟩
set_option maxRecDepth 20000 in
theorem fl_X6_22 : fl_ok RX6 22 10 3 := ⟨_, rfl, by decide, Or.inl (g_at 118 (by decide +kernel) (by decide +kernel))⟩
set_option maxRecDepth 20000 in
theorem cl_X6_226 : Cond.classLink RX6 226 "VeneerLoft$Picture" ∈ g_ws := (g_at 192 (by decide +kernel) (by decide +kernel))
set_option maxRecDepth 20000 in
theorem fl_X6_248 : fl_ok RX6 248 9 5 := ⟨_, rfl, by decide, Or.inl (g_at 1019 (by decide +kernel) (by decide +kernel))⟩
set_option maxRecDepth 20000 in
theorem fl_X6_270 : fl_ok RX6 270 10 10 := ⟨_, rfl, by decide, Or.inl (g_at 125 (by decide +kernel) (by decide +kernel))⟩
set_option maxRecDepth 20000 in
theorem fl_X4_73 : fl_ok RX4 73 8 7 := ⟨_, rfl, by decide, Or.inl (g_at 748 (by decide +kernel) (by decide +kernel))⟩
set_option maxRecDepth 20000 in
theorem fl_X4_28 : fl_ok RX4 28 8 4 := ⟨_, rfl, by decide, Or.inl (g_at 743 (by decide +kernel) (by decide +kernel))⟩
set_option maxRecDepth 20000 in
theorem fl_X4_77 : fl_ok RX4 77 7 2 := ⟨_, rfl, by decide, Or.inl (g_at 824 (by decide +kernel) (by decide +kernel))⟩
set_option maxRecDepth 20000 in
theorem md_X4_surface : md_ok yX4_surface cX4_surface 1 (some .int) 0 := ⟨g_at 191 (by decide +kernel) (by decide +kernel), (g_at 65 (by decide +kernel) (by decide +kernel)), by decide, ⟨by decide, by decide⟩, by decide +kernel, by decide⟩
set_option maxRecDepth 20000 in
theorem mi_X4_surface : Cond.instanceMethod yX4_surface ∈ g_ws := (g_at 189 (by decide +kernel) (by decide +kernel))
set_option maxRecDepth 20000 in
theorem me_X4_surface : Cond.selects RX4 yX4_surface yX4_surface ∈ g_ws := (g_at 190 (by decide +kernel) (by decide +kernel))
set_option maxRecDepth 20000 in
theorem mt_X4_80 : mt_ok RX4 80 yX4_surface cX4_surface 1 (some .int) 0 := ⟨(g_at 188 (by decide +kernel) (by decide +kernel)), md_X4_surface⟩
set_option maxRecDepth 20000 in
theorem fl_X4_36 : fl_ok RX4 36 8 5 := ⟨_, rfl, by decide, Or.inl (g_at 745 (by decide +kernel) (by decide +kernel))⟩
set_option maxRecDepth 20000 in
theorem fl_X4_67 : fl_ok RX4 67 8 11 := ⟨_, rfl, by decide, Or.inl (g_at 756 (by decide +kernel) (by decide +kernel))⟩
set_option maxRecDepth 20000 in
theorem fl_X4_84 : fl_ok RX4 84 8 9 := ⟨_, rfl, by decide, Or.inl (g_at 752 (by decide +kernel) (by decide +kernel))⟩
set_option maxRecDepth 20000 in
theorem fl_X4_70 : fl_ok RX4 70 8 13 := ⟨_, rfl, by decide, Or.inl (g_at 760 (by decide +kernel) (by decide +kernel))⟩
set_option maxRecDepth 20000 in
theorem fl_X4_9 : fl_ok RX4 9 8 0 := ⟨_, rfl, by decide, Or.inl (g_at 736 (by decide +kernel) (by decide +kernel))⟩
set_option maxRecDepth 20000 in
theorem fl_X4_15 : fl_ok RX4 15 8 1 := ⟨_, rfl, by decide, Or.inl (g_at 738 (by decide +kernel) (by decide +kernel))⟩
set_option maxRecDepth 20000 in
theorem md_X6_isTrue : md_ok yX6_isTrue cX6_isTrue 1 (some .boolean) 0 := ⟨g_at 196 (by decide +kernel) (by decide +kernel), (g_at 38 (by decide +kernel) (by decide +kernel)), by decide, ⟨by decide, by decide⟩, by decide +kernel, by decide⟩
set_option maxRecDepth 20000 in
theorem mi_X6_isTrue : Cond.instanceMethod yX6_isTrue ∈ g_ws := (g_at 194 (by decide +kernel) (by decide +kernel))
set_option maxRecDepth 20000 in
theorem me_X6_isTrue : Cond.selects RX6 yX6_isTrue yX6_isTrue ∈ g_ws := (g_at 195 (by decide +kernel) (by decide +kernel))
set_option maxRecDepth 20000 in
theorem md_X6_areasAgree : md_ok yX6_areasAgree cX6_areasAgree 5 (some .boolean) 0 := ⟨g_at 200 (by decide +kernel) (by decide +kernel), (g_at 38 (by decide +kernel) (by decide +kernel)), by decide, ⟨by decide, by decide⟩, by decide +kernel, by decide⟩
set_option maxRecDepth 20000 in
theorem mi_X6_areasAgree : Cond.instanceMethod yX6_areasAgree ∈ g_ws := (g_at 199 (by decide +kernel) (by decide +kernel))
set_option maxRecDepth 20000 in
theorem me_X6_areasAgree : Cond.selects RX6 yX6_areasAgree yX6_areasAgree ∈ g_ws := (g_at 0 (by decide +kernel) (by decide +kernel))
set_option maxRecDepth 20000 in
theorem mt_X6_334 : mt_ok RX6 334 yX6_areasAgree cX6_areasAgree 5 (some .boolean) 0 := ⟨(g_at 197 (by decide +kernel) (by decide +kernel)), md_X6_areasAgree⟩
set_option maxRecDepth 20000 in
theorem md_X6_usesAgree : md_ok yX6_usesAgree cX6_usesAgree 4 (some .boolean) 0 := ⟨g_at 233 (by decide +kernel) (by decide +kernel), (g_at 38 (by decide +kernel) (by decide +kernel)), by decide, ⟨by decide, by decide⟩, by decide +kernel, by decide⟩
set_option maxRecDepth 20000 in
theorem mi_X6_usesAgree : Cond.instanceMethod yX6_usesAgree ∈ g_ws := (g_at 232 (by decide +kernel) (by decide +kernel))
set_option maxRecDepth 20000 in
theorem me_X6_usesAgree : Cond.selects RX6 yX6_usesAgree yX6_usesAgree ∈ g_ws := (g_at 4 (by decide +kernel) (by decide +kernel))
set_option maxRecDepth 20000 in
theorem mt_X6_337 : mt_ok RX6 337 yX6_usesAgree cX6_usesAgree 4 (some .boolean) 0 := ⟨(g_at 230 (by decide +kernel) (by decide +kernel)), md_X6_usesAgree⟩
set_option maxRecDepth 20000 in
theorem md_X6_placesAgree : md_ok yX6_placesAgree cX6_placesAgree 2 (some .boolean) 0 := ⟨g_at 248 (by decide +kernel) (by decide +kernel), (g_at 38 (by decide +kernel) (by decide +kernel)), by decide, ⟨by decide, by decide⟩, by decide +kernel, by decide⟩
set_option maxRecDepth 20000 in
theorem mi_X6_placesAgree : Cond.instanceMethod yX6_placesAgree ∈ g_ws := (g_at 247 (by decide +kernel) (by decide +kernel))
set_option maxRecDepth 20000 in
theorem me_X6_placesAgree : Cond.selects RX6 yX6_placesAgree yX6_placesAgree ∈ g_ws := (g_at 6 (by decide +kernel) (by decide +kernel))
set_option maxRecDepth 20000 in
theorem mt_X6_340 : mt_ok RX6 340 yX6_placesAgree cX6_placesAgree 2 (some .boolean) 0 := ⟨(g_at 245 (by decide +kernel) (by decide +kernel)), md_X6_placesAgree⟩
set_option maxRecDepth 20000 in
theorem fl_X6_85 : fl_ok RX6 85 4 3 := ⟨_, rfl, by decide, Or.inl (g_at 646 (by decide +kernel) (by decide +kernel))⟩
set_option maxRecDepth 20000 in
theorem md_X0_areaOf : md_ok yX0_areaOf cX0_areaOf 2 (some .int) 1 := ⟨g_at 204 (by decide +kernel) (by decide +kernel), (g_at 63 (by decide +kernel) (by decide +kernel)), by decide, ⟨by decide, by decide⟩, by decide +kernel, by decide⟩
set_option maxRecDepth 20000 in
theorem mi_X0_areaOf : Cond.instanceMethod yX0_areaOf ∈ g_ws := (g_at 202 (by decide +kernel) (by decide +kernel))
set_option maxRecDepth 20000 in
theorem me_X0_areaOf : Cond.selects RX0 yX0_areaOf yX0_areaOf ∈ g_ws := (g_at 203 (by decide +kernel) (by decide +kernel))
set_option maxRecDepth 20000 in
theorem mt_X6_96 : mt_ok RX6 96 yX0_areaOf cX0_areaOf 2 (some .int) 1 := ⟨(g_at 201 (by decide +kernel) (by decide +kernel)), md_X0_areaOf⟩
set_option maxRecDepth 20000 in
theorem fl_X6_149 : fl_ok RX6 149 10 6 := ⟨_, rfl, by decide, Or.inl (g_at 121 (by decide +kernel) (by decide +kernel))⟩
set_option maxRecDepth 20000 in
theorem fl_X6_165 : fl_ok RX6 165 10 7 := ⟨_, rfl, by decide, Or.inl (g_at 122 (by decide +kernel) (by decide +kernel))⟩
set_option maxRecDepth 20000 in
theorem fl_X6_267 : fl_ok RX6 267 10 8 := ⟨_, rfl, by decide, Or.inl (g_at 123 (by decide +kernel) (by decide +kernel))⟩
set_option maxRecDepth 20000 in
theorem md_X6_offcutArea : md_ok yX6_offcutArea cX6_offcutArea 3 (some .int) 0 := ⟨g_at 217 (by decide +kernel) (by decide +kernel), (g_at 38 (by decide +kernel) (by decide +kernel)), by decide, ⟨by decide, by decide⟩, by decide +kernel, by decide⟩
set_option maxRecDepth 20000 in
theorem mi_X6_offcutArea : Cond.instanceMethod yX6_offcutArea ∈ g_ws := (g_at 216 (by decide +kernel) (by decide +kernel))
set_option maxRecDepth 20000 in
theorem me_X6_offcutArea : Cond.selects RX6 yX6_offcutArea yX6_offcutArea ∈ g_ws := (g_at 2 (by decide +kernel) (by decide +kernel))
set_option maxRecDepth 20000 in
theorem mt_X6_315 : mt_ok RX6 315 yX6_offcutArea cX6_offcutArea 3 (some .int) 0 := ⟨(g_at 214 (by decide +kernel) (by decide +kernel)), md_X6_offcutArea⟩
set_option maxRecDepth 20000 in
theorem fl_X6_311 : fl_ok RX6 311 10 9 := ⟨_, rfl, by decide, Or.inl (g_at 124 (by decide +kernel) (by decide +kernel))⟩
set_option maxRecDepth 20000 in
theorem md_X6_unusedArea : md_ok yX6_unusedArea cX6_unusedArea 5 (some .int) 0 := ⟨g_at 225 (by decide +kernel) (by decide +kernel), (g_at 38 (by decide +kernel) (by decide +kernel)), by decide, ⟨by decide, by decide⟩, by decide +kernel, by decide⟩
set_option maxRecDepth 20000 in
theorem mi_X6_unusedArea : Cond.instanceMethod yX6_unusedArea ∈ g_ws := (g_at 224 (by decide +kernel) (by decide +kernel))
set_option maxRecDepth 20000 in
theorem me_X6_unusedArea : Cond.selects RX6 yX6_unusedArea yX6_unusedArea ∈ g_ws := (g_at 3 (by decide +kernel) (by decide +kernel))
set_option maxRecDepth 20000 in
theorem mt_X6_318 : mt_ok RX6 318 yX6_unusedArea cX6_unusedArea 5 (some .int) 0 := ⟨(g_at 222 (by decide +kernel) (by decide +kernel)), md_X6_unusedArea⟩
set_option maxRecDepth 20000 in
theorem md_X0_widthOf : md_ok yX0_widthOf cX0_widthOf 2 (some .int) 1 := ⟨g_at 208 (by decide +kernel) (by decide +kernel), (g_at 63 (by decide +kernel) (by decide +kernel)), by decide, ⟨by decide, by decide⟩, by decide +kernel, by decide⟩
set_option maxRecDepth 20000 in
theorem mi_X0_widthOf : Cond.instanceMethod yX0_widthOf ∈ g_ws := (g_at 206 (by decide +kernel) (by decide +kernel))
set_option maxRecDepth 20000 in
theorem me_X0_widthOf : Cond.selects RX0 yX0_widthOf yX0_widthOf ∈ g_ws := (g_at 207 (by decide +kernel) (by decide +kernel))
set_option maxRecDepth 20000 in
theorem mt_X0_86 : mt_ok RX0 86 yX0_widthOf cX0_widthOf 2 (some .int) 1 := ⟨(g_at 205 (by decide +kernel) (by decide +kernel)), md_X0_widthOf⟩
set_option maxRecDepth 20000 in
theorem fl_X0_31 : fl_ok RX0 31 4 1 := ⟨_, rfl, by decide, Or.inl (g_at 641 (by decide +kernel) (by decide +kernel))⟩
set_option maxRecDepth 20000 in
theorem md_X0_hasLeaf : md_ok yX0_hasLeaf cX0_hasLeaf 2 (some .boolean) 1 := ⟨g_at 213 (by decide +kernel) (by decide +kernel), (g_at 63 (by decide +kernel) (by decide +kernel)), by decide, ⟨by decide, by decide⟩, by decide +kernel, by decide⟩
set_option maxRecDepth 20000 in
theorem mi_X0_hasLeaf : Cond.instanceMethod yX0_hasLeaf ∈ g_ws := (g_at 211 (by decide +kernel) (by decide +kernel))
set_option maxRecDepth 20000 in
theorem me_X0_hasLeaf : Cond.selects RX0 yX0_hasLeaf yX0_hasLeaf ∈ g_ws := (g_at 1 (by decide +kernel) (by decide +kernel))
set_option maxRecDepth 20000 in
theorem mt_X0_82 : mt_ok RX0 82 yX0_hasLeaf cX0_hasLeaf 2 (some .boolean) 1 := ⟨(g_at 209 (by decide +kernel) (by decide +kernel)), md_X0_hasLeaf⟩
set_option maxRecDepth 20000 in
theorem fl_X0_9 : fl_ok RX0 9 4 4 := ⟨_, rfl, by decide, Or.inl (g_at 647 (by decide +kernel) (by decide +kernel))⟩
set_option maxRecDepth 20000 in
theorem fl_X0_45 : fl_ok RX0 45 4 3 := ⟨_, rfl, by decide, Or.inl (g_at 645 (by decide +kernel) (by decide +kernel))⟩
set_option maxRecDepth 20000 in
theorem md_X2_surface : md_ok yX2_surface cX2_surface 1 (some .int) 0 := ⟨g_at 221 (by decide +kernel) (by decide +kernel), (g_at 71 (by decide +kernel) (by decide +kernel)), by decide, ⟨by decide, by decide⟩, by decide +kernel, by decide⟩
set_option maxRecDepth 20000 in
theorem mi_X2_surface : Cond.instanceMethod yX2_surface ∈ g_ws := (g_at 219 (by decide +kernel) (by decide +kernel))
set_option maxRecDepth 20000 in
theorem me_X2_surface : Cond.selects RX2 yX2_surface yX2_surface ∈ g_ws := (g_at 220 (by decide +kernel) (by decide +kernel))
set_option maxRecDepth 20000 in
theorem mt_X6_314 : mt_ok RX6 314 yX2_surface cX2_surface 1 (some .int) 0 := ⟨(g_at 218 (by decide +kernel) (by decide +kernel)), md_X2_surface⟩
set_option maxRecDepth 20000 in
theorem fl_X2_7 : fl_ok RX2 7 6 0 := ⟨_, rfl, by decide, Or.inl (g_at 852 (by decide +kernel) (by decide +kernel))⟩
set_option maxRecDepth 20000 in
theorem fl_X2_13 : fl_ok RX2 13 6 1 := ⟨_, rfl, by decide, Or.inl (g_at 854 (by decide +kernel) (by decide +kernel))⟩
set_option maxRecDepth 20000 in
theorem md_X0_isTaken : md_ok yX0_isTaken cX0_isTaken 2 (some .boolean) 1 := ⟨g_at 229 (by decide +kernel) (by decide +kernel), (g_at 63 (by decide +kernel) (by decide +kernel)), by decide, ⟨by decide, by decide⟩, by decide +kernel, by decide⟩
set_option maxRecDepth 20000 in
theorem mi_X0_isTaken : Cond.instanceMethod yX0_isTaken ∈ g_ws := (g_at 227 (by decide +kernel) (by decide +kernel))
set_option maxRecDepth 20000 in
theorem me_X0_isTaken : Cond.selects RX0 yX0_isTaken yX0_isTaken ∈ g_ws := (g_at 228 (by decide +kernel) (by decide +kernel))
set_option maxRecDepth 20000 in
theorem mt_X6_102 : mt_ok RX6 102 yX0_isTaken cX0_isTaken 2 (some .boolean) 1 := ⟨(g_at 226 (by decide +kernel) (by decide +kernel)), md_X0_isTaken⟩
set_option maxRecDepth 20000 in
theorem fl_X0_18 : fl_ok RX0 18 4 6 := ⟨_, rfl, by decide, Or.inl (g_at 649 (by decide +kernel) (by decide +kernel))⟩
set_option maxRecDepth 20000 in
theorem md_X6_countUses : md_ok yX6_countUses cX6_countUses 6 (some .int) 2 := ⟨g_at 237 (by decide +kernel) (by decide +kernel), (g_at 38 (by decide +kernel) (by decide +kernel)), by decide, ⟨by decide, by decide⟩, by decide +kernel, by decide⟩
set_option maxRecDepth 20000 in
theorem mi_X6_countUses : Cond.instanceMethod yX6_countUses ∈ g_ws := (g_at 236 (by decide +kernel) (by decide +kernel))
set_option maxRecDepth 20000 in
theorem me_X6_countUses : Cond.selects RX6 yX6_countUses yX6_countUses ∈ g_ws := (g_at 5 (by decide +kernel) (by decide +kernel))
set_option maxRecDepth 20000 in
theorem mt_X6_376 : mt_ok RX6 376 yX6_countUses cX6_countUses 6 (some .int) 2 := ⟨(g_at 234 (by decide +kernel) (by decide +kernel)), md_X6_countUses⟩
set_option maxRecDepth 20000 in
theorem fl_X6_123 : fl_ok RX6 123 8 4 := ⟨_, rfl, by decide, Or.inl (g_at 744 (by decide +kernel) (by decide +kernel))⟩
set_option maxRecDepth 20000 in
theorem md_X6_usesIn : md_ok yX6_usesIn cX6_usesIn 3 (some .int) 3 := ⟨g_at 240 (by decide +kernel) (by decide +kernel), (g_at 38 (by decide +kernel) (by decide +kernel)), by decide, ⟨by decide, by decide⟩, by decide +kernel, by decide⟩
set_option maxRecDepth 20000 in
theorem ms_X6_usesIn : Cond.static yX6_usesIn ∈ g_ws := (g_at 239 (by decide +kernel) (by decide +kernel))
set_option maxRecDepth 20000 in
theorem mt_X6_380 : mt_ok RX6 380 yX6_usesIn cX6_usesIn 3 (some .int) 3 := ⟨(g_at 238 (by decide +kernel) (by decide +kernel)), md_X6_usesIn⟩
set_option maxRecDepth 20000 in
theorem fl_X6_159 : fl_ok RX6 159 8 5 := ⟨_, rfl, by decide, Or.inl (g_at 746 (by decide +kernel) (by decide +kernel))⟩
set_option maxRecDepth 20000 in
theorem fl_X6_241 : fl_ok RX6 241 9 4 := ⟨_, rfl, by decide, Or.inl (g_at 1017 (by decide +kernel) (by decide +kernel))⟩
set_option maxRecDepth 20000 in
theorem md_X3_holds : md_ok yX3_holds cX3_holds 3 (some .boolean) 2 := ⟨g_at 244 (by decide +kernel) (by decide +kernel), (g_at 70 (by decide +kernel) (by decide +kernel)), by decide, ⟨by decide, by decide⟩, by decide +kernel, by decide⟩
set_option maxRecDepth 20000 in
theorem mi_X3_holds : Cond.instanceMethod yX3_holds ∈ g_ws := (g_at 242 (by decide +kernel) (by decide +kernel))
set_option maxRecDepth 20000 in
theorem me_X3_holds : Cond.selects RX3 yX3_holds yX3_holds ∈ g_ws := (g_at 243 (by decide +kernel) (by decide +kernel))
set_option maxRecDepth 20000 in
theorem mt_X6_384 : mt_ok RX6 384 yX3_holds cX3_holds 3 (some .boolean) 2 := ⟨(g_at 241 (by decide +kernel) (by decide +kernel)), md_X3_holds⟩
set_option maxRecDepth 20000 in
theorem fl_X3_7 : fl_ok RX3 7 7 0 := ⟨_, rfl, by decide, Or.inl (g_at 819 (by decide +kernel) (by decide +kernel))⟩
set_option maxRecDepth 20000 in
theorem fl_X3_13 : fl_ok RX3 13 7 1 := ⟨_, rfl, by decide, Or.inl (g_at 821 (by decide +kernel) (by decide +kernel))⟩
set_option maxRecDepth 20000 in
theorem fl_X3_17 : fl_ok RX3 17 7 2 := ⟨_, rfl, by decide, Or.inl (g_at 823 (by decide +kernel) (by decide +kernel))⟩
set_option maxRecDepth 20000 in
theorem fl_X6_388 : fl_ok RX6 388 9 7 := ⟨_, rfl, by decide, Or.inl (g_at 1023 (by decide +kernel) (by decide +kernel))⟩
set_option maxRecDepth 20000 in
theorem md_X6_log : md_ok yX6_log cX6_log 6 (some .int) 4 := ⟨g_at 257 (by decide +kernel) (by decide +kernel), (g_at 38 (by decide +kernel) (by decide +kernel)), by decide, ⟨by decide, by decide⟩, by decide +kernel, by decide⟩
set_option maxRecDepth 20000 in
theorem mi_X6_log : Cond.instanceMethod yX6_log ∈ g_ws := (g_at 255 (by decide +kernel) (by decide +kernel))
set_option maxRecDepth 20000 in
theorem me_X6_log : Cond.selects RX6 yX6_log yX6_log ∈ g_ws := (g_at 256 (by decide +kernel) (by decide +kernel))
set_option maxRecDepth 20000 in
theorem mt_L_7 : mt_ok RL 7 yX6_log cX6_log 6 (some .int) 4 := ⟨(g_at 254 (by decide +kernel) (by decide +kernel)), md_X6_log⟩
set_option maxRecDepth 20000 in
theorem md_X6_isOneOf : md_ok yX6_isOneOf cX6_isOneOf 2 (some .boolean) 2 := ⟨g_at 261 (by decide +kernel) (by decide +kernel), (g_at 38 (by decide +kernel) (by decide +kernel)), by decide, ⟨by decide, by decide⟩, by decide +kernel, by decide⟩
set_option maxRecDepth 20000 in
theorem ms_X6_isOneOf : Cond.static yX6_isOneOf ∈ g_ws := (g_at 260 (by decide +kernel) (by decide +kernel))
set_option maxRecDepth 20000 in
theorem mt_X6_34 : mt_ok RX6 34 yX6_isOneOf cX6_isOneOf 2 (some .boolean) 2 := ⟨(g_at 259 (by decide +kernel) (by decide +kernel)), md_X6_isOneOf⟩
set_option maxRecDepth 20000 in
theorem md_X6_isIn : md_ok yX6_isIn cX6_isIn 3 (some .boolean) 3 := ⟨g_at 351 (by decide +kernel) (by decide +kernel), (g_at 38 (by decide +kernel) (by decide +kernel)), by decide, ⟨by decide, by decide⟩, by decide +kernel, by decide⟩
set_option maxRecDepth 20000 in
theorem ms_X6_isIn : Cond.static yX6_isIn ∈ g_ws := (g_at 350 (by decide +kernel) (by decide +kernel))
set_option maxRecDepth 20000 in
theorem mt_X6_40 : mt_ok RX6 40 yX6_isIn cX6_isIn 3 (some .boolean) 3 := ⟨(g_at 349 (by decide +kernel) (by decide +kernel)), md_X6_isIn⟩
set_option maxRecDepth 20000 in
theorem cl_X6_44 : Cond.classLink RX6 44 "java/lang/IllegalArgumentException" ∈ g_ws := (g_at 352 (by decide +kernel) (by decide +kernel))
set_option maxRecDepth 20000 in
theorem th_X6_44_46 : th_ok RX6 44 46 "java/lang/IllegalArgumentException" := ⟨by decide, cl_X6_44, (g_at 52 (by decide +kernel) (by decide +kernel)), by decide +kernel, by decide +kernel⟩
set_option maxRecDepth 20000 in
theorem fl_X6_10 : fl_ok RX6 10 10 0 := ⟨_, rfl, by decide, Or.inl (g_at 115 (by decide +kernel) (by decide +kernel))⟩
set_option maxRecDepth 20000 in
theorem cl_X6_51 : Cond.classLink RX6 51 "java/lang/IllegalStateException" ∈ g_ws := (g_at 421 (by decide +kernel) (by decide +kernel))
set_option maxRecDepth 20000 in
theorem th_X6_51_53 : th_ok RX6 51 53 "java/lang/IllegalStateException" := ⟨by decide, cl_X6_51, (g_at 53 (by decide +kernel) (by decide +kernel)), by decide +kernel, by decide +kernel⟩
set_option maxRecDepth 20000 in
theorem cl_X6_54 : Cond.classLink RX6 54 "VeneerLoft$Log" ∈ g_ws := (g_at 436 (by decide +kernel) (by decide +kernel))
set_option maxRecDepth 20000 in
theorem nw_X6_54 : nw_ok RX6 54 5 5 := ⟨_, rfl, (g_at 436 (by decide +kernel) (by decide +kernel)), (g_at 437 (by decide +kernel) (by decide +kernel)), (g_at 54 (by decide +kernel) (by decide +kernel))⟩
set_option maxRecDepth 20000 in
theorem md_X1_init : md_ok yX1_init cX1_init 5 ((none : Option Jvm.ClassFile.FieldType)) 4 := ⟨g_at 440 (by decide +kernel) (by decide +kernel), (g_at 54 (by decide +kernel) (by decide +kernel)), by decide, ⟨by decide, by decide⟩, by decide +kernel, by decide⟩
set_option maxRecDepth 20000 in
theorem mi_X1_init : Cond.instanceMethod yX1_init ∈ g_ws := (g_at 439 (by decide +kernel) (by decide +kernel))
set_option maxRecDepth 20000 in
theorem mt_X6_56 : mt_ok RX6 56 yX1_init cX1_init 5 ((none : Option Jvm.ClassFile.FieldType)) 4 := ⟨(g_at 438 (by decide +kernel) (by decide +kernel)), md_X1_init⟩
set_option maxRecDepth 20000 in
theorem md_Jx4a65c_add_9ea2d : md_ok yJx4a65c_add_9ea2d cJx4a65c_add_9ea2d 2 (some .boolean) 1 := ⟨g_at 465 (by decide +kernel) (by decide +kernel), (g_at 41 (by decide +kernel) (by decide +kernel)), by decide, ⟨by decide, by decide⟩, by decide +kernel, by decide⟩
set_option maxRecDepth 20000 in
theorem mi_Jx4a65c_add_9ea2d : Cond.instanceMethod yJx4a65c_add_9ea2d ∈ g_ws := (g_at 463 (by decide +kernel) (by decide +kernel))
set_option maxRecDepth 20000 in
theorem me_Jx4a65c_add_9ea2d : Cond.selects RJx4a65c yJx4a65c_add_9ea2d yJx4a65c_add_9ea2d ∈ g_ws := (g_at 464 (by decide +kernel) (by decide +kernel))
set_option maxRecDepth 20000 in
theorem mt_X6_59 : mt_ok RX6 59 yJx4a65c_add_9ea2d cJx4a65c_add_9ea2d 2 (some .boolean) 1 := ⟨(g_at 462 (by decide +kernel) (by decide +kernel)), md_Jx4a65c_add_9ea2d⟩
set_option maxRecDepth 20000 in
theorem md_J0_indexOf_0f7a4 : md_ok yJ0_indexOf_0f7a4 cJ0_indexOf_0f7a4 2 (some .int) 1 := ⟨g_at 265 (by decide +kernel) (by decide +kernel), (g_at 43 (by decide +kernel) (by decide +kernel)), by decide, ⟨by decide, by decide⟩, by decide +kernel, by decide⟩
set_option maxRecDepth 20000 in
theorem mi_J0_indexOf_0f7a4 : Cond.instanceMethod yJ0_indexOf_0f7a4 ∈ g_ws := (g_at 263 (by decide +kernel) (by decide +kernel))
set_option maxRecDepth 20000 in
theorem me_J0_indexOf_0f7a4 : Cond.selects RJ0 yJ0_indexOf_0f7a4 yJ0_indexOf_0f7a4 ∈ g_ws := (g_at 264 (by decide +kernel) (by decide +kernel))
set_option maxRecDepth 20000 in
theorem mt_X6_349 : mt_ok RX6 349 yJ0_indexOf_0f7a4 cJ0_indexOf_0f7a4 2 (some .int) 1 := ⟨(g_at 262 (by decide +kernel) (by decide +kernel)), md_J0_indexOf_0f7a4⟩
set_option maxRecDepth 20000 in
theorem md_J0_indexOf_7cf53 : md_ok yJ0_indexOf_7cf53 cJ0_indexOf_7cf53 3 (some .int) 2 := ⟨g_at 269 (by decide +kernel) (by decide +kernel), (g_at 43 (by decide +kernel) (by decide +kernel)), by decide, ⟨by decide, by decide⟩, by decide +kernel, by decide⟩
set_option maxRecDepth 20000 in
theorem mi_J0_indexOf_7cf53 : Cond.instanceMethod yJ0_indexOf_7cf53 ∈ g_ws := (g_at 267 (by decide +kernel) (by decide +kernel))
set_option maxRecDepth 20000 in
theorem me_J0_indexOf_7cf53 : Cond.selects RJ0 yJ0_indexOf_7cf53 yJ0_indexOf_7cf53 ∈ g_ws := (g_at 268 (by decide +kernel) (by decide +kernel))
set_option maxRecDepth 20000 in
theorem mt_J0_633 : mt_ok RJ0 633 yJ0_indexOf_7cf53 cJ0_indexOf_7cf53 3 (some .int) 2 := ⟨(g_at 266 (by decide +kernel) (by decide +kernel)), md_J0_indexOf_7cf53⟩
set_option maxRecDepth 20000 in
theorem md_J0_isLatin1_aae02 : md_ok yJ0_isLatin1_aae02 cJ0_isLatin1_aae02 1 (some .boolean) 0 := ⟨g_at 273 (by decide +kernel) (by decide +kernel), (g_at 43 (by decide +kernel) (by decide +kernel)), by decide, ⟨by decide, by decide⟩, by decide +kernel, by decide⟩
set_option maxRecDepth 20000 in
theorem mi_J0_isLatin1_aae02 : Cond.instanceMethod yJ0_isLatin1_aae02 ∈ g_ws := (g_at 271 (by decide +kernel) (by decide +kernel))
set_option maxRecDepth 20000 in
theorem me_J0_isLatin1_aae02 : Cond.selects RJ0 yJ0_isLatin1_aae02 yJ0_isLatin1_aae02 ∈ g_ws := (g_at 272 (by decide +kernel) (by decide +kernel))
set_option maxRecDepth 20000 in
theorem mt_J0_492 : mt_ok RJ0 492 yJ0_isLatin1_aae02 cJ0_isLatin1_aae02 1 (some .boolean) 0 := ⟨(g_at 270 (by decide +kernel) (by decide +kernel)), md_J0_isLatin1_aae02⟩
set_option maxRecDepth 20000 in
theorem fl_J0_9 : fl_ok RJ0 9 0 0 := ⟨_, rfl, by decide, Or.inl (g_at 1934 (by decide +kernel) (by decide +kernel))⟩
set_option maxRecDepth 20000 in
theorem md_J0_length_8abf5 : md_ok yJ0_length_8abf5 cJ0_length_8abf5 1 (some .int) 0 := ⟨g_at 279 (by decide +kernel) (by decide +kernel), (g_at 43 (by decide +kernel) (by decide +kernel)), by decide, ⟨by decide, by decide⟩, by decide +kernel, by decide⟩
set_option maxRecDepth 20000 in
theorem mi_J0_length_8abf5 : Cond.instanceMethod yJ0_length_8abf5 ∈ g_ws := (g_at 277 (by decide +kernel) (by decide +kernel))
set_option maxRecDepth 20000 in
theorem me_J0_length_8abf5 : Cond.selects RJ0 yJ0_length_8abf5 yJ0_length_8abf5 ∈ g_ws := (g_at 278 (by decide +kernel) (by decide +kernel))
set_option maxRecDepth 20000 in
theorem mt_J0_505 : mt_ok RJ0 505 yJ0_length_8abf5 cJ0_length_8abf5 1 (some .int) 0 := ⟨(g_at 276 (by decide +kernel) (by decide +kernel)), md_J0_length_8abf5⟩
set_option maxRecDepth 20000 in
theorem md_J1_indexOf_4cfef : md_ok yJ1_indexOf_4cfef cJ1_indexOf_4cfef 4 (some .int) 4 := ⟨g_at 286 (by decide +kernel) (by decide +kernel), (g_at 44 (by decide +kernel) (by decide +kernel)), by decide, ⟨by decide, by decide⟩, by decide +kernel, by decide⟩
set_option maxRecDepth 20000 in
theorem ms_J1_indexOf_4cfef : Cond.static yJ1_indexOf_4cfef ∈ g_ws := (g_at 285 (by decide +kernel) (by decide +kernel))
set_option maxRecDepth 20000 in
theorem mt_J0_637 : mt_ok RJ0 637 yJ1_indexOf_4cfef cJ1_indexOf_4cfef 4 (some .int) 4 := ⟨(g_at 284 (by decide +kernel) (by decide +kernel)), md_J1_indexOf_4cfef⟩
set_option maxRecDepth 20000 in
theorem md_J2_indexOf_4cfef : md_ok yJ2_indexOf_4cfef cJ2_indexOf_4cfef 4 (some .int) 4 := ⟨g_at 301 (by decide +kernel) (by decide +kernel), (g_at 46 (by decide +kernel) (by decide +kernel)), by decide, ⟨by decide, by decide⟩, by decide +kernel, by decide⟩
set_option maxRecDepth 20000 in
theorem ms_J2_indexOf_4cfef : Cond.static yJ2_indexOf_4cfef ∈ g_ws := (g_at 300 (by decide +kernel) (by decide +kernel))
set_option maxRecDepth 20000 in
theorem mt_J0_640 : mt_ok RJ0 640 yJ2_indexOf_4cfef cJ2_indexOf_4cfef 4 (some .int) 4 := ⟨(g_at 299 (by decide +kernel) (by decide +kernel)), md_J2_indexOf_4cfef⟩
set_option maxRecDepth 20000 in
theorem gs_J0_38 : Cond.fieldLink RJ0 38 "java/lang/String" "COMPACT_STRINGS" "Z" ∈ g_ws := (g_at 274 (by decide +kernel) (by decide +kernel))
set_option maxRecDepth 20000 in
theorem fl_J0_15 : fl_ok RJ0 15 0 1 := ⟨_, rfl, by decide, Or.inl (g_at 1933 (by decide +kernel) (by decide +kernel))⟩
set_option maxRecDepth 20000 in
theorem md_J0_coder_7d493 : md_ok yJ0_coder_7d493 cJ0_coder_7d493 1 (some .byte) 0 := ⟨g_at 283 (by decide +kernel) (by decide +kernel), (g_at 43 (by decide +kernel) (by decide +kernel)), by decide, ⟨by decide, by decide⟩, by decide +kernel, by decide⟩
set_option maxRecDepth 20000 in
theorem mi_J0_coder_7d493 : Cond.instanceMethod yJ0_coder_7d493 ∈ g_ws := (g_at 281 (by decide +kernel) (by decide +kernel))
set_option maxRecDepth 20000 in
theorem me_J0_coder_7d493 : Cond.selects RJ0 yJ0_coder_7d493 yJ0_coder_7d493 ∈ g_ws := (g_at 282 (by decide +kernel) (by decide +kernel))
set_option maxRecDepth 20000 in
theorem mt_J0_335 : mt_ok RJ0 335 yJ0_coder_7d493 cJ0_coder_7d493 1 (some .byte) 0 := ⟨(g_at 280 (by decide +kernel) (by decide +kernel)), md_J0_coder_7d493⟩
set_option maxRecDepth 20000 in
theorem md_J1_canEncode_9a6ad : md_ok yJ1_canEncode_9a6ad cJ1_canEncode_9a6ad 1 (some .boolean) 1 := ⟨g_at 289 (by decide +kernel) (by decide +kernel), (g_at 44 (by decide +kernel) (by decide +kernel)), by decide, ⟨by decide, by decide⟩, by decide +kernel, by decide⟩
set_option maxRecDepth 20000 in
theorem ms_J1_canEncode_9a6ad : Cond.static yJ1_canEncode_9a6ad ∈ g_ws := (g_at 288 (by decide +kernel) (by decide +kernel))
set_option maxRecDepth 20000 in
theorem mt_J1_88 : mt_ok RJ1 88 yJ1_canEncode_9a6ad cJ1_canEncode_9a6ad 1 (some .boolean) 1 := ⟨(g_at 287 (by decide +kernel) (by decide +kernel)), md_J1_canEncode_9a6ad⟩
set_option maxRecDepth 20000 in
theorem ma_J1_92 : Cond.methodLink RJ1 92 Lib.Math.max.name ∈ g_ws := (g_at 290 (by decide +kernel) (by decide +kernel))
set_option maxRecDepth 20000 in
theorem ma_s_max : Cond.static Lib.Math.max.name ∈ g_ws ∧ Cond.code Lib.Math.max.name Lib.Math.max.code 2 (some .int) ∈ g_ws := ⟨(g_at 291 (by decide +kernel) (by decide +kernel)), g_at 292 (by decide +kernel) (by decide +kernel)⟩
set_option maxRecDepth 20000 in
theorem ma_J1_38 : Cond.methodLink RJ1 38 Lib.Math.min.name ∈ g_ws := (g_at 293 (by decide +kernel) (by decide +kernel))
set_option maxRecDepth 20000 in
theorem ma_s_min : Cond.static Lib.Math.min.name ∈ g_ws ∧ Cond.code Lib.Math.min.name Lib.Math.min.code 2 (some .int) ∈ g_ws := ⟨(g_at 294 (by decide +kernel) (by decide +kernel)), g_at 295 (by decide +kernel) (by decide +kernel)⟩
set_option maxRecDepth 20000 in
theorem md_J1_indexOfChar_4cfef : md_ok yJ1_indexOfChar_4cfef cJ1_indexOfChar_4cfef 6 (some .int) 4 := ⟨g_at 298 (by decide +kernel) (by decide +kernel), (g_at 44 (by decide +kernel) (by decide +kernel)), by decide, ⟨by decide, by decide⟩, by decide +kernel, by decide⟩
set_option maxRecDepth 20000 in
theorem ms_J1_indexOfChar_4cfef : Cond.static yJ1_indexOfChar_4cfef ∈ g_ws := (g_at 297 (by decide +kernel) (by decide +kernel))
set_option maxRecDepth 20000 in
theorem mt_J1_95 : mt_ok RJ1 95 yJ1_indexOfChar_4cfef cJ1_indexOfChar_4cfef 6 (some .int) 4 := ⟨(g_at 296 (by decide +kernel) (by decide +kernel)), md_J1_indexOfChar_4cfef⟩
set_option maxRecDepth 20000 in
theorem ma_J2_224 : Cond.methodLink RJ2 224 Lib.Math.max.name ∈ g_ws := (g_at 302 (by decide +kernel) (by decide +kernel))
set_option maxRecDepth 20000 in
theorem ma_J2_183 : Cond.methodLink RJ2 183 Lib.Math.min.name ∈ g_ws := (g_at 303 (by decide +kernel) (by decide +kernel))
set_option maxRecDepth 20000 in
theorem cn_J2_227 : Cond.constant RJ2 227 (65536) ∈ g_ws := (g_at 304 (by decide +kernel) (by decide +kernel))
set_option maxRecDepth 20000 in
theorem md_J2_indexOfChar_4cfef : md_ok yJ2_indexOfChar_4cfef cJ2_indexOfChar_4cfef 4 (some .int) 4 := ⟨g_at 307 (by decide +kernel) (by decide +kernel), (g_at 46 (by decide +kernel) (by decide +kernel)), by decide, ⟨by decide, by decide⟩, by decide +kernel, by decide⟩
set_option maxRecDepth 20000 in
theorem ms_J2_indexOfChar_4cfef : Cond.static yJ2_indexOfChar_4cfef ∈ g_ws := (g_at 306 (by decide +kernel) (by decide +kernel))
set_option maxRecDepth 20000 in
theorem mt_J2_228 : mt_ok RJ2 228 yJ2_indexOfChar_4cfef cJ2_indexOfChar_4cfef 4 (some .int) 4 := ⟨(g_at 305 (by decide +kernel) (by decide +kernel)), md_J2_indexOfChar_4cfef⟩
set_option maxRecDepth 20000 in
theorem md_J2_indexOfSupplementary_4cfef : md_ok yJ2_indexOfSupplementary_4cfef cJ2_indexOfSupplementary_4cfef 7 (some .int) 4 := ⟨g_at 336 (by decide +kernel) (by decide +kernel), (g_at 46 (by decide +kernel) (by decide +kernel)), by decide, ⟨by decide, by decide⟩, by decide +kernel, by decide⟩
set_option maxRecDepth 20000 in
theorem ms_J2_indexOfSupplementary_4cfef : Cond.static yJ2_indexOfSupplementary_4cfef ∈ g_ws := (g_at 335 (by decide +kernel) (by decide +kernel))
set_option maxRecDepth 20000 in
theorem mt_J2_232 : mt_ok RJ2 232 yJ2_indexOfSupplementary_4cfef cJ2_indexOfSupplementary_4cfef 7 (some .int) 4 := ⟨(g_at 334 (by decide +kernel) (by decide +kernel)), md_J2_indexOfSupplementary_4cfef⟩
set_option maxRecDepth 20000 in
theorem md_J2_checkBoundsBeginEnd_d044e : md_ok yJ2_checkBoundsBeginEnd_d044e cJ2_checkBoundsBeginEnd_d044e 3 ((none : Option Jvm.ClassFile.FieldType)) 3 := ⟨g_at 310 (by decide +kernel) (by decide +kernel), (g_at 46 (by decide +kernel) (by decide +kernel)), by decide, ⟨by decide, by decide⟩, by decide +kernel, by decide⟩
set_option maxRecDepth 20000 in
theorem ms_J2_checkBoundsBeginEnd_d044e : Cond.static yJ2_checkBoundsBeginEnd_d044e ∈ g_ws := (g_at 309 (by decide +kernel) (by decide +kernel))
set_option maxRecDepth 20000 in
theorem mt_J2_96 : mt_ok RJ2 96 yJ2_checkBoundsBeginEnd_d044e cJ2_checkBoundsBeginEnd_d044e 3 ((none : Option Jvm.ClassFile.FieldType)) 3 := ⟨(g_at 308 (by decide +kernel) (by decide +kernel)), md_J2_checkBoundsBeginEnd_d044e⟩
set_option maxRecDepth 20000 in
theorem md_J2_indexOfCharUnsafe_4cfef : md_ok yJ2_indexOfCharUnsafe_4cfef cJ2_indexOfCharUnsafe_4cfef 5 (some .int) 4 := ⟨g_at 324 (by decide +kernel) (by decide +kernel), (g_at 46 (by decide +kernel) (by decide +kernel)), by decide, ⟨by decide, by decide⟩, by decide +kernel, by decide⟩
set_option maxRecDepth 20000 in
theorem ms_J2_indexOfCharUnsafe_4cfef : Cond.static yJ2_indexOfCharUnsafe_4cfef ∈ g_ws := (g_at 323 (by decide +kernel) (by decide +kernel))
set_option maxRecDepth 20000 in
theorem mt_J2_244 : mt_ok RJ2 244 yJ2_indexOfCharUnsafe_4cfef cJ2_indexOfCharUnsafe_4cfef 5 (some .int) 4 := ⟨(g_at 322 (by decide +kernel) (by decide +kernel)), md_J2_indexOfCharUnsafe_4cfef⟩
set_option maxRecDepth 20000 in
theorem md_J2_length_9d52b : md_ok yJ2_length_9d52b cJ2_length_9d52b 1 (some .int) 1 := ⟨g_at 313 (by decide +kernel) (by decide +kernel), (g_at 46 (by decide +kernel) (by decide +kernel)), by decide, ⟨by decide, by decide⟩, by decide +kernel, by decide⟩
set_option maxRecDepth 20000 in
theorem ms_J2_length_9d52b : Cond.static yJ2_length_9d52b ∈ g_ws := (g_at 312 (by decide +kernel) (by decide +kernel))
set_option maxRecDepth 20000 in
theorem mt_J2_48 : mt_ok RJ2 48 yJ2_length_9d52b cJ2_length_9d52b 1 (some .int) 1 := ⟨(g_at 311 (by decide +kernel) (by decide +kernel)), md_J2_length_9d52b⟩
set_option maxRecDepth 20000 in
theorem md_J0_checkBoundsBeginEnd_23922 : md_ok yJ0_checkBoundsBeginEnd_23922 cJ0_checkBoundsBeginEnd_23922 3 ((none : Option Jvm.ClassFile.FieldType)) 3 := ⟨g_at 316 (by decide +kernel) (by decide +kernel), (g_at 43 (by decide +kernel) (by decide +kernel)), by decide, ⟨by decide, by decide⟩, by decide +kernel, by decide⟩
set_option maxRecDepth 20000 in
theorem ms_J0_checkBoundsBeginEnd_23922 : Cond.static yJ0_checkBoundsBeginEnd_23922 ∈ g_ws := (g_at 315 (by decide +kernel) (by decide +kernel))
set_option maxRecDepth 20000 in
theorem mt_J2_241 : mt_ok RJ2 241 yJ0_checkBoundsBeginEnd_23922 cJ0_checkBoundsBeginEnd_23922 3 ((none : Option Jvm.ClassFile.FieldType)) 3 := ⟨(g_at 314 (by decide +kernel) (by decide +kernel)), md_J0_checkBoundsBeginEnd_23922⟩
set_option maxRecDepth 20000 in
theorem gs_J0_1053 : Cond.fieldLink RJ0 1053 "jdk/internal/util/Preconditions" "SIOOBE_FORMATTER" "Ljava/util/function/BiFunction;" ∈ g_ws := (g_at 317 (by decide +kernel) (by decide +kernel))
set_option maxRecDepth 20000 in
theorem md_J3_checkFromToIndex_8c36e : md_ok yJ3_checkFromToIndex_8c36e cJ3_checkFromToIndex_8c36e 4 (some .int) 4 := ⟨g_at 321 (by decide +kernel) (by decide +kernel), (g_at 47 (by decide +kernel) (by decide +kernel)), by decide, ⟨by decide, by decide⟩, by decide +kernel, by decide⟩
set_option maxRecDepth 20000 in
theorem ms_J3_checkFromToIndex_8c36e : Cond.static yJ3_checkFromToIndex_8c36e ∈ g_ws := (g_at 320 (by decide +kernel) (by decide +kernel))
set_option maxRecDepth 20000 in
theorem mt_J0_1062 : mt_ok RJ0 1062 yJ3_checkFromToIndex_8c36e cJ3_checkFromToIndex_8c36e 4 (some .int) 4 := ⟨(g_at 319 (by decide +kernel) (by decide +kernel)), md_J3_checkFromToIndex_8c36e⟩
set_option maxRecDepth 20000 in
theorem md_J2_getChar_3b067 : md_ok yJ2_getChar_3b067 cJ2_getChar_3b067 2 (some .char) 2 := ⟨g_at 327 (by decide +kernel) (by decide +kernel), (g_at 46 (by decide +kernel) (by decide +kernel)), by decide, ⟨by decide, by decide⟩, by decide +kernel, by decide⟩
set_option maxRecDepth 20000 in
theorem ms_J2_getChar_3b067 : Cond.static yJ2_getChar_3b067 ∈ g_ws := (g_at 326 (by decide +kernel) (by decide +kernel))
set_option maxRecDepth 20000 in
theorem mt_J2_71 : mt_ok RJ2 71 yJ2_getChar_3b067 cJ2_getChar_3b067 2 (some .char) 2 := ⟨(g_at 325 (by decide +kernel) (by decide +kernel)), md_J2_getChar_3b067⟩
set_option maxRecDepth 20000 in
theorem gs_J2_44 : Cond.fieldLink RJ2 44 "java/lang/StringUTF16" "$assertionsDisabled" "Z" ∈ g_ws := (g_at 328 (by decide +kernel) (by decide +kernel))
set_option maxRecDepth 20000 in
theorem gs_J2_59 : Cond.fieldLink RJ2 59 "java/lang/StringUTF16" "HI_BYTE_SHIFT" "I" ∈ g_ws := (g_at 330 (by decide +kernel) (by decide +kernel))
set_option maxRecDepth 20000 in
theorem gs_J2_63 : Cond.fieldLink RJ2 63 "java/lang/StringUTF16" "LO_BYTE_SHIFT" "I" ∈ g_ws := (g_at 332 (by decide +kernel) (by decide +kernel))
set_option maxRecDepth 20000 in
theorem md_J11_isValidCodePoint_9a6ad : md_ok yJ11_isValidCodePoint_9a6ad cJ11_isValidCodePoint_9a6ad 2 (some .boolean) 1 := ⟨g_at 339 (by decide +kernel) (by decide +kernel), (g_at 48 (by decide +kernel) (by decide +kernel)), by decide, ⟨by decide, by decide⟩, by decide +kernel, by decide⟩
set_option maxRecDepth 20000 in
theorem ms_J11_isValidCodePoint_9a6ad : Cond.static yJ11_isValidCodePoint_9a6ad ∈ g_ws := (g_at 338 (by decide +kernel) (by decide +kernel))
set_option maxRecDepth 20000 in
theorem mt_J2_164 : mt_ok RJ2 164 yJ11_isValidCodePoint_9a6ad cJ11_isValidCodePoint_9a6ad 2 (some .boolean) 1 := ⟨(g_at 337 (by decide +kernel) (by decide +kernel)), md_J11_isValidCodePoint_9a6ad⟩
set_option maxRecDepth 20000 in
theorem md_J11_highSurrogate_5068e : md_ok yJ11_highSurrogate_5068e cJ11_highSurrogate_5068e 1 (some .char) 1 := ⟨g_at 342 (by decide +kernel) (by decide +kernel), (g_at 48 (by decide +kernel) (by decide +kernel)), by decide, ⟨by decide, by decide⟩, by decide +kernel, by decide⟩
set_option maxRecDepth 20000 in
theorem ms_J11_highSurrogate_5068e : Cond.static yJ11_highSurrogate_5068e ∈ g_ws := (g_at 341 (by decide +kernel) (by decide +kernel))
set_option maxRecDepth 20000 in
theorem mt_J2_157 : mt_ok RJ2 157 yJ11_highSurrogate_5068e cJ11_highSurrogate_5068e 1 (some .char) 1 := ⟨(g_at 340 (by decide +kernel) (by decide +kernel)), md_J11_highSurrogate_5068e⟩
set_option maxRecDepth 20000 in
theorem md_J11_lowSurrogate_5068e : md_ok yJ11_lowSurrogate_5068e cJ11_lowSurrogate_5068e 1 (some .char) 1 := ⟨g_at 346 (by decide +kernel) (by decide +kernel), (g_at 48 (by decide +kernel) (by decide +kernel)), by decide, ⟨by decide, by decide⟩, by decide +kernel, by decide⟩
set_option maxRecDepth 20000 in
theorem ms_J11_lowSurrogate_5068e : Cond.static yJ11_lowSurrogate_5068e ∈ g_ws := (g_at 345 (by decide +kernel) (by decide +kernel))
set_option maxRecDepth 20000 in
theorem mt_J2_161 : mt_ok RJ2 161 yJ11_lowSurrogate_5068e cJ11_lowSurrogate_5068e 1 (some .char) 1 := ⟨(g_at 344 (by decide +kernel) (by decide +kernel)), md_J11_lowSurrogate_5068e⟩
set_option maxRecDepth 20000 in
theorem cn_J11_110 : Cond.constant RJ11 110 (55232) ∈ g_ws := (g_at 343 (by decide +kernel) (by decide +kernel))
set_option maxRecDepth 20000 in
theorem cn_J11_76 : Cond.constant RJ11 76 (56320) ∈ g_ws := (g_at 347 (by decide +kernel) (by decide +kernel))
set_option maxRecDepth 20000 in
theorem oi_X1_1 : Cond.methodLink RX1 1 Lib.objectInit ∈ g_ws := (g_at 441 (by decide +kernel) (by decide +kernel))
set_option maxRecDepth 20000 in
theorem pf_X1_init_7 : pf_ok yX1_init 7 5 0 := ⟨_, rfl, by decide, Or.inr ⟨rfl, rfl, rfl, (g_at 442 (by decide +kernel) (by decide +kernel))⟩⟩
set_option maxRecDepth 20000 in
theorem pf_X1_init_13 : pf_ok yX1_init 13 5 1 := ⟨_, rfl, by decide, Or.inr ⟨rfl, rfl, rfl, (g_at 444 (by decide +kernel) (by decide +kernel))⟩⟩
set_option maxRecDepth 20000 in
theorem pf_X1_init_17 : pf_ok yX1_init 17 5 2 := ⟨_, rfl, by decide, Or.inr ⟨rfl, rfl, rfl, (g_at 446 (by decide +kernel) (by decide +kernel))⟩⟩
set_option maxRecDepth 20000 in
theorem pf_X1_init_20 : pf_ok yX1_init 20 5 3 := ⟨_, rfl, by decide, Or.inr ⟨rfl, rfl, rfl, (g_at 448 (by decide +kernel) (by decide +kernel))⟩⟩
set_option maxRecDepth 20000 in
theorem fl_Jx4a65c_63 : fl_ok RJx4a65c 63 3 0 := ⟨_, rfl, by decide, Or.inr (Or.inr ⟨"java/util/ArrayList", (g_at 107 (by decide +kernel) (by decide +kernel)), (g_at 106 (by decide +kernel) (by decide +kernel))⟩)⟩
set_option maxRecDepth 20000 in
theorem pf_Jx4a65c_add_9ea2d_63 : pf_ok yJx4a65c_add_9ea2d 63 3 0 := ⟨_, rfl, by decide, Or.inl ⟨rfl, Or.inr (Or.inr ⟨"java/util/ArrayList", (g_at 107 (by decide +kernel) (by decide +kernel)), (g_at 106 (by decide +kernel) (by decide +kernel))⟩)⟩⟩
set_option maxRecDepth 20000 in
theorem md_Jx4a65c_add_72be8 : md_ok yJx4a65c_add_72be8 cJx4a65c_add_72be8 4 ((none : Option Jvm.ClassFile.FieldType)) 3 := ⟨g_at 469 (by decide +kernel) (by decide +kernel), (g_at 41 (by decide +kernel) (by decide +kernel)), by decide, ⟨by decide, by decide⟩, by decide +kernel, by decide⟩
set_option maxRecDepth 20000 in
theorem mi_Jx4a65c_add_72be8 : Cond.instanceMethod yJx4a65c_add_72be8 ∈ g_ws := (g_at 468 (by decide +kernel) (by decide +kernel))
set_option maxRecDepth 20000 in
theorem me_Jx4a65c_add_72be8 : Cond.selects RJx4a65c yJx4a65c_add_72be8 yJx4a65c_add_72be8 ∈ g_ws := (g_at 8 (by decide +kernel) (by decide +kernel))
set_option maxRecDepth 20000 in
theorem mt_Jx4a65c_131 : mt_ok RJx4a65c 131 yJx4a65c_add_72be8 cJx4a65c_add_72be8 4 ((none : Option Jvm.ClassFile.FieldType)) 3 := ⟨(g_at 466 (by decide +kernel) (by decide +kernel)), md_Jx4a65c_add_72be8⟩
set_option maxRecDepth 20000 in
theorem md_Jx4a65c_grow_d5877 : md_ok yJx4a65c_grow_d5877 cJx4a65c_grow_d5877 1 (some (.array (.object "java/lang/Object"))) 0 := ⟨g_at 473 (by decide +kernel) (by decide +kernel), (g_at 41 (by decide +kernel) (by decide +kernel)), by decide, ⟨by decide, by decide⟩, by decide +kernel, by decide⟩
set_option maxRecDepth 20000 in
theorem mi_Jx4a65c_grow_d5877 : Cond.instanceMethod yJx4a65c_grow_d5877 ∈ g_ws := (g_at 472 (by decide +kernel) (by decide +kernel))
set_option maxRecDepth 20000 in
theorem me_Jx4a65c_grow_d5877 : Cond.selects RJx4a65c yJx4a65c_grow_d5877 yJx4a65c_grow_d5877 ∈ g_ws := (g_at 9 (by decide +kernel) (by decide +kernel))
set_option maxRecDepth 20000 in
theorem mt_Jx4a65c_129 : mt_ok RJx4a65c 129 yJx4a65c_grow_d5877 cJx4a65c_grow_d5877 1 (some (.array (.object "java/lang/Object"))) 0 := ⟨(g_at 470 (by decide +kernel) (by decide +kernel)), md_Jx4a65c_grow_d5877⟩
set_option maxRecDepth 20000 in
theorem pf_Jx4a65c_add_72be8_48 : pf_ok yJx4a65c_add_72be8 48 3 2 := ⟨_, rfl, by decide, Or.inl ⟨rfl, Or.inl (g_at 103 (by decide +kernel) (by decide +kernel))⟩⟩
set_option maxRecDepth 20000 in
theorem md_Jx4a65c_grow_92f84 : md_ok yJx4a65c_grow_92f84 cJx4a65c_grow_92f84 4 (some (.array (.object "java/lang/Object"))) 1 := ⟨g_at 477 (by decide +kernel) (by decide +kernel), (g_at 41 (by decide +kernel) (by decide +kernel)), by decide, ⟨by decide, by decide⟩, by decide +kernel, by decide⟩
set_option maxRecDepth 20000 in
theorem mi_Jx4a65c_grow_92f84 : Cond.instanceMethod yJx4a65c_grow_92f84 ∈ g_ws := (g_at 476 (by decide +kernel) (by decide +kernel))
set_option maxRecDepth 20000 in
theorem me_Jx4a65c_grow_92f84 : Cond.selects RJx4a65c yJx4a65c_grow_92f84 yJx4a65c_grow_92f84 ∈ g_ws := (g_at 10 (by decide +kernel) (by decide +kernel))
set_option maxRecDepth 20000 in
theorem mt_Jx4a65c_69 : mt_ok RJx4a65c 69 yJx4a65c_grow_92f84 cJx4a65c_grow_92f84 4 (some (.array (.object "java/lang/Object"))) 1 := ⟨(g_at 474 (by decide +kernel) (by decide +kernel)), md_Jx4a65c_grow_92f84⟩
set_option maxRecDepth 20000 in
theorem md_J8_newLength_cabcc : md_ok yJ8_newLength_cabcc cJ8_newLength_cabcc 4 (some .int) 3 := ⟨g_at 480 (by decide +kernel) (by decide +kernel), (g_at 55 (by decide +kernel) (by decide +kernel)), by decide, ⟨by decide, by decide⟩, by decide +kernel, by decide⟩
set_option maxRecDepth 20000 in
theorem ms_J8_newLength_cabcc : Cond.static yJ8_newLength_cabcc ∈ g_ws := (g_at 479 (by decide +kernel) (by decide +kernel))
set_option maxRecDepth 20000 in
theorem mt_Jx4a65c_73 : mt_ok RJx4a65c 73 yJ8_newLength_cabcc cJ8_newLength_cabcc 4 (some .int) 3 := ⟨(g_at 478 (by decide +kernel) (by decide +kernel)), md_J8_newLength_cabcc⟩
set_option maxRecDepth 20000 in
theorem md_J7_copyOf_1904c : md_ok yJ7_copyOf_1904c cJ7_copyOf_1904c 2 (some (.array (.object "java/lang/Object"))) 2 := ⟨g_at 488 (by decide +kernel) (by decide +kernel), (g_at 56 (by decide +kernel) (by decide +kernel)), by decide, ⟨by decide, by decide⟩, by decide +kernel, by decide⟩
set_option maxRecDepth 20000 in
theorem ms_J7_copyOf_1904c : Cond.static yJ7_copyOf_1904c ∈ g_ws := (g_at 487 (by decide +kernel) (by decide +kernel))
set_option maxRecDepth 20000 in
theorem mt_Jx4a65c_66 : mt_ok RJx4a65c 66 yJ7_copyOf_1904c cJ7_copyOf_1904c 2 (some (.array (.object "java/lang/Object"))) 2 := ⟨(g_at 486 (by decide +kernel) (by decide +kernel)), md_J7_copyOf_1904c⟩
set_option maxRecDepth 20000 in
theorem pf_Jx4a65c_grow_92f84_9 : pf_ok yJx4a65c_grow_92f84 9 3 1 := ⟨_, rfl, by decide, Or.inl ⟨rfl, Or.inl (g_at 100 (by decide +kernel) (by decide +kernel))⟩⟩
set_option maxRecDepth 20000 in
theorem ma_Jx4a65c_79 : Cond.methodLink RJx4a65c 79 Lib.Math.max.name ∈ g_ws := (g_at 526 (by decide +kernel) (by decide +kernel))
set_option maxRecDepth 20000 in
theorem cl_Jx4a65c_7 : Cond.classLink RJx4a65c 7 "java/lang/Object" ∈ g_ws := (g_at 527 (by decide +kernel) (by decide +kernel))
set_option maxRecDepth 20000 in
theorem ma_J8_194 : Cond.methodLink RJ8 194 Lib.Math.max.name ∈ g_ws := (g_at 481 (by decide +kernel) (by decide +kernel))
set_option maxRecDepth 20000 in
theorem cn_J8_200 : Cond.constant RJ8 200 (2147483639) ∈ g_ws := (g_at 482 (by decide +kernel) (by decide +kernel))
set_option maxRecDepth 20000 in
theorem md_J8_hugeLength_7cf53 : md_ok yJ8_hugeLength_7cf53 cJ8_hugeLength_7cf53 3 (some .int) 2 := ⟨g_at 485 (by decide +kernel) (by decide +kernel), (g_at 55 (by decide +kernel) (by decide +kernel)), by decide, ⟨by decide, by decide⟩, by decide +kernel, by decide⟩
set_option maxRecDepth 20000 in
theorem ms_J8_hugeLength_7cf53 : Cond.static yJ8_hugeLength_7cf53 ∈ g_ws := (g_at 484 (by decide +kernel) (by decide +kernel))
set_option maxRecDepth 20000 in
theorem mt_J8_201 : mt_ok RJ8 201 yJ8_hugeLength_7cf53 cJ8_hugeLength_7cf53 3 (some .int) 2 := ⟨(g_at 483 (by decide +kernel) (by decide +kernel)), md_J8_hugeLength_7cf53⟩
set_option maxRecDepth 20000 in
theorem md_J7_copyOf_6403c : md_ok yJ7_copyOf_6403c cJ7_copyOf_6403c 4 (some (.array (.object "java/lang/Object"))) 3 := ⟨g_at 518 (by decide +kernel) (by decide +kernel), (g_at 56 (by decide +kernel) (by decide +kernel)), by decide, ⟨by decide, by decide⟩, by decide +kernel, by decide⟩
set_option maxRecDepth 20000 in
theorem ms_J7_copyOf_6403c : Cond.static yJ7_copyOf_6403c ∈ g_ws := (g_at 517 (by decide +kernel) (by decide +kernel))
set_option maxRecDepth 20000 in
theorem mt_J7_300 : mt_ok RJ7 300 yJ7_copyOf_6403c cJ7_copyOf_6403c 4 (some (.array (.object "java/lang/Object"))) 3 := ⟨(g_at 516 (by decide +kernel) (by decide +kernel)), md_J7_copyOf_6403c⟩
set_option maxRecDepth 20000 in
theorem cl_J7_2 : Cond.classLink RJ7 2 "java/lang/Object" ∈ g_ws := (g_at 521 (by decide +kernel) (by decide +kernel))
set_option maxRecDepth 20000 in
theorem cl_J7_110 : Cond.classLink RJ7 110 "[Ljava/lang/Object;" ∈ g_ws := (g_at 519 (by decide +kernel) (by decide +kernel))
set_option maxRecDepth 20000 in
theorem ma_J7_304 : Cond.methodLink RJ7 304 Lib.Math.min.name ∈ g_ws := (g_at 522 (by decide +kernel) (by decide +kernel))
set_option maxRecDepth 20000 in
theorem md_X6_slice : md_ok yX6_slice cX6_slice 5 (some .int) 3 := ⟨g_at 567 (by decide +kernel) (by decide +kernel), (g_at 38 (by decide +kernel) (by decide +kernel)), by decide, ⟨by decide, by decide⟩, by decide +kernel, by decide⟩
set_option maxRecDepth 20000 in
theorem mi_X6_slice : Cond.instanceMethod yX6_slice ∈ g_ws := (g_at 565 (by decide +kernel) (by decide +kernel))
set_option maxRecDepth 20000 in
theorem me_X6_slice : Cond.selects RX6 yX6_slice yX6_slice ∈ g_ws := (g_at 566 (by decide +kernel) (by decide +kernel))
set_option maxRecDepth 20000 in
theorem mt_L_17 : mt_ok RL 17 yX6_slice cX6_slice 5 (some .int) 3 := ⟨(g_at 564 (by decide +kernel) (by decide +kernel)), md_X6_slice⟩
set_option maxRecDepth 20000 in
theorem md_Jx00060_init_a7421 : md_ok yJx00060_init_a7421 cJx00060_init_a7421 2 ((none : Option Jvm.ClassFile.FieldType)) 1 := ⟨g_at 534 (by decide +kernel) (by decide +kernel), (g_at 60 (by decide +kernel) (by decide +kernel)), by decide, ⟨by decide, by decide⟩, by decide +kernel, by decide⟩
set_option maxRecDepth 20000 in
theorem mi_Jx00060_init_a7421 : Cond.instanceMethod yJx00060_init_a7421 ∈ g_ws := (g_at 533 (by decide +kernel) (by decide +kernel))
set_option maxRecDepth 20000 in
theorem md_X6_logOf : md_ok yX6_logOf cX6_logOf 2 (some (.object "VeneerLoft$Log")) 1 := ⟨g_at 571 (by decide +kernel) (by decide +kernel), (g_at 38 (by decide +kernel) (by decide +kernel)), by decide, ⟨by decide, by decide⟩, by decide +kernel, by decide⟩
set_option maxRecDepth 20000 in
theorem mi_X6_logOf : Cond.instanceMethod yX6_logOf ∈ g_ws := (g_at 570 (by decide +kernel) (by decide +kernel))
set_option maxRecDepth 20000 in
theorem me_X6_logOf : Cond.selects RX6 yX6_logOf yX6_logOf ∈ g_ws := (g_at 11 (by decide +kernel) (by decide +kernel))
set_option maxRecDepth 20000 in
theorem mt_X6_63 : mt_ok RX6 63 yX6_logOf cX6_logOf 2 (some (.object "VeneerLoft$Log")) 1 := ⟨(g_at 568 (by decide +kernel) (by decide +kernel)), md_X6_logOf⟩
set_option maxRecDepth 20000 in
theorem fl_X6_69 : fl_ok RX6 69 5 4 := ⟨_, rfl, by decide, Or.inl (g_at 450 (by decide +kernel) (by decide +kernel))⟩
set_option maxRecDepth 20000 in
theorem cl_X6_73 : Cond.classLink RX6 73 "java/lang/UnsupportedOperationException" ∈ g_ws := (g_at 588 (by decide +kernel) (by decide +kernel))
set_option maxRecDepth 20000 in
theorem th_X6_73_75 : th_ok RX6 73 75 "java/lang/UnsupportedOperationException" := ⟨by decide, cl_X6_73, (g_at 62 (by decide +kernel) (by decide +kernel)), by decide +kernel, by decide +kernel⟩
set_option maxRecDepth 20000 in
theorem pf_X6_slice_69 : pf_ok yX6_slice 69 5 4 := ⟨_, rfl, by decide, Or.inl ⟨rfl, Or.inl (g_at 450 (by decide +kernel) (by decide +kernel))⟩⟩
set_option maxRecDepth 20000 in
theorem nw_X6_76 : nw_ok RX6 76 4 8 := ⟨_, rfl, (g_at 183 (by decide +kernel) (by decide +kernel)), (g_at 212 (by decide +kernel) (by decide +kernel)), (g_at 63 (by decide +kernel) (by decide +kernel))⟩
set_option maxRecDepth 20000 in
theorem md_X0_init : md_ok yX0_init cX0_init 5 ((none : Option Jvm.ClassFile.FieldType)) 3 := ⟨g_at 605 (by decide +kernel) (by decide +kernel), (g_at 63 (by decide +kernel) (by decide +kernel)), by decide, ⟨by decide, by decide⟩, by decide +kernel, by decide⟩
set_option maxRecDepth 20000 in
theorem mi_X0_init : Cond.instanceMethod yX0_init ∈ g_ws := (g_at 604 (by decide +kernel) (by decide +kernel))
set_option maxRecDepth 20000 in
theorem mt_X6_78 : mt_ok RX6 78 yX0_init cX0_init 5 ((none : Option Jvm.ClassFile.FieldType)) 3 := ⟨(g_at 603 (by decide +kernel) (by decide +kernel)), md_X0_init⟩
set_option maxRecDepth 20000 in
theorem cl_X6_343 : Cond.classLink RX6 343 "java/lang/IndexOutOfBoundsException" ∈ g_ws := (g_at 572 (by decide +kernel) (by decide +kernel))
set_option maxRecDepth 20000 in
theorem th_X6_343_345 : th_ok RX6 343 345 "java/lang/IndexOutOfBoundsException" := ⟨by decide, cl_X6_343, (g_at 59 (by decide +kernel) (by decide +kernel)), by decide +kernel, by decide +kernel⟩
set_option maxRecDepth 20000 in
theorem oi_X0_3 : Cond.methodLink RX0 3 Lib.objectInit ∈ g_ws := (g_at 606 (by decide +kernel) (by decide +kernel))
set_option maxRecDepth 20000 in
theorem pf_X0_init_9 : pf_ok yX0_init 9 4 4 := ⟨_, rfl, by decide, Or.inr ⟨rfl, rfl, rfl, (g_at 647 (by decide +kernel) (by decide +kernel))⟩⟩
set_option maxRecDepth 20000 in
theorem pf_X0_init_15 : pf_ok yX0_init 15 4 5 := ⟨_, rfl, by decide, Or.inr ⟨rfl, rfl, rfl, (g_at 648 (by decide +kernel) (by decide +kernel))⟩⟩
set_option maxRecDepth 20000 in
theorem pf_X0_init_18 : pf_ok yX0_init 18 4 6 := ⟨_, rfl, by decide, Or.inr ⟨rfl, rfl, rfl, (g_at 649 (by decide +kernel) (by decide +kernel))⟩⟩
set_option maxRecDepth 20000 in
theorem pf_X0_init_22 : pf_ok yX0_init 22 4 0 := ⟨_, rfl, by decide, Or.inr ⟨rfl, rfl, rfl, (g_at 638 (by decide +kernel) (by decide +kernel))⟩⟩
set_option maxRecDepth 20000 in
theorem fl_X0_26 : fl_ok RX0 26 5 2 := ⟨_, rfl, by decide, Or.inl (g_at 447 (by decide +kernel) (by decide +kernel))⟩
set_option maxRecDepth 20000 in
theorem pf_X0_init_31 : pf_ok yX0_init 31 4 1 := ⟨_, rfl, by decide, Or.inr ⟨rfl, rfl, rfl, (g_at 641 (by decide +kernel) (by decide +kernel))⟩⟩
set_option maxRecDepth 20000 in
theorem md_X1_swelling : md_ok yX1_swelling cX1_swelling 1 (some .int) 0 := ⟨g_at 610 (by decide +kernel) (by decide +kernel), (g_at 54 (by decide +kernel) (by decide +kernel)), by decide, ⟨by decide, by decide⟩, by decide +kernel, by decide⟩
set_option maxRecDepth 20000 in
theorem mi_X1_swelling : Cond.instanceMethod yX1_swelling ∈ g_ws := (g_at 608 (by decide +kernel) (by decide +kernel))
set_option maxRecDepth 20000 in
theorem me_X1_swelling : Cond.selects RX1 yX1_swelling yX1_swelling ∈ g_ws := (g_at 609 (by decide +kernel) (by decide +kernel))
set_option maxRecDepth 20000 in
theorem mt_X0_32 : mt_ok RX0 32 yX1_swelling cX1_swelling 1 (some .int) 0 := ⟨(g_at 607 (by decide +kernel) (by decide +kernel)), md_X1_swelling⟩
set_option maxRecDepth 20000 in
theorem pf_X0_init_36 : pf_ok yX0_init 36 4 2 := ⟨_, rfl, by decide, Or.inr ⟨rfl, rfl, rfl, (g_at 643 (by decide +kernel) (by decide +kernel))⟩⟩
set_option maxRecDepth 20000 in
theorem md_X1_radius : md_ok yX1_radius cX1_radius 1 (some .int) 0 := ⟨g_at 614 (by decide +kernel) (by decide +kernel), (g_at 54 (by decide +kernel) (by decide +kernel)), by decide, ⟨by decide, by decide⟩, by decide +kernel, by decide⟩
set_option maxRecDepth 20000 in
theorem mi_X1_radius : Cond.instanceMethod yX1_radius ∈ g_ws := (g_at 612 (by decide +kernel) (by decide +kernel))
set_option maxRecDepth 20000 in
theorem me_X1_radius : Cond.selects RX1 yX1_radius yX1_radius ∈ g_ws := (g_at 613 (by decide +kernel) (by decide +kernel))
set_option maxRecDepth 20000 in
theorem mt_X0_38 : mt_ok RX0 38 yX1_radius cX1_radius 1 (some .int) 0 := ⟨(g_at 611 (by decide +kernel) (by decide +kernel)), md_X1_radius⟩
set_option maxRecDepth 20000 in
theorem md_X0_countLeaves : md_ok yX0_countLeaves cX0_countLeaves 4 (some .int) 3 := ⟨g_at 617 (by decide +kernel) (by decide +kernel), (g_at 63 (by decide +kernel) (by decide +kernel)), by decide, ⟨by decide, by decide⟩, by decide +kernel, by decide⟩
set_option maxRecDepth 20000 in
theorem ms_X0_countLeaves : Cond.static yX0_countLeaves ∈ g_ws := (g_at 616 (by decide +kernel) (by decide +kernel))
set_option maxRecDepth 20000 in
theorem mt_X0_41 : mt_ok RX0 41 yX0_countLeaves cX0_countLeaves 4 (some .int) 3 := ⟨(g_at 615 (by decide +kernel) (by decide +kernel)), md_X0_countLeaves⟩
set_option maxRecDepth 20000 in
theorem pf_X0_init_45 : pf_ok yX0_init 45 4 3 := ⟨_, rfl, by decide, Or.inr ⟨rfl, rfl, rfl, (g_at 645 (by decide +kernel) (by decide +kernel))⟩⟩
set_option maxRecDepth 20000 in
theorem md_X0_cutWidth : md_ok yX0_cutWidth cX0_cutWidth 5 (some .int) 3 := ⟨g_at 625 (by decide +kernel) (by decide +kernel), (g_at 63 (by decide +kernel) (by decide +kernel)), by decide, ⟨by decide, by decide⟩, by decide +kernel, by decide⟩
set_option maxRecDepth 20000 in
theorem ms_X0_cutWidth : Cond.static yX0_cutWidth ∈ g_ws := (g_at 624 (by decide +kernel) (by decide +kernel))
set_option maxRecDepth 20000 in
theorem mt_X0_48 : mt_ok RX0 48 yX0_cutWidth cX0_cutWidth 5 (some .int) 3 := ⟨(g_at 623 (by decide +kernel) (by decide +kernel)), md_X0_cutWidth⟩
set_option maxRecDepth 20000 in
theorem fl_X0_15 : fl_ok RX0 15 4 5 := ⟨_, rfl, by decide, Or.inl (g_at 648 (by decide +kernel) (by decide +kernel))⟩
set_option maxRecDepth 20000 in
theorem fl_X0_52 : fl_ok RX0 52 5 3 := ⟨_, rfl, by decide, Or.inl (g_at 449 (by decide +kernel) (by decide +kernel))⟩
set_option maxRecDepth 20000 in
theorem md_X0_formFigure : md_ok yX0_formFigure cX0_formFigure 1 (some .int) 1 := ⟨g_at 631 (by decide +kernel) (by decide +kernel), (g_at 63 (by decide +kernel) (by decide +kernel)), by decide, ⟨by decide, by decide⟩, by decide +kernel, by decide⟩
set_option maxRecDepth 20000 in
theorem ms_X0_formFigure : Cond.static yX0_formFigure ∈ g_ws := (g_at 630 (by decide +kernel) (by decide +kernel))
set_option maxRecDepth 20000 in
theorem mt_X0_56 : mt_ok RX0 56 yX0_formFigure cX0_formFigure 1 (some .int) 1 := ⟨(g_at 629 (by decide +kernel) (by decide +kernel)), md_X0_formFigure⟩
set_option maxRecDepth 20000 in
theorem md_X0_wayFigure : md_ok yX0_wayFigure cX0_wayFigure 3 (some .int) 3 := ⟨g_at 634 (by decide +kernel) (by decide +kernel), (g_at 63 (by decide +kernel) (by decide +kernel)), by decide, ⟨by decide, by decide⟩, by decide +kernel, by decide⟩
set_option maxRecDepth 20000 in
theorem ms_X0_wayFigure : Cond.static yX0_wayFigure ∈ g_ws := (g_at 633 (by decide +kernel) (by decide +kernel))
set_option maxRecDepth 20000 in
theorem mt_X0_60 : mt_ok RX0 60 yX0_wayFigure cX0_wayFigure 3 (some .int) 3 := ⟨(g_at 632 (by decide +kernel) (by decide +kernel)), md_X0_wayFigure⟩
set_option maxRecDepth 20000 in
theorem md_X6_within : md_ok yX6_within cX6_within 3 (some .int) 3 := ⟨g_at 620 (by decide +kernel) (by decide +kernel), (g_at 38 (by decide +kernel) (by decide +kernel)), by decide, ⟨by decide, by decide⟩, by decide +kernel, by decide⟩
set_option maxRecDepth 20000 in
theorem ms_X6_within : Cond.static yX6_within ∈ g_ws := (g_at 619 (by decide +kernel) (by decide +kernel))
set_option maxRecDepth 20000 in
theorem mn_X0_63 : Cond.methodLinkNest RX0 63 yX6_within "VeneerLoft" ∈ g_nw := (g_an 618 (by decide +kernel) (by decide +kernel))
set_option maxRecDepth 20000 in
theorem fl_X1_7 : fl_ok RX1 7 5 0 := ⟨_, rfl, by decide, Or.inl (g_at 442 (by decide +kernel) (by decide +kernel))⟩
set_option maxRecDepth 20000 in
theorem fl_X1_13 : fl_ok RX1 13 5 1 := ⟨_, rfl, by decide, Or.inl (g_at 444 (by decide +kernel) (by decide +kernel))⟩
set_option maxRecDepth 20000 in
theorem ma_X6_346 : Cond.methodLink RX6 346 Lib.Math.min.name ∈ g_ws := (g_at 621 (by decide +kernel) (by decide +kernel))
set_option maxRecDepth 20000 in
theorem ma_X6_203 : Cond.methodLink RX6 203 Lib.Math.max.name ∈ g_ws := (g_at 622 (by decide +kernel) (by decide +kernel))
set_option maxRecDepth 20000 in
theorem md_X0_rootOf : md_ok yX0_rootOf cX0_rootOf 3 (some .int) 1 := ⟨g_at 628 (by decide +kernel) (by decide +kernel), (g_at 63 (by decide +kernel) (by decide +kernel)), by decide, ⟨by decide, by decide⟩, by decide +kernel, by decide⟩
set_option maxRecDepth 20000 in
theorem ms_X0_rootOf : Cond.static yX0_rootOf ∈ g_ws := (g_at 627 (by decide +kernel) (by decide +kernel))
set_option maxRecDepth 20000 in
theorem mt_X0_67 : mt_ok RX0 67 yX0_rootOf cX0_rootOf 3 (some .int) 1 := ⟨(g_at 626 (by decide +kernel) (by decide +kernel)), md_X0_rootOf⟩
set_option maxRecDepth 20000 in
theorem fl_X0_71 : fl_ok RX0 71 5 1 := ⟨_, rfl, by decide, Or.inl (g_at 445 (by decide +kernel) (by decide +kernel))⟩
set_option maxRecDepth 20000 in
theorem fl_X0_74 : fl_ok RX0 74 5 0 := ⟨_, rfl, by decide, Or.inl (g_at 443 (by decide +kernel) (by decide +kernel))⟩
set_option maxRecDepth 20000 in
theorem ma_X0_77 : Cond.methodLink RX0 77 Lib.Math.abs.name ∈ g_ws := (g_at 635 (by decide +kernel) (by decide +kernel))
set_option maxRecDepth 20000 in
theorem ma_s_abs : Cond.static Lib.Math.abs.name ∈ g_ws ∧ Cond.code Lib.Math.abs.name Lib.Math.abs.code 1 (some .int) ∈ g_ws := ⟨(g_at 636 (by decide +kernel) (by decide +kernel)), g_at 637 (by decide +kernel) (by decide +kernel)⟩
set_option maxRecDepth 20000 in
theorem md_X6_leaves : md_ok yX6_leaves cX6_leaves 2 (some .int) 1 := ⟨g_at 677 (by decide +kernel) (by decide +kernel), (g_at 38 (by decide +kernel) (by decide +kernel)), by decide, ⟨by decide, by decide⟩, by decide +kernel, by decide⟩
set_option maxRecDepth 20000 in
theorem mi_X6_leaves : Cond.instanceMethod yX6_leaves ∈ g_ws := (g_at 675 (by decide +kernel) (by decide +kernel))
set_option maxRecDepth 20000 in
theorem me_X6_leaves : Cond.selects RX6 yX6_leaves yX6_leaves ∈ g_ws := (g_at 676 (by decide +kernel) (by decide +kernel))
set_option maxRecDepth 20000 in
theorem mt_L_25 : mt_ok RL 25 yX6_leaves cX6_leaves 2 (some .int) 1 := ⟨(g_at 674 (by decide +kernel) (by decide +kernel)), md_X6_leaves⟩
set_option maxRecDepth 20000 in
theorem md_X6_flitchOf : md_ok yX6_flitchOf cX6_flitchOf 2 (some (.object "VeneerLoft$Flitch")) 1 := ⟨g_at 681 (by decide +kernel) (by decide +kernel), (g_at 38 (by decide +kernel) (by decide +kernel)), by decide, ⟨by decide, by decide⟩, by decide +kernel, by decide⟩
set_option maxRecDepth 20000 in
theorem mi_X6_flitchOf : Cond.instanceMethod yX6_flitchOf ∈ g_ws := (g_at 680 (by decide +kernel) (by decide +kernel))
set_option maxRecDepth 20000 in
theorem me_X6_flitchOf : Cond.selects RX6 yX6_flitchOf yX6_flitchOf ∈ g_ws := (g_at 12 (by decide +kernel) (by decide +kernel))
set_option maxRecDepth 20000 in
theorem mt_X6_81 : mt_ok RX6 81 yX6_flitchOf cX6_flitchOf 2 (some (.object "VeneerLoft$Flitch")) 1 := ⟨(g_at 678 (by decide +kernel) (by decide +kernel)), md_X6_flitchOf⟩
set_option maxRecDepth 20000 in
theorem md_X6_width : md_ok yX6_width cX6_width 3 (some .int) 2 := ⟨g_at 688 (by decide +kernel) (by decide +kernel), (g_at 38 (by decide +kernel) (by decide +kernel)), by decide, ⟨by decide, by decide⟩, by decide +kernel, by decide⟩
set_option maxRecDepth 20000 in
theorem mi_X6_width : Cond.instanceMethod yX6_width ∈ g_ws := (g_at 686 (by decide +kernel) (by decide +kernel))
set_option maxRecDepth 20000 in
theorem me_X6_width : Cond.selects RX6 yX6_width yX6_width ∈ g_ws := (g_at 687 (by decide +kernel) (by decide +kernel))
set_option maxRecDepth 20000 in
theorem mt_L_29 : mt_ok RL 29 yX6_width cX6_width 3 (some .int) 2 := ⟨(g_at 685 (by decide +kernel) (by decide +kernel)), md_X6_width⟩
set_option maxRecDepth 20000 in
theorem md_X6_flitchWithLeaf : md_ok yX6_flitchWithLeaf cX6_flitchWithLeaf 3 (some (.object "VeneerLoft$Flitch")) 2 := ⟨g_at 692 (by decide +kernel) (by decide +kernel), (g_at 38 (by decide +kernel) (by decide +kernel)), by decide, ⟨by decide, by decide⟩, by decide +kernel, by decide⟩
set_option maxRecDepth 20000 in
theorem mi_X6_flitchWithLeaf : Cond.instanceMethod yX6_flitchWithLeaf ∈ g_ws := (g_at 691 (by decide +kernel) (by decide +kernel))
set_option maxRecDepth 20000 in
theorem me_X6_flitchWithLeaf : Cond.selects RX6 yX6_flitchWithLeaf yX6_flitchWithLeaf ∈ g_ws := (g_at 13 (by decide +kernel) (by decide +kernel))
set_option maxRecDepth 20000 in
theorem mt_X6_88 : mt_ok RX6 88 yX6_flitchWithLeaf cX6_flitchWithLeaf 3 (some (.object "VeneerLoft$Flitch")) 2 := ⟨(g_at 689 (by decide +kernel) (by decide +kernel)), md_X6_flitchWithLeaf⟩
set_option maxRecDepth 20000 in
theorem mt_X6_92 : mt_ok RX6 92 yX0_widthOf cX0_widthOf 2 (some .int) 1 := ⟨(g_at 697 (by decide +kernel) (by decide +kernel)), md_X0_widthOf⟩
set_option maxRecDepth 20000 in
theorem md_X6_flitchWithLeaves : md_ok yX6_flitchWithLeaves cX6_flitchWithLeaves 5 (some (.object "VeneerLoft$Flitch")) 3 := ⟨g_at 696 (by decide +kernel) (by decide +kernel), (g_at 38 (by decide +kernel) (by decide +kernel)), by decide, ⟨by decide, by decide⟩, by decide +kernel, by decide⟩
set_option maxRecDepth 20000 in
theorem mi_X6_flitchWithLeaves : Cond.instanceMethod yX6_flitchWithLeaves ∈ g_ws := (g_at 695 (by decide +kernel) (by decide +kernel))
set_option maxRecDepth 20000 in
theorem me_X6_flitchWithLeaves : Cond.selects RX6 yX6_flitchWithLeaves yX6_flitchWithLeaves ∈ g_ws := (g_at 14 (by decide +kernel) (by decide +kernel))
set_option maxRecDepth 20000 in
theorem mt_X6_117 : mt_ok RX6 117 yX6_flitchWithLeaves cX6_flitchWithLeaves 5 (some (.object "VeneerLoft$Flitch")) 3 := ⟨(g_at 693 (by decide +kernel) (by decide +kernel)), md_X6_flitchWithLeaves⟩
set_option maxRecDepth 20000 in
theorem md_X6_area : md_ok yX6_area cX6_area 3 (some .int) 2 := ⟨g_at 704 (by decide +kernel) (by decide +kernel), (g_at 38 (by decide +kernel) (by decide +kernel)), by decide, ⟨by decide, by decide⟩, by decide +kernel, by decide⟩
set_option maxRecDepth 20000 in
theorem mi_X6_area : Cond.instanceMethod yX6_area ∈ g_ws := (g_at 702 (by decide +kernel) (by decide +kernel))
set_option maxRecDepth 20000 in
theorem me_X6_area : Cond.selects RX6 yX6_area yX6_area ∈ g_ws := (g_at 703 (by decide +kernel) (by decide +kernel))
set_option maxRecDepth 20000 in
theorem mt_L_33 : mt_ok RL 33 yX6_area cX6_area 3 (some .int) 2 := ⟨(g_at 701 (by decide +kernel) (by decide +kernel)), md_X6_area⟩
set_option maxRecDepth 20000 in
theorem md_X6_figure : md_ok yX6_figure cX6_figure 3 (some .int) 2 := ⟨g_at 711 (by decide +kernel) (by decide +kernel), (g_at 38 (by decide +kernel) (by decide +kernel)), by decide, ⟨by decide, by decide⟩, by decide +kernel, by decide⟩
set_option maxRecDepth 20000 in
theorem mi_X6_figure : Cond.instanceMethod yX6_figure ∈ g_ws := (g_at 709 (by decide +kernel) (by decide +kernel))
set_option maxRecDepth 20000 in
theorem me_X6_figure : Cond.selects RX6 yX6_figure yX6_figure ∈ g_ws := (g_at 710 (by decide +kernel) (by decide +kernel))
set_option maxRecDepth 20000 in
theorem mt_L_36 : mt_ok RL 36 yX6_figure cX6_figure 3 (some .int) 2 := ⟨(g_at 708 (by decide +kernel) (by decide +kernel)), md_X6_figure⟩
set_option maxRecDepth 20000 in
theorem md_X0_figureOf : md_ok yX0_figureOf cX0_figureOf 2 (some .int) 1 := ⟨g_at 715 (by decide +kernel) (by decide +kernel), (g_at 63 (by decide +kernel) (by decide +kernel)), by decide, ⟨by decide, by decide⟩, by decide +kernel, by decide⟩
set_option maxRecDepth 20000 in
theorem mi_X0_figureOf : Cond.instanceMethod yX0_figureOf ∈ g_ws := (g_at 713 (by decide +kernel) (by decide +kernel))
set_option maxRecDepth 20000 in
theorem me_X0_figureOf : Cond.selects RX0 yX0_figureOf yX0_figureOf ∈ g_ws := (g_at 714 (by decide +kernel) (by decide +kernel))
set_option maxRecDepth 20000 in
theorem mt_X6_99 : mt_ok RX6 99 yX0_figureOf cX0_figureOf 2 (some .int) 1 := ⟨(g_at 712 (by decide +kernel) (by decide +kernel)), md_X0_figureOf⟩
