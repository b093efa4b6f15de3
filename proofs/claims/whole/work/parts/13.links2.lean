set_option maxRecDepth 20000 in
theorem mt_X12_100 : mt_ok RX12 100 yX7_init cX7_init 6 ((none : Option Jvm.ClassFile.FieldType)) 3 := ⟨(g_at 1377 (by decide +kernel) (by decide +kernel)), md_X7_init⟩
set_option maxRecDepth 20000 in
theorem oi_X7_1 : Cond.methodLink RX7 1 Lib.objectInit ∈ g_ws := (g_at 1380 (by decide +kernel) (by decide +kernel))
set_option maxRecDepth 20000 in
theorem pf_X7_init_7 : pf_ok yX7_init 7 11 0 := ⟨_, rfl, by decide, Or.inr ⟨rfl, rfl, rfl, (g_at 1382 (by decide +kernel) (by decide +kernel))⟩⟩
set_option maxRecDepth 20000 in
theorem pf_X7_init_13 : pf_ok yX7_init 13 11 1 := ⟨_, rfl, by decide, Or.inr ⟨rfl, rfl, rfl, (g_at 1384 (by decide +kernel) (by decide +kernel))⟩⟩
set_option maxRecDepth 20000 in
theorem pf_X7_init_17 : pf_ok yX7_init 17 11 2 := ⟨_, rfl, by decide, Or.inr ⟨rfl, rfl, rfl, (g_at 1385 (by decide +kernel) (by decide +kernel))⟩⟩
set_option maxRecDepth 20000 in
theorem fl_X7_21 : fl_ok RX7 21 13 1 := ⟨_, rfl, by decide, Or.inr (Or.inl ⟨"VeneerLoftModel", (g_an 1333 (by decide +kernel) (by decide +kernel))⟩)⟩
set_option maxRecDepth 20000 in
theorem ma_X7_26 : Cond.methodLink RX7 26 Lib.Math.min.name ∈ g_ws := (g_at 1381 (by decide +kernel) (by decide +kernel))
set_option maxRecDepth 20000 in
theorem pf_X7_init_32 : pf_ok yX7_init 32 11 3 := ⟨_, rfl, by decide, Or.inr ⟨rfl, rfl, rfl, (g_at 1388 (by decide +kernel) (by decide +kernel))⟩⟩
set_option maxRecDepth 20000 in
theorem md_X12_leaves : md_ok yX12_leaves cX12_leaves 2 (some .int) 1 := ⟨g_at 1402 (by decide +kernel) (by decide +kernel), (g_at 42 (by decide +kernel) (by decide +kernel)), by decide, ⟨by decide, by decide⟩, by decide +kernel, by decide⟩
set_option maxRecDepth 20000 in
theorem mi_X12_leaves : Cond.instanceMethod yX12_leaves ∈ g_ws := (g_at 1400 (by decide +kernel) (by decide +kernel))
set_option maxRecDepth 20000 in
theorem me_X12_leaves : Cond.selects RX12 yX12_leaves yX12_leaves ∈ g_ws := (g_at 1401 (by decide +kernel) (by decide +kernel))
set_option maxRecDepth 20000 in
theorem fl_X12_103 : fl_ok RX12 103 11 3 := ⟨_, rfl, by decide, Or.inr (Or.inl ⟨"VeneerLoftModel", (g_an 1389 (by decide +kernel) (by decide +kernel))⟩)⟩
set_option maxRecDepth 20000 in
theorem md_X12_width : md_ok yX12_width cX12_width 3 (some .int) 2 := ⟨g_at 1406 (by decide +kernel) (by decide +kernel), (g_at 42 (by decide +kernel) (by decide +kernel)), by decide, ⟨by decide, by decide⟩, by decide +kernel, by decide⟩
set_option maxRecDepth 20000 in
theorem mi_X12_width : Cond.instanceMethod yX12_width ∈ g_ws := (g_at 1404 (by decide +kernel) (by decide +kernel))
set_option maxRecDepth 20000 in
theorem me_X12_width : Cond.selects RX12 yX12_width yX12_width ∈ g_ws := (g_at 1405 (by decide +kernel) (by decide +kernel))
set_option maxRecDepth 20000 in
theorem md_X12_noLeaf : md_ok yX12_noLeaf cX12_noLeaf 3 (some .boolean) 2 := ⟨g_at 1410 (by decide +kernel) (by decide +kernel), (g_at 42 (by decide +kernel) (by decide +kernel)), by decide, ⟨by decide, by decide⟩, by decide +kernel, by decide⟩
set_option maxRecDepth 20000 in
theorem mi_X12_noLeaf : Cond.instanceMethod yX12_noLeaf ∈ g_ws := (g_at 1409 (by decide +kernel) (by decide +kernel))
set_option maxRecDepth 20000 in
theorem me_X12_noLeaf : Cond.selects RX12 yX12_noLeaf yX12_noLeaf ∈ g_ws := (g_at 26 (by decide +kernel) (by decide +kernel))
set_option maxRecDepth 20000 in
theorem mt_X12_111 : mt_ok RX12 111 yX12_noLeaf cX12_noLeaf 3 (some .boolean) 2 := ⟨(g_at 1407 (by decide +kernel) (by decide +kernel)), md_X12_noLeaf⟩
set_option maxRecDepth 20000 in
theorem md_X7_width : md_ok yX7_width cX7_width 5 (some .int) 1 := ⟨g_at 1418 (by decide +kernel) (by decide +kernel), (g_at 64 (by decide +kernel) (by decide +kernel)), by decide, ⟨by decide, by decide⟩, by decide +kernel, by decide⟩
set_option maxRecDepth 20000 in
theorem mi_X7_width : Cond.instanceMethod yX7_width ∈ g_ws := (g_at 1416 (by decide +kernel) (by decide +kernel))
set_option maxRecDepth 20000 in
theorem me_X7_width : Cond.selects RX7 yX7_width yX7_width ∈ g_ws := (g_at 1417 (by decide +kernel) (by decide +kernel))
set_option maxRecDepth 20000 in
theorem mt_X12_114 : mt_ok RX12 114 yX7_width cX7_width 5 (some .int) 1 := ⟨(g_at 1415 (by decide +kernel) (by decide +kernel)), md_X7_width⟩
set_option maxRecDepth 20000 in
theorem md_X12_isLeaf : md_ok yX12_isLeaf cX12_isLeaf 3 (some .boolean) 2 := ⟨g_at 1414 (by decide +kernel) (by decide +kernel), (g_at 42 (by decide +kernel) (by decide +kernel)), by decide, ⟨by decide, by decide⟩, by decide +kernel, by decide⟩
set_option maxRecDepth 20000 in
theorem mi_X12_isLeaf : Cond.instanceMethod yX12_isLeaf ∈ g_ws := (g_at 1413 (by decide +kernel) (by decide +kernel))
set_option maxRecDepth 20000 in
theorem me_X12_isLeaf : Cond.selects RX12 yX12_isLeaf yX12_isLeaf ∈ g_ws := (g_at 27 (by decide +kernel) (by decide +kernel))
set_option maxRecDepth 20000 in
theorem mt_X12_107 : mt_ok RX12 107 yX12_isLeaf cX12_isLeaf 3 (some .boolean) 2 := ⟨(g_at 1411 (by decide +kernel) (by decide +kernel)), md_X12_isLeaf⟩
set_option maxRecDepth 20000 in
theorem fl_X7_7 : fl_ok RX7 7 11 0 := ⟨_, rfl, by decide, Or.inl (g_at 1382 (by decide +kernel) (by decide +kernel))⟩
set_option maxRecDepth 20000 in
theorem fl_X7_17 : fl_ok RX7 17 11 2 := ⟨_, rfl, by decide, Or.inl (g_at 1385 (by decide +kernel) (by decide +kernel))⟩
set_option maxRecDepth 20000 in
theorem fl_X7_13 : fl_ok RX7 13 11 1 := ⟨_, rfl, by decide, Or.inl (g_at 1384 (by decide +kernel) (by decide +kernel))⟩
set_option maxRecDepth 20000 in
theorem md_X12_root : md_ok yX12_root cX12_root 2 (some .int) 1 := ⟨g_at 1421 (by decide +kernel) (by decide +kernel), (g_at 42 (by decide +kernel) (by decide +kernel)), by decide, ⟨by decide, by decide⟩, by decide +kernel, by decide⟩
set_option maxRecDepth 20000 in
theorem ms_X12_root : Cond.static yX12_root ∈ g_ws := (g_at 1420 (by decide +kernel) (by decide +kernel))
set_option maxRecDepth 20000 in
theorem mn_X7_36 : Cond.methodLinkNest RX7 36 yX12_root "VeneerLoftModel" ∈ g_nw := (g_an 1419 (by decide +kernel) (by decide +kernel))
set_option maxRecDepth 20000 in
theorem md_X12_area : md_ok yX12_area cX12_area 3 (some .int) 2 := ⟨g_at 1425 (by decide +kernel) (by decide +kernel), (g_at 42 (by decide +kernel) (by decide +kernel)), by decide, ⟨by decide, by decide⟩, by decide +kernel, by decide⟩
set_option maxRecDepth 20000 in
theorem mi_X12_area : Cond.instanceMethod yX12_area ∈ g_ws := (g_at 1423 (by decide +kernel) (by decide +kernel))
set_option maxRecDepth 20000 in
theorem me_X12_area : Cond.selects RX12 yX12_area yX12_area ∈ g_ws := (g_at 1424 (by decide +kernel) (by decide +kernel))
set_option maxRecDepth 20000 in
theorem md_X7_area : md_ok yX7_area cX7_area 2 (some .int) 1 := ⟨g_at 1429 (by decide +kernel) (by decide +kernel), (g_at 64 (by decide +kernel) (by decide +kernel)), by decide, ⟨by decide, by decide⟩, by decide +kernel, by decide⟩
set_option maxRecDepth 20000 in
theorem mi_X7_area : Cond.instanceMethod yX7_area ∈ g_ws := (g_at 1427 (by decide +kernel) (by decide +kernel))
set_option maxRecDepth 20000 in
theorem me_X7_area : Cond.selects RX7 yX7_area yX7_area ∈ g_ws := (g_at 1428 (by decide +kernel) (by decide +kernel))
set_option maxRecDepth 20000 in
theorem mt_X12_117 : mt_ok RX12 117 yX7_area cX7_area 2 (some .int) 1 := ⟨(g_at 1426 (by decide +kernel) (by decide +kernel)), md_X7_area⟩
set_option maxRecDepth 20000 in
theorem mt_X7_42 : mt_ok RX7 42 yX7_width cX7_width 5 (some .int) 1 := ⟨(g_at 1430 (by decide +kernel) (by decide +kernel)), md_X7_width⟩
set_option maxRecDepth 20000 in
theorem fl_X7_45 : fl_ok RX7 45 13 2 := ⟨_, rfl, by decide, Or.inr (Or.inl ⟨"VeneerLoftModel", (g_an 1335 (by decide +kernel) (by decide +kernel))⟩)⟩
set_option maxRecDepth 20000 in
theorem md_X12_figure : md_ok yX12_figure cX12_figure 3 (some .int) 2 := ⟨g_at 1434 (by decide +kernel) (by decide +kernel), (g_at 42 (by decide +kernel) (by decide +kernel)), by decide, ⟨by decide, by decide⟩, by decide +kernel, by decide⟩
set_option maxRecDepth 20000 in
theorem mi_X12_figure : Cond.instanceMethod yX12_figure ∈ g_ws := (g_at 1432 (by decide +kernel) (by decide +kernel))
set_option maxRecDepth 20000 in
theorem me_X12_figure : Cond.selects RX12 yX12_figure yX12_figure ∈ g_ws := (g_at 1433 (by decide +kernel) (by decide +kernel))
set_option maxRecDepth 20000 in
theorem md_X7_figure : md_ok yX7_figure cX7_figure 3 (some .int) 1 := ⟨g_at 1438 (by decide +kernel) (by decide +kernel), (g_at 64 (by decide +kernel) (by decide +kernel)), by decide, ⟨by decide, by decide⟩, by decide +kernel, by decide⟩
set_option maxRecDepth 20000 in
theorem mi_X7_figure : Cond.instanceMethod yX7_figure ∈ g_ws := (g_at 1436 (by decide +kernel) (by decide +kernel))
set_option maxRecDepth 20000 in
theorem me_X7_figure : Cond.selects RX7 yX7_figure yX7_figure ∈ g_ws := (g_at 1437 (by decide +kernel) (by decide +kernel))
set_option maxRecDepth 20000 in
theorem mt_X12_120 : mt_ok RX12 120 yX7_figure cX7_figure 3 (some .int) 1 := ⟨(g_at 1435 (by decide +kernel) (by decide +kernel)), md_X7_figure⟩
set_option maxRecDepth 20000 in
theorem fl_X7_48 : fl_ok RX7 48 13 3 := ⟨_, rfl, by decide, Or.inr (Or.inl ⟨"VeneerLoftModel", (g_an 1338 (by decide +kernel) (by decide +kernel))⟩)⟩
set_option maxRecDepth 20000 in
theorem fl_X7_51 : fl_ok RX7 51 13 0 := ⟨_, rfl, by decide, Or.inr (Or.inl ⟨"VeneerLoftModel", (g_an 1330 (by decide +kernel) (by decide +kernel))⟩)⟩
set_option maxRecDepth 20000 in
theorem ma_X7_54 : Cond.methodLink RX7 54 Lib.Math.abs.name ∈ g_ws := (g_at 1439 (by decide +kernel) (by decide +kernel))
set_option maxRecDepth 20000 in
theorem ma_X7_57 : Cond.methodLink RX7 57 Lib.Math.max.name ∈ g_ws := (g_at 1440 (by decide +kernel) (by decide +kernel))
set_option maxRecDepth 20000 in
theorem md_X12_isUsed : md_ok yX12_isUsed cX12_isUsed 3 (some .boolean) 2 := ⟨g_at 1444 (by decide +kernel) (by decide +kernel), (g_at 42 (by decide +kernel) (by decide +kernel)), by decide, ⟨by decide, by decide⟩, by decide +kernel, by decide⟩
set_option maxRecDepth 20000 in
theorem mi_X12_isUsed : Cond.instanceMethod yX12_isUsed ∈ g_ws := (g_at 1442 (by decide +kernel) (by decide +kernel))
set_option maxRecDepth 20000 in
theorem me_X12_isUsed : Cond.selects RX12 yX12_isUsed yX12_isUsed ∈ g_ws := (g_at 1443 (by decide +kernel) (by decide +kernel))
set_option maxRecDepth 20000 in
theorem md_X12_panel : md_ok yX12_panel cX12_panel 5 (some .int) 4 := ⟨g_at 1448 (by decide +kernel) (by decide +kernel), (g_at 42 (by decide +kernel) (by decide +kernel)), by decide, ⟨by decide, by decide⟩, by decide +kernel, by decide⟩
set_option maxRecDepth 20000 in
theorem mi_X12_panel : Cond.instanceMethod yX12_panel ∈ g_ws := (g_at 1446 (by decide +kernel) (by decide +kernel))
set_option maxRecDepth 20000 in
theorem me_X12_panel : Cond.selects RX12 yX12_panel yX12_panel ∈ g_ws := (g_at 1447 (by decide +kernel) (by decide +kernel))
set_option maxRecDepth 20000 in
theorem cn_X12_123 : Cond.constantLong RX12 123 (2000) ∈ g_ws := (g_at 1449 (by decide +kernel) (by decide +kernel))
set_option maxRecDepth 20000 in
theorem cn_X12_125 : Cond.constantLong RX12 125 (20) ∈ g_ws := (g_at 1450 (by decide +kernel) (by decide +kernel))
set_option maxRecDepth 20000 in
theorem fl_X12_19 : fl_ok RX12 19 16 3 := ⟨_, rfl, by decide, Or.inl (g_at 1253 (by decide +kernel) (by decide +kernel))⟩
set_option maxRecDepth 20000 in
theorem cl_X12_129 : Cond.classLink RX12 129 "VeneerLoftModel$Panel" ∈ g_ws := (g_at 1452 (by decide +kernel) (by decide +kernel))
set_option maxRecDepth 20000 in
theorem nw_X12_129 : nw_ok RX12 129 14 13 := ⟨_, rfl, (g_at 1452 (by decide +kernel) (by decide +kernel)), (g_at 1453 (by decide +kernel) (by decide +kernel)), (g_at 66 (by decide +kernel) (by decide +kernel))⟩
set_option maxRecDepth 20000 in
theorem md_X10_init : md_ok yX10_init cX10_init 4 ((none : Option Jvm.ClassFile.FieldType)) 3 := ⟨g_at 1456 (by decide +kernel) (by decide +kernel), (g_at 66 (by decide +kernel) (by decide +kernel)), by decide, ⟨by decide, by decide⟩, by decide +kernel, by decide⟩
set_option maxRecDepth 20000 in
theorem mi_X10_init : Cond.instanceMethod yX10_init ∈ g_ws := (g_at 1455 (by decide +kernel) (by decide +kernel))
set_option maxRecDepth 20000 in
theorem mt_X12_131 : mt_ok RX12 131 yX10_init cX10_init 4 ((none : Option Jvm.ClassFile.FieldType)) 3 := ⟨(g_at 1454 (by decide +kernel) (by decide +kernel)), md_X10_init⟩
set_option maxRecDepth 20000 in
theorem fl_X12_22 : fl_ok RX12 22 16 4 := ⟨_, rfl, by decide, Or.inl (g_at 1254 (by decide +kernel) (by decide +kernel))⟩
set_option maxRecDepth 20000 in
theorem md_J6_valueOf_2dffe : md_ok yJ6_valueOf_2dffe cJ6_valueOf_2dffe 1 (some (.object "java/lang/Integer")) 1 := ⟨g_at 1506 (by decide +kernel) (by decide +kernel), (g_at 68 (by decide +kernel) (by decide +kernel)), by decide, ⟨by decide, by decide⟩, by decide +kernel, by decide⟩
set_option maxRecDepth 20000 in
theorem ms_J6_valueOf_2dffe : Cond.static yJ6_valueOf_2dffe ∈ g_ws := (g_at 1505 (by decide +kernel) (by decide +kernel))
set_option maxRecDepth 20000 in
theorem mt_X12_134 : mt_ok RX12 134 yJ6_valueOf_2dffe cJ6_valueOf_2dffe 1 (some (.object "java/lang/Integer")) 1 := ⟨(g_at 1504 (by decide +kernel) (by decide +kernel)), md_J6_valueOf_2dffe⟩
set_option maxRecDepth 20000 in
theorem oi_X10_1 : Cond.methodLink RX10 1 Lib.objectInit ∈ g_ws := (g_at 1457 (by decide +kernel) (by decide +kernel))
set_option maxRecDepth 20000 in
theorem pf_X10_init_7 : pf_ok yX10_init 7 14 0 := ⟨_, rfl, by decide, Or.inr ⟨rfl, rfl, rfl, (g_at 1458 (by decide +kernel) (by decide +kernel))⟩⟩
set_option maxRecDepth 20000 in
theorem pf_X10_init_13 : pf_ok yX10_init 13 14 1 := ⟨_, rfl, by decide, Or.inr ⟨rfl, rfl, rfl, (g_at 1460 (by decide +kernel) (by decide +kernel))⟩⟩
set_option maxRecDepth 20000 in
theorem pf_X10_init_16 : pf_ok yX10_init 16 14 2 := ⟨_, rfl, by decide, Or.inr ⟨rfl, rfl, rfl, (g_at 1462 (by decide +kernel) (by decide +kernel))⟩⟩
set_option maxRecDepth 20000 in
theorem gs_J6_191 : Cond.fieldLink RJ6 191 "java/lang/Integer$IntegerCache" "high" "I" ∈ g_ws := (g_at 1507 (by decide +kernel) (by decide +kernel))
set_option maxRecDepth 20000 in
theorem gs_J6_195 : Cond.fieldLink RJ6 195 "java/lang/Integer$IntegerCache" "cache" "[Ljava/lang/Integer;" ∈ g_ws := (g_at 1509 (by decide +kernel) (by decide +kernel))
set_option maxRecDepth 20000 in
theorem cl_J6_1 : Cond.classLink RJ6 1 "java/lang/Integer" ∈ g_ws := (g_at 1511 (by decide +kernel) (by decide +kernel))
set_option maxRecDepth 20000 in
theorem nw_J6_1 : nw_ok RJ6 1 1 1 := ⟨_, rfl, (g_at 1511 (by decide +kernel) (by decide +kernel)), (g_at 1512 (by decide +kernel) (by decide +kernel)), (g_at 68 (by decide +kernel) (by decide +kernel))⟩
set_option maxRecDepth 20000 in
theorem md_J6_init_d00df : md_ok yJ6_init_d00df cJ6_init_d00df 2 ((none : Option Jvm.ClassFile.FieldType)) 1 := ⟨g_at 1515 (by decide +kernel) (by decide +kernel), (g_at 68 (by decide +kernel) (by decide +kernel)), by decide, ⟨by decide, by decide⟩, by decide +kernel, by decide⟩
set_option maxRecDepth 20000 in
theorem mi_J6_init_d00df : Cond.instanceMethod yJ6_init_d00df ∈ g_ws := (g_at 1514 (by decide +kernel) (by decide +kernel))
set_option maxRecDepth 20000 in
theorem mt_J6_199 : mt_ok RJ6 199 yJ6_init_d00df cJ6_init_d00df 2 ((none : Option Jvm.ClassFile.FieldType)) 1 := ⟨(g_at 1513 (by decide +kernel) (by decide +kernel)), md_J6_init_d00df⟩
set_option maxRecDepth 20000 in
theorem md_Jxd2413_init_da8c8 : md_ok yJxd2413_init_da8c8 cJxd2413_init_da8c8 1 ((none : Option Jvm.ClassFile.FieldType)) 0 := ⟨g_at 1518 (by decide +kernel) (by decide +kernel), (g_at 67 (by decide +kernel) (by decide +kernel)), by decide, ⟨by decide, by decide⟩, by decide +kernel, by decide⟩
set_option maxRecDepth 20000 in
theorem mi_Jxd2413_init_da8c8 : Cond.instanceMethod yJxd2413_init_da8c8 ∈ g_ws := (g_at 1517 (by decide +kernel) (by decide +kernel))
set_option maxRecDepth 20000 in
theorem mt_J6_202 : mt_ok RJ6 202 yJxd2413_init_da8c8 cJxd2413_init_da8c8 1 ((none : Option Jvm.ClassFile.FieldType)) 0 := ⟨(g_at 1516 (by decide +kernel) (by decide +kernel)), md_Jxd2413_init_da8c8⟩
set_option maxRecDepth 20000 in
theorem pf_J6_init_d00df_205 : pf_ok yJ6_init_d00df 205 1 0 := ⟨_, rfl, by decide, Or.inr ⟨rfl, rfl, rfl, (g_at 1520 (by decide +kernel) (by decide +kernel))⟩⟩
set_option maxRecDepth 20000 in
theorem oi_Jxd2413_1 : Cond.methodLink RJxd2413 1 Lib.objectInit ∈ g_ws := (g_at 1519 (by decide +kernel) (by decide +kernel))
set_option maxRecDepth 20000 in
theorem md_X12_face : md_ok yX12_face cX12_face 9 (some .int) 5 := ⟨g_at 1527 (by decide +kernel) (by decide +kernel), (g_at 42 (by decide +kernel) (by decide +kernel)), by decide, ⟨by decide, by decide⟩, by decide +kernel, by decide⟩
set_option maxRecDepth 20000 in
theorem mi_X12_face : Cond.instanceMethod yX12_face ∈ g_ws := (g_at 1525 (by decide +kernel) (by decide +kernel))
set_option maxRecDepth 20000 in
theorem me_X12_face : Cond.selects RX12 yX12_face yX12_face ∈ g_ws := (g_at 1526 (by decide +kernel) (by decide +kernel))
set_option maxRecDepth 20000 in
theorem md_X12_noPanel : md_ok yX12_noPanel cX12_noPanel 2 (some .boolean) 1 := ⟨g_at 1531 (by decide +kernel) (by decide +kernel), (g_at 42 (by decide +kernel) (by decide +kernel)), by decide, ⟨by decide, by decide⟩, by decide +kernel, by decide⟩
set_option maxRecDepth 20000 in
theorem mi_X12_noPanel : Cond.instanceMethod yX12_noPanel ∈ g_ws := (g_at 1530 (by decide +kernel) (by decide +kernel))
set_option maxRecDepth 20000 in
theorem me_X12_noPanel : Cond.selects RX12 yX12_noPanel yX12_noPanel ∈ g_ws := (g_at 28 (by decide +kernel) (by decide +kernel))
set_option maxRecDepth 20000 in
theorem mt_X12_171 : mt_ok RX12 171 yX12_noPanel cX12_noPanel 2 (some .boolean) 1 := ⟨(g_at 1528 (by decide +kernel) (by decide +kernel)), md_X12_noPanel⟩
set_option maxRecDepth 20000 in
theorem md_X12_noRow : md_ok yX12_noRow cX12_noRow 4 (some .boolean) 3 := ⟨g_at 1535 (by decide +kernel) (by decide +kernel), (g_at 42 (by decide +kernel) (by decide +kernel)), by decide, ⟨by decide, by decide⟩, by decide +kernel, by decide⟩
set_option maxRecDepth 20000 in
theorem mi_X12_noRow : Cond.instanceMethod yX12_noRow ∈ g_ws := (g_at 1534 (by decide +kernel) (by decide +kernel))
set_option maxRecDepth 20000 in
theorem me_X12_noRow : Cond.selects RX12 yX12_noRow yX12_noRow ∈ g_ws := (g_at 29 (by decide +kernel) (by decide +kernel))
set_option maxRecDepth 20000 in
theorem mt_X12_175 : mt_ok RX12 175 yX12_noRow cX12_noRow 4 (some .boolean) 3 := ⟨(g_at 1532 (by decide +kernel) (by decide +kernel)), md_X12_noRow⟩
set_option maxRecDepth 20000 in
theorem cn_X12_181 : Cond.constantLong RX12 181 (8) ∈ g_ws := (g_at 1537 (by decide +kernel) (by decide +kernel))
set_option maxRecDepth 20000 in
theorem cl_X12_157 : Cond.classLink RX12 157 "VeneerLoftModel$Laid" ∈ g_ws := (g_at 1538 (by decide +kernel) (by decide +kernel))
set_option maxRecDepth 20000 in
theorem nw_X12_157 : nw_ok RX12 157 12 3 := ⟨_, rfl, (g_at 1538 (by decide +kernel) (by decide +kernel)), (g_at 1539 (by decide +kernel) (by decide +kernel)), (g_at 72 (by decide +kernel) (by decide +kernel))⟩
set_option maxRecDepth 20000 in
theorem md_X8_init : md_ok yX8_init cX8_init 4 ((none : Option Jvm.ClassFile.FieldType)) 3 := ⟨g_at 1542 (by decide +kernel) (by decide +kernel), (g_at 72 (by decide +kernel) (by decide +kernel)), by decide, ⟨by decide, by decide⟩, by decide +kernel, by decide⟩
set_option maxRecDepth 20000 in
theorem mi_X8_init : Cond.instanceMethod yX8_init ∈ g_ws := (g_at 1541 (by decide +kernel) (by decide +kernel))
set_option maxRecDepth 20000 in
theorem mt_X12_183 : mt_ok RX12 183 yX8_init cX8_init 4 ((none : Option Jvm.ClassFile.FieldType)) 3 := ⟨(g_at 1540 (by decide +kernel) (by decide +kernel)), md_X8_init⟩
set_option maxRecDepth 20000 in
theorem fl_X12_186 : fl_ok RX12 186 14 3 := ⟨_, rfl, by decide, Or.inr (Or.inl ⟨"VeneerLoftModel", (g_an 1465 (by decide +kernel) (by decide +kernel))⟩)⟩
set_option maxRecDepth 20000 in
theorem fl_X12_164 : fl_ok RX12 164 12 0 := ⟨_, rfl, by decide, Or.inr (Or.inl ⟨"VeneerLoftModel", (g_an 1546 (by decide +kernel) (by decide +kernel))⟩)⟩
set_option maxRecDepth 20000 in
theorem md_X12_canLie : md_ok yX12_canLie cX12_canLie 6 (some .boolean) 4 := ⟨g_at 1561 (by decide +kernel) (by decide +kernel), (g_at 42 (by decide +kernel) (by decide +kernel)), by decide, ⟨by decide, by decide⟩, by decide +kernel, by decide⟩
set_option maxRecDepth 20000 in
theorem ms_X12_canLie : Cond.static yX12_canLie ∈ g_ws := (g_at 1560 (by decide +kernel) (by decide +kernel))
set_option maxRecDepth 20000 in
theorem mt_X12_190 : mt_ok RX12 190 yX12_canLie cX12_canLie 6 (some .boolean) 4 := ⟨(g_at 1559 (by decide +kernel) (by decide +kernel)), md_X12_canLie⟩
set_option maxRecDepth 20000 in
theorem md_X12_lays : md_ok yX12_lays cX12_lays 6 (some .int) 2 := ⟨g_at 1568 (by decide +kernel) (by decide +kernel), (g_at 42 (by decide +kernel) (by decide +kernel)), by decide, ⟨by decide, by decide⟩, by decide +kernel, by decide⟩
set_option maxRecDepth 20000 in
theorem mi_X12_lays : Cond.instanceMethod yX12_lays ∈ g_ws := (g_at 1567 (by decide +kernel) (by decide +kernel))
set_option maxRecDepth 20000 in
theorem me_X12_lays : Cond.selects RX12 yX12_lays yX12_lays ∈ g_ws := (g_at 30 (by decide +kernel) (by decide +kernel))
set_option maxRecDepth 20000 in
theorem mt_X12_194 : mt_ok RX12 194 yX12_lays cX12_lays 6 (some .int) 2 := ⟨(g_at 1565 (by decide +kernel) (by decide +kernel)), md_X12_lays⟩
set_option maxRecDepth 20000 in
theorem pf_X12_face_186 : pf_ok yX12_face 186 14 3 := ⟨_, rfl, by decide, Or.inl ⟨rfl, Or.inr (Or.inl ⟨"VeneerLoftModel", (g_an 1465 (by decide +kernel) (by decide +kernel))⟩)⟩⟩
set_option maxRecDepth 20000 in
theorem md_X8_jump : md_ok yX8_jump cX8_jump 4 (some .int) 1 := ⟨g_at 1572 (by decide +kernel) (by decide +kernel), (g_at 72 (by decide +kernel) (by decide +kernel)), by decide, ⟨by decide, by decide⟩, by decide +kernel, by decide⟩
set_option maxRecDepth 20000 in
theorem mi_X8_jump : Cond.instanceMethod yX8_jump ∈ g_ws := (g_at 1570 (by decide +kernel) (by decide +kernel))
set_option maxRecDepth 20000 in
theorem me_X8_jump : Cond.selects RX8 yX8_jump yX8_jump ∈ g_ws := (g_at 1571 (by decide +kernel) (by decide +kernel))
set_option maxRecDepth 20000 in
theorem mt_X12_198 : mt_ok RX12 198 yX8_jump cX8_jump 4 (some .int) 1 := ⟨(g_at 1569 (by decide +kernel) (by decide +kernel)), md_X8_jump⟩
set_option maxRecDepth 20000 in
theorem pf_X12_face_202 : pf_ok yX12_face 202 14 5 := ⟨_, rfl, by decide, Or.inl ⟨rfl, Or.inr (Or.inl ⟨"VeneerLoftModel", (g_an 1468 (by decide +kernel) (by decide +kernel))⟩)⟩⟩
set_option maxRecDepth 20000 in
theorem fl_X12_204 : fl_ok RX12 204 16 7 := ⟨_, rfl, by decide, Or.inl (g_at 1257 (by decide +kernel) (by decide +kernel))⟩
set_option maxRecDepth 20000 in
theorem fl_X12_140 : fl_ok RX12 140 14 0 := ⟨_, rfl, by decide, Or.inr (Or.inl ⟨"VeneerLoftModel", (g_an 1459 (by decide +kernel) (by decide +kernel))⟩)⟩
set_option maxRecDepth 20000 in
theorem fl_X12_149 : fl_ok RX12 149 14 1 := ⟨_, rfl, by decide, Or.inr (Or.inl ⟨"VeneerLoftModel", (g_an 1461 (by decide +kernel) (by decide +kernel))⟩)⟩
set_option maxRecDepth 20000 in
theorem pf_X12_face_204 : pf_ok yX12_face 204 16 7 := ⟨_, rfl, by decide, Or.inl ⟨rfl, Or.inl (g_at 1257 (by decide +kernel) (by decide +kernel))⟩⟩
set_option maxRecDepth 20000 in
theorem fl_X12_202 : fl_ok RX12 202 14 5 := ⟨_, rfl, by decide, Or.inr (Or.inl ⟨"VeneerLoftModel", (g_an 1468 (by decide +kernel) (by decide +kernel))⟩)⟩
set_option maxRecDepth 20000 in
theorem oi_X8_1 : Cond.methodLink RX8 1 Lib.objectInit ∈ g_ws := (g_at 1543 (by decide +kernel) (by decide +kernel))
set_option maxRecDepth 20000 in
theorem pf_X8_init_7 : pf_ok yX8_init 7 12 0 := ⟨_, rfl, by decide, Or.inr ⟨rfl, rfl, rfl, (g_at 1544 (by decide +kernel) (by decide +kernel))⟩⟩
set_option maxRecDepth 20000 in
theorem pf_X8_init_13 : pf_ok yX8_init 13 12 1 := ⟨_, rfl, by decide, Or.inr ⟨rfl, rfl, rfl, (g_at 1547 (by decide +kernel) (by decide +kernel))⟩⟩
set_option maxRecDepth 20000 in
theorem pf_X8_init_17 : pf_ok yX8_init 17 12 2 := ⟨_, rfl, by decide, Or.inr ⟨rfl, rfl, rfl, (g_at 1549 (by decide +kernel) (by decide +kernel))⟩⟩
set_option maxRecDepth 20000 in
theorem fl_X12_142 : fl_ok RX12 142 11 0 := ⟨_, rfl, by decide, Or.inr (Or.inl ⟨"VeneerLoftModel", (g_an 1383 (by decide +kernel) (by decide +kernel))⟩)⟩
set_option maxRecDepth 20000 in
theorem fl_X12_146 : fl_ok RX12 146 13 2 := ⟨_, rfl, by decide, Or.inr (Or.inl ⟨"VeneerLoftModel", (g_an 1336 (by decide +kernel) (by decide +kernel))⟩)⟩
set_option maxRecDepth 20000 in
theorem md_X12_strip : md_ok yX12_strip cX12_strip 2 (some .int) 2 := ⟨g_at 1564 (by decide +kernel) (by decide +kernel), (g_at 42 (by decide +kernel) (by decide +kernel)), by decide, ⟨by decide, by decide⟩, by decide +kernel, by decide⟩
set_option maxRecDepth 20000 in
theorem ms_X12_strip : Cond.static yX12_strip ∈ g_ws := (g_at 1563 (by decide +kernel) (by decide +kernel))
set_option maxRecDepth 20000 in
theorem mt_X12_152 : mt_ok RX12 152 yX12_strip cX12_strip 2 (some .int) 2 := ⟨(g_at 1562 (by decide +kernel) (by decide +kernel)), md_X12_strip⟩
set_option maxRecDepth 20000 in
theorem fl_X12_156 : fl_ok RX12 156 12 1 := ⟨_, rfl, by decide, Or.inr (Or.inl ⟨"VeneerLoftModel", (g_an 1548 (by decide +kernel) (by decide +kernel))⟩)⟩
set_option maxRecDepth 20000 in
theorem fl_X12_161 : fl_ok RX12 161 12 2 := ⟨_, rfl, by decide, Or.inr (Or.inl ⟨"VeneerLoftModel", (g_an 1551 (by decide +kernel) (by decide +kernel))⟩)⟩
set_option maxRecDepth 20000 in
theorem fl_X12_25 : fl_ok RX12 25 16 5 := ⟨_, rfl, by decide, Or.inl (g_at 1255 (by decide +kernel) (by decide +kernel))⟩
set_option maxRecDepth 20000 in
theorem fl_X12_168 : fl_ok RX12 168 16 10 := ⟨_, rfl, by decide, Or.inl (g_at 1260 (by decide +kernel) (by decide +kernel))⟩
set_option maxRecDepth 20000 in
theorem pf_X12_lays_168 : pf_ok yX12_lays 168 16 10 := ⟨_, rfl, by decide, Or.inl ⟨rfl, Or.inl (g_at 1260 (by decide +kernel) (by decide +kernel))⟩⟩
set_option maxRecDepth 20000 in
theorem fl_X8_17 : fl_ok RX8 17 12 2 := ⟨_, rfl, by decide, Or.inl (g_at 1549 (by decide +kernel) (by decide +kernel))⟩
set_option maxRecDepth 20000 in
theorem fl_X8_7 : fl_ok RX8 7 12 0 := ⟨_, rfl, by decide, Or.inl (g_at 1544 (by decide +kernel) (by decide +kernel))⟩
set_option maxRecDepth 20000 in
theorem fl_X8_13 : fl_ok RX8 13 12 1 := ⟨_, rfl, by decide, Or.inl (g_at 1547 (by decide +kernel) (by decide +kernel))⟩
set_option maxRecDepth 20000 in
theorem mt_X8_20 : mt_ok RX8 20 yX7_figure cX7_figure 3 (some .int) 1 := ⟨(g_at 1573 (by decide +kernel) (by decide +kernel)), md_X7_figure⟩
set_option maxRecDepth 20000 in
theorem ma_X8_26 : Cond.methodLink RX8 26 Lib.Math.abs.name ∈ g_ws := (g_at 1574 (by decide +kernel) (by decide +kernel))
set_option maxRecDepth 20000 in
theorem md_X12_back : md_ok yX12_back cX12_back 7 (some .int) 4 := ⟨g_at 1578 (by decide +kernel) (by decide +kernel), (g_at 42 (by decide +kernel) (by decide +kernel)), by decide, ⟨by decide, by decide⟩, by decide +kernel, by decide⟩
set_option maxRecDepth 20000 in
theorem mi_X12_back : Cond.instanceMethod yX12_back ∈ g_ws := (g_at 1576 (by decide +kernel) (by decide +kernel))
set_option maxRecDepth 20000 in
theorem me_X12_back : Cond.selects RX12 yX12_back yX12_back ∈ g_ws := (g_at 1577 (by decide +kernel) (by decide +kernel))
set_option maxRecDepth 20000 in
theorem fl_X12_207 : fl_ok RX12 207 14 4 := ⟨_, rfl, by decide, Or.inr (Or.inl ⟨"VeneerLoftModel", (g_an 1467 (by decide +kernel) (by decide +kernel))⟩)⟩
set_option maxRecDepth 20000 in
theorem fl_X12_210 : fl_ok RX12 210 14 6 := ⟨_, rfl, by decide, Or.inr (Or.inl ⟨"VeneerLoftModel", (g_an 1469 (by decide +kernel) (by decide +kernel))⟩)⟩
set_option maxRecDepth 20000 in
theorem pf_X12_back_207 : pf_ok yX12_back 207 14 4 := ⟨_, rfl, by decide, Or.inl ⟨rfl, Or.inr (Or.inl ⟨"VeneerLoftModel", (g_an 1467 (by decide +kernel) (by decide +kernel))⟩)⟩⟩
set_option maxRecDepth 20000 in
theorem fl_X12_213 : fl_ok RX12 213 16 8 := ⟨_, rfl, by decide, Or.inl (g_at 1258 (by decide +kernel) (by decide +kernel))⟩
set_option maxRecDepth 20000 in
theorem pf_X12_back_213 : pf_ok yX12_back 213 16 8 := ⟨_, rfl, by decide, Or.inl ⟨rfl, Or.inl (g_at 1258 (by decide +kernel) (by decide +kernel))⟩⟩
set_option maxRecDepth 20000 in
theorem md_X12_jump : md_ok yX12_jump cX12_jump 2 (some .int) 1 := ⟨g_at 1582 (by decide +kernel) (by decide +kernel), (g_at 42 (by decide +kernel) (by decide +kernel)), by decide, ⟨by decide, by decide⟩, by decide +kernel, by decide⟩
set_option maxRecDepth 20000 in
theorem mi_X12_jump : Cond.instanceMethod yX12_jump ∈ g_ws := (g_at 1580 (by decide +kernel) (by decide +kernel))
set_option maxRecDepth 20000 in
theorem me_X12_jump : Cond.selects RX12 yX12_jump yX12_jump ∈ g_ws := (g_at 1581 (by decide +kernel) (by decide +kernel))
set_option maxRecDepth 20000 in
theorem md_X12_bestFirst : md_ok yX12_bestFirst cX12_bestFirst 10 (some .int) 4 := ⟨g_at 1586 (by decide +kernel) (by decide +kernel), (g_at 42 (by decide +kernel) (by decide +kernel)), by decide, ⟨by decide, by decide⟩, by decide +kernel, by decide⟩
set_option maxRecDepth 20000 in
theorem mi_X12_bestFirst : Cond.instanceMethod yX12_bestFirst ∈ g_ws := (g_at 1584 (by decide +kernel) (by decide +kernel))
set_option maxRecDepth 20000 in
theorem me_X12_bestFirst : Cond.selects RX12 yX12_bestFirst yX12_bestFirst ∈ g_ws := (g_at 1585 (by decide +kernel) (by decide +kernel))
set_option maxRecDepth 20000 in
theorem md_X12_press : md_ok yX12_press cX12_press 7 (some .int) 4 := ⟨g_at 1590 (by decide +kernel) (by decide +kernel), (g_at 42 (by decide +kernel) (by decide +kernel)), by decide, ⟨by decide, by decide⟩, by decide +kernel, by decide⟩
set_option maxRecDepth 20000 in
theorem mi_X12_press : Cond.instanceMethod yX12_press ∈ g_ws := (g_at 1588 (by decide +kernel) (by decide +kernel))
set_option maxRecDepth 20000 in
theorem me_X12_press : Cond.selects RX12 yX12_press yX12_press ∈ g_ws := (g_at 1589 (by decide +kernel) (by decide +kernel))
set_option maxRecDepth 20000 in
theorem cn_X12_216 : Cond.constantLong RX12 216 (60) ∈ g_ws := (g_at 1591 (by decide +kernel) (by decide +kernel))
set_option maxRecDepth 20000 in
theorem cn_X12_218 : Cond.constantLong RX12 218 (99) ∈ g_ws := (g_at 1592 (by decide +kernel) (by decide +kernel))
set_option maxRecDepth 20000 in
theorem cl_X12_135 : Cond.classLink RX12 135 "java/lang/Integer" ∈ g_ws := (g_at 1593 (by decide +kernel) (by decide +kernel))
set_option maxRecDepth 20000 in
theorem md_J6_intValue_8abf5 : md_ok yJ6_intValue_8abf5 cJ6_intValue_8abf5 1 (some .int) 0 := ⟨g_at 1597 (by decide +kernel) (by decide +kernel), (g_at 68 (by decide +kernel) (by decide +kernel)), by decide, ⟨by decide, by decide⟩, by decide +kernel, by decide⟩
set_option maxRecDepth 20000 in
theorem mi_J6_intValue_8abf5 : Cond.instanceMethod yJ6_intValue_8abf5 ∈ g_ws := (g_at 1595 (by decide +kernel) (by decide +kernel))
set_option maxRecDepth 20000 in
theorem me_J6_intValue_8abf5 : Cond.selects RJ6 yJ6_intValue_8abf5 yJ6_intValue_8abf5 ∈ g_ws := (g_at 1596 (by decide +kernel) (by decide +kernel))
set_option maxRecDepth 20000 in
theorem mt_X12_220 : mt_ok RX12 220 yJ6_intValue_8abf5 cJ6_intValue_8abf5 1 (some .int) 0 := ⟨(g_at 1594 (by decide +kernel) (by decide +kernel)), md_J6_intValue_8abf5⟩
set_option maxRecDepth 20000 in
theorem pf_X12_press_210 : pf_ok yX12_press 210 14 6 := ⟨_, rfl, by decide, Or.inl ⟨rfl, Or.inr (Or.inl ⟨"VeneerLoftModel", (g_an 1469 (by decide +kernel) (by decide +kernel))⟩)⟩⟩
set_option maxRecDepth 20000 in
theorem fl_X12_28 : fl_ok RX12 28 16 11 := ⟨_, rfl, by decide, Or.inl (g_at 1261 (by decide +kernel) (by decide +kernel))⟩
set_option maxRecDepth 20000 in
theorem pf_X12_press_223 : pf_ok yX12_press 223 14 7 := ⟨_, rfl, by decide, Or.inl ⟨rfl, Or.inr (Or.inl ⟨"VeneerLoftModel", (g_an 1470 (by decide +kernel) (by decide +kernel))⟩)⟩⟩
set_option maxRecDepth 20000 in
theorem pf_X12_press_226 : pf_ok yX12_press 226 14 8 := ⟨_, rfl, by decide, Or.inl ⟨rfl, Or.inr (Or.inl ⟨"VeneerLoftModel", (g_an 1471 (by decide +kernel) (by decide +kernel))⟩)⟩⟩
set_option maxRecDepth 20000 in
theorem fl_X12_226 : fl_ok RX12 226 14 8 := ⟨_, rfl, by decide, Or.inr (Or.inl ⟨"VeneerLoftModel", (g_an 1471 (by decide +kernel) (by decide +kernel))⟩)⟩
set_option maxRecDepth 20000 in
theorem fl_J6_205 : fl_ok RJ6 205 1 0 := ⟨_, rfl, by decide, Or.inl (g_at 1520 (by decide +kernel) (by decide +kernel))⟩
set_option maxRecDepth 20000 in
theorem md_X12_slit : md_ok yX12_slit cX12_slit 2 (some .int) 1 := ⟨g_at 1601 (by decide +kernel) (by decide +kernel), (g_at 42 (by decide +kernel) (by decide +kernel)), by decide, ⟨by decide, by decide⟩, by decide +kernel, by decide⟩
set_option maxRecDepth 20000 in
theorem mi_X12_slit : Cond.instanceMethod yX12_slit ∈ g_ws := (g_at 1599 (by decide +kernel) (by decide +kernel))
set_option maxRecDepth 20000 in
theorem me_X12_slit : Cond.selects RX12 yX12_slit yX12_slit ∈ g_ws := (g_at 1600 (by decide +kernel) (by decide +kernel))
set_option maxRecDepth 20000 in
theorem pf_X12_slit_226 : pf_ok yX12_slit 226 14 8 := ⟨_, rfl, by decide, Or.inl ⟨rfl, Or.inr (Or.inl ⟨"VeneerLoftModel", (g_an 1471 (by decide +kernel) (by decide +kernel))⟩)⟩⟩
set_option maxRecDepth 20000 in
theorem md_X12_air : md_ok yX12_air cX12_air 3 (some .int) 1 := ⟨g_at 1605 (by decide +kernel) (by decide +kernel), (g_at 42 (by decide +kernel) (by decide +kernel)), by decide, ⟨by decide, by decide⟩, by decide +kernel, by decide⟩
set_option maxRecDepth 20000 in
theorem mi_X12_air : Cond.instanceMethod yX12_air ∈ g_ws := (g_at 1603 (by decide +kernel) (by decide +kernel))
set_option maxRecDepth 20000 in
theorem me_X12_air : Cond.selects RX12 yX12_air yX12_air ∈ g_ws := (g_at 1604 (by decide +kernel) (by decide +kernel))
set_option maxRecDepth 20000 in
theorem cn_X12_229 : Cond.constantLong RX12 229 (4) ∈ g_ws := (g_at 1606 (by decide +kernel) (by decide +kernel))
set_option maxRecDepth 20000 in
theorem pf_X12_air_28 : pf_ok yX12_air 28 16 11 := ⟨_, rfl, by decide, Or.inl ⟨rfl, Or.inl (g_at 1261 (by decide +kernel) (by decide +kernel))⟩⟩
set_option maxRecDepth 20000 in
theorem md_X12_cup : md_ok yX12_cup cX12_cup 3 (some .int) 2 := ⟨g_at 1610 (by decide +kernel) (by decide +kernel), (g_at 42 (by decide +kernel) (by decide +kernel)), by decide, ⟨by decide, by decide⟩, by decide +kernel, by decide⟩
set_option maxRecDepth 20000 in
theorem mi_X12_cup : Cond.instanceMethod yX12_cup ∈ g_ws := (g_at 1608 (by decide +kernel) (by decide +kernel))
set_option maxRecDepth 20000 in
theorem me_X12_cup : Cond.selects RX12 yX12_cup yX12_cup ∈ g_ws := (g_at 1609 (by decide +kernel) (by decide +kernel))
set_option maxRecDepth 20000 in
theorem md_X12_cupOf : md_ok yX12_cupOf cX12_cupOf 3 (some .int) 2 := ⟨g_at 1613 (by decide +kernel) (by decide +kernel), (g_at 42 (by decide +kernel) (by decide +kernel)), by decide, ⟨by decide, by decide⟩, by decide +kernel, by decide⟩
set_option maxRecDepth 20000 in
theorem ms_X12_cupOf : Cond.static yX12_cupOf ∈ g_ws := (g_at 1612 (by decide +kernel) (by decide +kernel))
set_option maxRecDepth 20000 in
theorem mt_X12_248 : mt_ok RX12 248 yX12_cupOf cX12_cupOf 3 (some .int) 2 := ⟨(g_at 1611 (by decide +kernel) (by decide +kernel)), md_X12_cupOf⟩
set_option maxRecDepth 20000 in
theorem fl_X12_223 : fl_ok RX12 223 14 7 := ⟨_, rfl, by decide, Or.inr (Or.inl ⟨"VeneerLoftModel", (g_an 1470 (by decide +kernel) (by decide +kernel))⟩)⟩
set_option maxRecDepth 20000 in
theorem md_X12_pull : md_ok yX12_pull cX12_pull 2 (some .int) 2 := ⟨g_at 1616 (by decide +kernel) (by decide +kernel), (g_at 42 (by decide +kernel) (by decide +kernel)), by decide, ⟨by decide, by decide⟩, by decide +kernel, by decide⟩
set_option maxRecDepth 20000 in
theorem ms_X12_pull : Cond.static yX12_pull ∈ g_ws := (g_at 1615 (by decide +kernel) (by decide +kernel))
set_option maxRecDepth 20000 in
theorem mt_X12_241 : mt_ok RX12 241 yX12_pull cX12_pull 2 (some .int) 2 := ⟨(g_at 1614 (by decide +kernel) (by decide +kernel)), md_X12_pull⟩
set_option maxRecDepth 20000 in
theorem fl_X12_245 : fl_ok RX12 245 14 2 := ⟨_, rfl, by decide, Or.inr (Or.inl ⟨"VeneerLoftModel", (g_an 1463 (by decide +kernel) (by decide +kernel))⟩)⟩
set_option maxRecDepth 20000 in
theorem gs_X12_231 : Cond.fieldLink RX12 231 "VeneerLoftModel" "SWELLS" "[I" ∈ g_ws := (g_at 1617 (by decide +kernel) (by decide +kernel))
set_option maxRecDepth 20000 in
theorem fl_X12_235 : fl_ok RX12 235 13 0 := ⟨_, rfl, by decide, Or.inr (Or.inl ⟨"VeneerLoftModel", (g_an 1331 (by decide +kernel) (by decide +kernel))⟩)⟩
set_option maxRecDepth 20000 in
theorem fl_X12_238 : fl_ok RX12 238 11 2 := ⟨_, rfl, by decide, Or.inr (Or.inl ⟨"VeneerLoftModel", (g_an 1387 (by decide +kernel) (by decide +kernel))⟩)⟩
set_option maxRecDepth 20000 in
theorem md_X12_isFlat_ : md_ok yX12_isFlat_ cX12_isFlat_ 2 (some .boolean) 1 := ⟨g_at 1622 (by decide +kernel) (by decide +kernel), (g_at 42 (by decide +kernel) (by decide +kernel)), by decide, ⟨by decide, by decide⟩, by decide +kernel, by decide⟩
set_option maxRecDepth 20000 in
theorem mi_X12_isFlat_ : Cond.instanceMethod yX12_isFlat_ ∈ g_ws := (g_at 1620 (by decide +kernel) (by decide +kernel))
set_option maxRecDepth 20000 in
theorem me_X12_isFlat_ : Cond.selects RX12 yX12_isFlat_ yX12_isFlat_ ∈ g_ws := (g_at 1621 (by decide +kernel) (by decide +kernel))
set_option maxRecDepth 20000 in
theorem md_X12_isFlat : md_ok yX12_isFlat cX12_isFlat 2 (some .boolean) 2 := ⟨g_at 1625 (by decide +kernel) (by decide +kernel), (g_at 42 (by decide +kernel) (by decide +kernel)), by decide, ⟨by decide, by decide⟩, by decide +kernel, by decide⟩
set_option maxRecDepth 20000 in
theorem ms_X12_isFlat : Cond.static yX12_isFlat ∈ g_ws := (g_at 1624 (by decide +kernel) (by decide +kernel))
set_option maxRecDepth 20000 in
theorem mt_X12_255 : mt_ok RX12 255 yX12_isFlat cX12_isFlat 2 (some .boolean) 2 := ⟨(g_at 1623 (by decide +kernel) (by decide +kernel)), md_X12_isFlat⟩
set_option maxRecDepth 20000 in
theorem cn_X12_251 : Cond.constantLong RX12 251 (-3) ∈ g_ws := (g_at 1626 (by decide +kernel) (by decide +kernel))
set_option maxRecDepth 20000 in
theorem cn_X12_253 : Cond.constantLong RX12 253 (3) ∈ g_ws := (g_at 1627 (by decide +kernel) (by decide +kernel))
set_option maxRecDepth 20000 in
theorem md_X12_cupMonth : md_ok yX12_cupMonth cX12_cupMonth 5 (some .int) 1 := ⟨g_at 1631 (by decide +kernel) (by decide +kernel), (g_at 42 (by decide +kernel) (by decide +kernel)), by decide, ⟨by decide, by decide⟩, by decide +kernel, by decide⟩
set_option maxRecDepth 20000 in
theorem mi_X12_cupMonth : Cond.instanceMethod yX12_cupMonth ∈ g_ws := (g_at 1629 (by decide +kernel) (by decide +kernel))
set_option maxRecDepth 20000 in
theorem me_X12_cupMonth : Cond.selects RX12 yX12_cupMonth yX12_cupMonth ∈ g_ws := (g_at 1630 (by decide +kernel) (by decide +kernel))
set_option maxRecDepth 20000 in
theorem gs_X12_259 : Cond.fieldLink RX12 259 "VeneerLoftModel" "YEAR" "[I" ∈ g_ws := (g_at 1632 (by decide +kernel) (by decide +kernel))
set_option maxRecDepth 20000 in
theorem ma_X12_262 : Cond.methodLink RX12 262 Lib.Math.min.name ∈ g_ws := (g_at 1634 (by decide +kernel) (by decide +kernel))
set_option maxRecDepth 20000 in
theorem ma_X12_268 : Cond.methodLink RX12 268 Lib.Math.max.name ∈ g_ws := (g_at 1635 (by decide +kernel) (by decide +kernel))
set_option maxRecDepth 20000 in
theorem md_X12_scrape : md_ok yX12_scrape cX12_scrape 3 (some .int) 2 := ⟨g_at 1639 (by decide +kernel) (by decide +kernel), (g_at 42 (by decide +kernel) (by decide +kernel)), by decide, ⟨by decide, by decide⟩, by decide +kernel, by decide⟩
set_option maxRecDepth 20000 in
theorem mi_X12_scrape : Cond.instanceMethod yX12_scrape ∈ g_ws := (g_at 1637 (by decide +kernel) (by decide +kernel))
set_option maxRecDepth 20000 in
theorem me_X12_scrape : Cond.selects RX12 yX12_scrape yX12_scrape ∈ g_ws := (g_at 1638 (by decide +kernel) (by decide +kernel))
set_option maxRecDepth 20000 in
theorem md_X10_left : md_ok yX10_left cX10_left 1 (some .int) 0 := ⟨g_at 1643 (by decide +kernel) (by decide +kernel), (g_at 66 (by decide +kernel) (by decide +kernel)), by decide, ⟨by decide, by decide⟩, by decide +kernel, by decide⟩
set_option maxRecDepth 20000 in
theorem mi_X10_left : Cond.instanceMethod yX10_left ∈ g_ws := (g_at 1641 (by decide +kernel) (by decide +kernel))
set_option maxRecDepth 20000 in
theorem me_X10_left : Cond.selects RX10 yX10_left yX10_left ∈ g_ws := (g_at 1642 (by decide +kernel) (by decide +kernel))
set_option maxRecDepth 20000 in
theorem mt_X12_271 : mt_ok RX12 271 yX10_left cX10_left 1 (some .int) 0 := ⟨(g_at 1640 (by decide +kernel) (by decide +kernel)), md_X10_left⟩
set_option maxRecDepth 20000 in
theorem fl_X12_274 : fl_ok RX12 274 14 9 := ⟨_, rfl, by decide, Or.inr (Or.inl ⟨"VeneerLoftModel", (g_an 1473 (by decide +kernel) (by decide +kernel))⟩)⟩
set_option maxRecDepth 20000 in
theorem pf_X12_scrape_274 : pf_ok yX12_scrape 274 14 9 := ⟨_, rfl, by decide, Or.inl ⟨rfl, Or.inr (Or.inl ⟨"VeneerLoftModel", (g_an 1473 (by decide +kernel) (by decide +kernel))⟩)⟩⟩
set_option maxRecDepth 20000 in
theorem fl_X10_19 : fl_ok RX10 19 14 3 := ⟨_, rfl, by decide, Or.inl (g_at 1464 (by decide +kernel) (by decide +kernel))⟩
set_option maxRecDepth 20000 in
theorem fl_X10_23 : fl_ok RX10 23 12 0 := ⟨_, rfl, by decide, Or.inr (Or.inl ⟨"VeneerLoftModel", (g_an 1545 (by decide +kernel) (by decide +kernel))⟩)⟩
set_option maxRecDepth 20000 in
theorem fl_X10_29 : fl_ok RX10 29 11 2 := ⟨_, rfl, by decide, Or.inr (Or.inl ⟨"VeneerLoftModel", (g_an 1386 (by decide +kernel) (by decide +kernel))⟩)⟩
set_option maxRecDepth 20000 in
theorem fl_X10_34 : fl_ok RX10 34 14 9 := ⟨_, rfl, by decide, Or.inl (g_at 1472 (by decide +kernel) (by decide +kernel))⟩
set_option maxRecDepth 20000 in
theorem ma_X10_37 : Cond.methodLink RX10 37 Lib.Math.max.name ∈ g_ws := (g_at 1644 (by decide +kernel) (by decide +kernel))
set_option maxRecDepth 20000 in
theorem md_X12_isThrough : md_ok yX12_isThrough cX12_isThrough 2 (some .boolean) 1 := ⟨g_at 1648 (by decide +kernel) (by decide +kernel), (g_at 42 (by decide +kernel) (by decide +kernel)), by decide, ⟨by decide, by decide⟩, by decide +kernel, by decide⟩
set_option maxRecDepth 20000 in
theorem mi_X12_isThrough : Cond.instanceMethod yX12_isThrough ∈ g_ws := (g_at 1646 (by decide +kernel) (by decide +kernel))
set_option maxRecDepth 20000 in
theorem me_X12_isThrough : Cond.selects RX12 yX12_isThrough yX12_isThrough ∈ g_ws := (g_at 1647 (by decide +kernel) (by decide +kernel))
set_option maxRecDepth 20000 in
theorem md_X12_pad : md_ok yX12_pad cX12_pad 5 (some .int) 2 := ⟨g_at 1652 (by decide +kernel) (by decide +kernel), (g_at 42 (by decide +kernel) (by decide +kernel)), by decide, ⟨by decide, by decide⟩, by decide +kernel, by decide⟩
set_option maxRecDepth 20000 in
theorem mi_X12_pad : Cond.instanceMethod yX12_pad ∈ g_ws := (g_at 1650 (by decide +kernel) (by decide +kernel))
set_option maxRecDepth 20000 in
theorem me_X12_pad : Cond.selects RX12 yX12_pad yX12_pad ∈ g_ws := (g_at 1651 (by decide +kernel) (by decide +kernel))
set_option maxRecDepth 20000 in
theorem cn_X12_277 : Cond.constantLong RX12 277 (9) ∈ g_ws := (g_at 1653 (by decide +kernel) (by decide +kernel))
set_option maxRecDepth 20000 in
theorem fl_X12_279 : fl_ok RX12 279 14 12 := ⟨_, rfl, by decide, Or.inr (Or.inl ⟨"VeneerLoftModel", (g_an 1476 (by decide +kernel) (by decide +kernel))⟩)⟩
set_option maxRecDepth 20000 in
theorem fl_X12_282 : fl_ok RX12 282 14 10 := ⟨_, rfl, by decide, Or.inr (Or.inl ⟨"VeneerLoftModel", (g_an 1474 (by decide +kernel) (by decide +kernel))⟩)⟩
set_option maxRecDepth 20000 in
theorem pf_X12_pad_282 : pf_ok yX12_pad 282 14 10 := ⟨_, rfl, by decide, Or.inl ⟨rfl, Or.inr (Or.inl ⟨"VeneerLoftModel", (g_an 1474 (by decide +kernel) (by decide +kernel))⟩)⟩⟩
set_option maxRecDepth 20000 in
theorem fl_X12_285 : fl_ok RX12 285 14 11 := ⟨_, rfl, by decide, Or.inr (Or.inl ⟨"VeneerLoftModel", (g_an 1475 (by decide +kernel) (by decide +kernel))⟩)⟩
set_option maxRecDepth 20000 in
theorem pf_X12_pad_285 : pf_ok yX12_pad 285 14 11 := ⟨_, rfl, by decide, Or.inl ⟨rfl, Or.inr (Or.inl ⟨"VeneerLoftModel", (g_an 1475 (by decide +kernel) (by decide +kernel))⟩)⟩⟩
set_option maxRecDepth 20000 in
theorem pf_X12_pad_279 : pf_ok yX12_pad 279 14 12 := ⟨_, rfl, by decide, Or.inl ⟨rfl, Or.inr (Or.inl ⟨"VeneerLoftModel", (g_an 1476 (by decide +kernel) (by decide +kernel))⟩)⟩⟩
set_option maxRecDepth 20000 in
theorem md_X12_rest : md_ok yX12_rest cX12_rest 4 (some .int) 0 := ⟨g_at 1657 (by decide +kernel) (by decide +kernel), (g_at 42 (by decide +kernel) (by decide +kernel)), by decide, ⟨by decide, by decide⟩, by decide +kernel, by decide⟩
set_option maxRecDepth 20000 in
theorem mi_X12_rest : Cond.instanceMethod yX12_rest ∈ g_ws := (g_at 1655 (by decide +kernel) (by decide +kernel))
set_option maxRecDepth 20000 in
theorem me_X12_rest : Cond.selects RX12 yX12_rest yX12_rest ∈ g_ws := (g_at 1656 (by decide +kernel) (by decide +kernel))
set_option maxRecDepth 20000 in
theorem mf_X12_288 : Cond.methodLink RX12 288 ⟨"java/util/List", "iterator", "()Ljava/util/Iterator;"⟩ ∈ g_ws := (g_at 1659 (by decide +kernel) (by decide +kernel))
set_option maxRecDepth 20000 in
theorem se_Jx4a65c_iterator_32c93 : Cond.selects "java/util/ArrayList" ⟨"java/util/List", "iterator", "()Ljava/util/Iterator;"⟩ yJx4a65c_iterator_32c93 ∈ g_ws := (g_at 1662 (by decide +kernel) (by decide +kernel))
set_option maxRecDepth 20000 in
theorem mf_X12_292 : Cond.methodLink RX12 292 ⟨"java/util/Iterator", "hasNext", "()Z"⟩ ∈ g_ws := (g_at 1687 (by decide +kernel) (by decide +kernel))
set_option maxRecDepth 20000 in
theorem se_Jx35411_hasNext_aae02 : Cond.selects "java/util/ArrayList$Itr" ⟨"java/util/Iterator", "hasNext", "()Z"⟩ yJx35411_hasNext_aae02 ∈ g_ws := (g_at 1691 (by decide +kernel) (by decide +kernel))
set_option maxRecDepth 20000 in
theorem mf_X12_298 : Cond.methodLink RX12 298 ⟨"java/util/Iterator", "next", "()Ljava/lang/Object;"⟩ ∈ g_ws := (g_at 1697 (by decide +kernel) (by decide +kernel))
set_option maxRecDepth 20000 in
theorem se_Jx35411_next_0502b : Cond.selects "java/util/ArrayList$Itr" ⟨"java/util/Iterator", "next", "()Ljava/lang/Object;"⟩ yJx35411_next_0502b ∈ g_ws := (g_at 1700 (by decide +kernel) (by decide +kernel))
set_option maxRecDepth 20000 in
theorem pf_X12_rest_279 : pf_ok yX12_rest 279 14 12 := ⟨_, rfl, by decide, Or.inl ⟨rfl, Or.inr (Or.inl ⟨"VeneerLoftModel", (g_an 1476 (by decide +kernel) (by decide +kernel))⟩)⟩⟩
set_option maxRecDepth 20000 in
theorem md_Jx4a65c_iterator_32c93 : md_ok yJx4a65c_iterator_32c93 cJx4a65c_iterator_32c93 1 (some (.object "java/util/Iterator")) 0 := ⟨g_at 1666 (by decide +kernel) (by decide +kernel), (g_at 41 (by decide +kernel) (by decide +kernel)), by decide, ⟨by decide, by decide⟩, by decide +kernel, by decide⟩
set_option maxRecDepth 20000 in
theorem mi_Jx4a65c_iterator_32c93 : Cond.instanceMethod yJx4a65c_iterator_32c93 ∈ g_ws := (g_at 1664 (by decide +kernel) (by decide +kernel))
set_option maxRecDepth 20000 in
theorem cl_Jx4a65c_267 : Cond.classLink RJx4a65c 267 "java/util/ArrayList$Itr" ∈ g_ws := (g_at 1667 (by decide +kernel) (by decide +kernel))
set_option maxRecDepth 20000 in
theorem nw_Jx4a65c_267 : nw_ok RJx4a65c 267 2 4 := ⟨_, rfl, (g_at 1667 (by decide +kernel) (by decide +kernel)), (g_at 1668 (by decide +kernel) (by decide +kernel)), (g_at 74 (by decide +kernel) (by decide +kernel))⟩
set_option maxRecDepth 20000 in
theorem md_Jx35411_init_45d68 : md_ok yJx35411_init_45d68 cJx35411_init_45d68 2 ((none : Option Jvm.ClassFile.FieldType)) 1 := ⟨g_at 1671 (by decide +kernel) (by decide +kernel), (g_at 74 (by decide +kernel) (by decide +kernel)), by decide, ⟨by decide, by decide⟩, by decide +kernel, by decide⟩
set_option maxRecDepth 20000 in
theorem mi_Jx35411_init_45d68 : Cond.instanceMethod yJx35411_init_45d68 ∈ g_ws := (g_at 1670 (by decide +kernel) (by decide +kernel))
set_option maxRecDepth 20000 in
theorem mt_Jx4a65c_269 : mt_ok RJx4a65c 269 yJx35411_init_45d68 cJx35411_init_45d68 2 ((none : Option Jvm.ClassFile.FieldType)) 1 := ⟨(g_at 1669 (by decide +kernel) (by decide +kernel)), md_Jx35411_init_45d68⟩
set_option maxRecDepth 20000 in
theorem pf_Jx35411_init_45d68_1 : pf_ok yJx35411_init_45d68 1 2 3 := ⟨_, rfl, by decide, Or.inr ⟨rfl, rfl, rfl, (g_at 1676 (by decide +kernel) (by decide +kernel))⟩⟩
set_option maxRecDepth 20000 in
theorem oi_Jx35411_7 : Cond.methodLink RJx35411 7 Lib.objectInit ∈ g_ws := (g_at 1672 (by decide +kernel) (by decide +kernel))
set_option maxRecDepth 20000 in
theorem pf_Jx35411_init_45d68_13 : pf_ok yJx35411_init_45d68 13 2 1 := ⟨_, rfl, by decide, Or.inl ⟨rfl, Or.inl (g_at 1674 (by decide +kernel) (by decide +kernel))⟩⟩
set_option maxRecDepth 20000 in
theorem fl_Jx35411_1 : fl_ok RJx35411 1 2 3 := ⟨_, rfl, by decide, Or.inl (g_at 1676 (by decide +kernel) (by decide +kernel))⟩
set_option maxRecDepth 20000 in
theorem fl_Jx35411_17 : fl_ok RJx35411 17 3 0 := ⟨_, rfl, by decide, Or.inr (Or.inr ⟨"java/util/ArrayList", (g_at 105 (by decide +kernel) (by decide +kernel)), (g_at 106 (by decide +kernel) (by decide +kernel))⟩)⟩
set_option maxRecDepth 20000 in
theorem pf_Jx35411_init_45d68_22 : pf_ok yJx35411_init_45d68 22 2 2 := ⟨_, rfl, by decide, Or.inl ⟨rfl, Or.inl (g_at 1675 (by decide +kernel) (by decide +kernel))⟩⟩
set_option maxRecDepth 20000 in
theorem md_Jx35411_hasNext_aae02 : md_ok yJx35411_hasNext_aae02 cJx35411_hasNext_aae02 1 (some .boolean) 0 := ⟨g_at 1695 (by decide +kernel) (by decide +kernel), (g_at 74 (by decide +kernel) (by decide +kernel)), by decide, ⟨by decide, by decide⟩, by decide +kernel, by decide⟩
set_option maxRecDepth 20000 in
theorem mi_Jx35411_hasNext_aae02 : Cond.instanceMethod yJx35411_hasNext_aae02 ∈ g_ws := (g_at 1693 (by decide +kernel) (by decide +kernel))
set_option maxRecDepth 20000 in
theorem fl_Jx35411_25 : fl_ok RJx35411 25 2 0 := ⟨_, rfl, by decide, Or.inl (g_at 1673 (by decide +kernel) (by decide +kernel))⟩
set_option maxRecDepth 20000 in
theorem fl_Jx35411_28 : fl_ok RJx35411 28 3 2 := ⟨_, rfl, by decide, Or.inr (Or.inl ⟨"java/util/ArrayList", (g_an 102 (by decide +kernel) (by decide +kernel))⟩)⟩
set_option maxRecDepth 20000 in
theorem md_Jx35411_next_0502b : md_ok yJx35411_next_0502b cJx35411_next_0502b 3 (some (.object "java/lang/Object")) 0 := ⟨g_at 1704 (by decide +kernel) (by decide +kernel), (g_at 74 (by decide +kernel) (by decide +kernel)), by decide, ⟨by decide, by decide⟩, by decide +kernel, by decide⟩
set_option maxRecDepth 20000 in
theorem mi_Jx35411_next_0502b : Cond.instanceMethod yJx35411_next_0502b ∈ g_ws := (g_at 1702 (by decide +kernel) (by decide +kernel))
set_option maxRecDepth 20000 in
theorem md_Jx35411_checkForComodification_da8c8 : md_ok yJx35411_checkForComodification_da8c8 cJx35411_checkForComodification_da8c8 1 ((none : Option Jvm.ClassFile.FieldType)) 0 := ⟨g_at 1708 (by decide +kernel) (by decide +kernel), (g_at 74 (by decide +kernel) (by decide +kernel)), by decide, ⟨by decide, by decide⟩, by decide +kernel, by decide⟩
set_option maxRecDepth 20000 in
theorem mi_Jx35411_checkForComodification_da8c8 : Cond.instanceMethod yJx35411_checkForComodification_da8c8 ∈ g_ws := (g_at 1706 (by decide +kernel) (by decide +kernel))
set_option maxRecDepth 20000 in
theorem me_Jx35411_checkForComodification_da8c8 : Cond.selects RJx35411 yJx35411_checkForComodification_da8c8 yJx35411_checkForComodification_da8c8 ∈ g_ws := (g_at 1707 (by decide +kernel) (by decide +kernel))
set_option maxRecDepth 20000 in
theorem mt_Jx35411_31 : mt_ok RJx35411 31 yJx35411_checkForComodification_da8c8 cJx35411_checkForComodification_da8c8 1 ((none : Option Jvm.ClassFile.FieldType)) 0 := ⟨(g_at 1705 (by decide +kernel) (by decide +kernel)), md_Jx35411_checkForComodification_da8c8⟩
set_option maxRecDepth 20000 in
theorem cl_Jx35411_34 : Cond.classLink RJx35411 34 "java/util/NoSuchElementException" ∈ g_ws := (g_at 1709 (by decide +kernel) (by decide +kernel))
set_option maxRecDepth 20000 in
theorem th_Jx35411_34_36 : th_ok RJx35411 34 36 "java/util/NoSuchElementException" := ⟨by decide, cl_Jx35411_34, (g_at 73 (by decide +kernel) (by decide +kernel)), by decide +kernel, by decide +kernel⟩
set_option maxRecDepth 20000 in
theorem fl_Jx35411_37 : fl_ok RJx35411 37 3 1 := ⟨_, rfl, by decide, Or.inl (g_at 101 (by decide +kernel) (by decide +kernel))⟩
set_option maxRecDepth 20000 in
theorem pf_Jx35411_next_0502b_25 : pf_ok yJx35411_next_0502b 25 2 0 := ⟨_, rfl, by decide, Or.inl ⟨rfl, Or.inl (g_at 1673 (by decide +kernel) (by decide +kernel))⟩⟩
set_option maxRecDepth 20000 in
theorem pf_Jx35411_next_0502b_13 : pf_ok yJx35411_next_0502b 13 2 1 := ⟨_, rfl, by decide, Or.inl ⟨rfl, Or.inl (g_at 1674 (by decide +kernel) (by decide +kernel))⟩⟩
set_option maxRecDepth 20000 in
theorem fl_Jx35411_22 : fl_ok RJx35411 22 2 2 := ⟨_, rfl, by decide, Or.inl (g_at 1675 (by decide +kernel) (by decide +kernel))⟩
set_option maxRecDepth 20000 in
theorem md_X12_ghosts : md_ok yX12_ghosts cX12_ghosts 2 (some .int) 1 := ⟨g_at 1714 (by decide +kernel) (by decide +kernel), (g_at 42 (by decide +kernel) (by decide +kernel)), by decide, ⟨by decide, by decide⟩, by decide +kernel, by decide⟩
set_option maxRecDepth 20000 in
theorem mi_X12_ghosts : Cond.instanceMethod yX12_ghosts ∈ g_ws := (g_at 1712 (by decide +kernel) (by decide +kernel))
set_option maxRecDepth 20000 in
theorem me_X12_ghosts : Cond.selects RX12 yX12_ghosts yX12_ghosts ∈ g_ws := (g_at 1713 (by decide +kernel) (by decide +kernel))
set_option maxRecDepth 20000 in
theorem md_X12_picture : md_ok yX12_picture cX12_picture 1 (some .int) 0 := ⟨g_at 1718 (by decide +kernel) (by decide +kernel), (g_at 42 (by decide +kernel) (by decide +kernel)), by decide, ⟨by decide, by decide⟩, by decide +kernel, by decide⟩
set_option maxRecDepth 20000 in
theorem mi_X12_picture : Cond.instanceMethod yX12_picture ∈ g_ws := (g_at 1716 (by decide +kernel) (by decide +kernel))
set_option maxRecDepth 20000 in
theorem me_X12_picture : Cond.selects RX12 yX12_picture yX12_picture ∈ g_ws := (g_at 1717 (by decide +kernel) (by decide +kernel))
set_option maxRecDepth 20000 in
theorem fl_X12_32 : fl_ok RX12 32 16 12 := ⟨_, rfl, by decide, Or.inl (g_at 1262 (by decide +kernel) (by decide +kernel))⟩
set_option maxRecDepth 20000 in
theorem cl_X12_304 : Cond.classLink RX12 304 "VeneerLoftModel$Picture" ∈ g_ws := (g_at 1719 (by decide +kernel) (by decide +kernel))
set_option maxRecDepth 20000 in
theorem nw_X12_304 : nw_ok RX12 304 15 3 := ⟨_, rfl, (g_at 1719 (by decide +kernel) (by decide +kernel)), (g_at 1720 (by decide +kernel) (by decide +kernel)), (g_at 76 (by decide +kernel) (by decide +kernel))⟩
set_option maxRecDepth 20000 in
theorem md_X11_init : md_ok yX11_init cX11_init 1 ((none : Option Jvm.ClassFile.FieldType)) 0 := ⟨g_at 1723 (by decide +kernel) (by decide +kernel), (g_at 76 (by decide +kernel) (by decide +kernel)), by decide, ⟨by decide, by decide⟩, by decide +kernel, by decide⟩
set_option maxRecDepth 20000 in
theorem mi_X11_init : Cond.instanceMethod yX11_init ∈ g_ws := (g_at 1722 (by decide +kernel) (by decide +kernel))
set_option maxRecDepth 20000 in
theorem mn_X12_306 : Cond.methodLinkNest RX12 306 yX11_init "VeneerLoftModel" ∈ g_nw := (g_an 1721 (by decide +kernel) (by decide +kernel))
set_option maxRecDepth 20000 in
theorem oi_X11_3 : Cond.methodLink RX11 3 Lib.objectInit ∈ g_ws := (g_at 1724 (by decide +kernel) (by decide +kernel))
set_option maxRecDepth 20000 in
theorem pf_X11_init_9 : pf_ok yX11_init 9 15 0 := ⟨_, rfl, by decide, Or.inr ⟨rfl, rfl, rfl, (g_at 1725 (by decide +kernel) (by decide +kernel))⟩⟩
set_option maxRecDepth 20000 in
theorem pf_X11_init_15 : pf_ok yX11_init 15 15 2 := ⟨_, rfl, by decide, Or.inr ⟨rfl, rfl, rfl, (g_at 1728 (by decide +kernel) (by decide +kernel))⟩⟩
set_option maxRecDepth 20000 in
theorem md_X12_draw : md_ok yX12_draw cX12_draw 7 (some .int) 5 := ⟨g_at 1740 (by decide +kernel) (by decide +kernel), (g_at 42 (by decide +kernel) (by decide +kernel)), by decide, ⟨by decide, by decide⟩, by decide +kernel, by decide⟩
set_option maxRecDepth 20000 in
theorem mi_X12_draw : Cond.instanceMethod yX12_draw ∈ g_ws := (g_at 1738 (by decide +kernel) (by decide +kernel))
set_option maxRecDepth 20000 in
theorem me_X12_draw : Cond.selects RX12 yX12_draw yX12_draw ∈ g_ws := (g_at 1739 (by decide +kernel) (by decide +kernel))
set_option maxRecDepth 20000 in
theorem md_X12_noPicture : md_ok yX12_noPicture cX12_noPicture 2 (some .boolean) 1 := ⟨g_at 1744 (by decide +kernel) (by decide +kernel), (g_at 42 (by decide +kernel) (by decide +kernel)), by decide, ⟨by decide, by decide⟩, by decide +kernel, by decide⟩
set_option maxRecDepth 20000 in
theorem mi_X12_noPicture : Cond.instanceMethod yX12_noPicture ∈ g_ws := (g_at 1743 (by decide +kernel) (by decide +kernel))
set_option maxRecDepth 20000 in
theorem me_X12_noPicture : Cond.selects RX12 yX12_noPicture yX12_noPicture ∈ g_ws := (g_at 31 (by decide +kernel) (by decide +kernel))
set_option maxRecDepth 20000 in
theorem mt_X12_307 : mt_ok RX12 307 yX12_noPicture cX12_noPicture 2 (some .boolean) 1 := ⟨(g_at 1741 (by decide +kernel) (by decide +kernel)), md_X12_noPicture⟩
set_option maxRecDepth 20000 in
theorem cn_X12_310 : Cond.constantLong RX12 310 (97) ∈ g_ws := (g_at 1745 (by decide +kernel) (by decide +kernel))
set_option maxRecDepth 20000 in
theorem cn_X12_312 : Cond.constantLong RX12 312 (104) ∈ g_ws := (g_at 1746 (by decide +kernel) (by decide +kernel))
set_option maxRecDepth 20000 in
theorem cn_X12_302 : Cond.constantLong RX12 302 (7) ∈ g_ws := (g_at 1747 (by decide +kernel) (by decide +kernel))
set_option maxRecDepth 20000 in
theorem fl_X12_314 : fl_ok RX12 314 15 1 := ⟨_, rfl, by decide, Or.inr (Or.inl ⟨"VeneerLoftModel", (g_an 1727 (by decide +kernel) (by decide +kernel))⟩)⟩
set_option maxRecDepth 20000 in
theorem fl_X12_317 : fl_ok RX12 317 15 0 := ⟨_, rfl, by decide, Or.inr (Or.inl ⟨"VeneerLoftModel", (g_an 1726 (by decide +kernel) (by decide +kernel))⟩)⟩
set_option maxRecDepth 20000 in
theorem md_X11_pieces : md_ok yX11_pieces cX11_pieces 4 (some (.array .int)) 0 := ⟨g_at 1751 (by decide +kernel) (by decide +kernel), (g_at 76 (by decide +kernel) (by decide +kernel)), by decide, ⟨by decide, by decide⟩, by decide +kernel, by decide⟩
set_option maxRecDepth 20000 in
theorem mi_X11_pieces : Cond.instanceMethod yX11_pieces ∈ g_ws := (g_at 1749 (by decide +kernel) (by decide +kernel))
set_option maxRecDepth 20000 in
theorem me_X11_pieces : Cond.selects RX11 yX11_pieces yX11_pieces ∈ g_ws := (g_at 1750 (by decide +kernel) (by decide +kernel))
set_option maxRecDepth 20000 in
theorem mt_X12_320 : mt_ok RX12 320 yX11_pieces cX11_pieces 4 (some (.array .int)) 0 := ⟨(g_at 1748 (by decide +kernel) (by decide +kernel)), md_X11_pieces⟩
set_option maxRecDepth 20000 in
theorem md_X12_most : md_ok yX12_most cX12_most 6 (some .int) 1 := ⟨g_at 1772 (by decide +kernel) (by decide +kernel), (g_at 42 (by decide +kernel) (by decide +kernel)), by decide, ⟨by decide, by decide⟩, by decide +kernel, by decide⟩
set_option maxRecDepth 20000 in
theorem ms_X12_most : Cond.static yX12_most ∈ g_ws := (g_at 1771 (by decide +kernel) (by decide +kernel))
set_option maxRecDepth 20000 in
theorem mt_X12_324 : mt_ok RX12 324 yX12_most cX12_most 6 (some .int) 1 := ⟨(g_at 1770 (by decide +kernel) (by decide +kernel)), md_X12_most⟩
set_option maxRecDepth 20000 in
theorem md_X11_fills : md_ok yX11_fills cX11_fills 8 ((none : Option Jvm.ClassFile.FieldType)) 3 := ⟨g_at 1755 (by decide +kernel) (by decide +kernel), (g_at 76 (by decide +kernel) (by decide +kernel)), by decide, ⟨by decide, by decide⟩, by decide +kernel, by decide⟩
set_option maxRecDepth 20000 in
theorem mi_X11_fills : Cond.instanceMethod yX11_fills ∈ g_ws := (g_at 1754 (by decide +kernel) (by decide +kernel))
set_option maxRecDepth 20000 in
theorem me_X11_fills : Cond.selects RX11 yX11_fills yX11_fills ∈ g_ws := (g_at 32 (by decide +kernel) (by decide +kernel))
set_option maxRecDepth 20000 in
theorem mt_X11_18 : mt_ok RX11 18 yX11_fills cX11_fills 8 ((none : Option Jvm.ClassFile.FieldType)) 3 := ⟨(g_at 1752 (by decide +kernel) (by decide +kernel)), md_X11_fills⟩
set_option maxRecDepth 20000 in
theorem cl_X11_22 : Cond.classLink RX11 22 "java/util/ArrayList" ∈ g_ws := (g_at 1756 (by decide +kernel) (by decide +kernel))
set_option maxRecDepth 20000 in
theorem nw_X11_22 : nw_ok RX11 22 3 3 := ⟨_, rfl, (g_at 1756 (by decide +kernel) (by decide +kernel)), (g_at 87 (by decide +kernel) (by decide +kernel)), (g_at 41 (by decide +kernel) (by decide +kernel))⟩
set_option maxRecDepth 20000 in
theorem mt_X11_24 : mt_ok RX11 24 yJx4a65c_init_da8c8 cJx4a65c_init_da8c8 1 ((none : Option Jvm.ClassFile.FieldType)) 0 := ⟨(g_at 1757 (by decide +kernel) (by decide +kernel)), md_Jx4a65c_init_da8c8⟩
set_option maxRecDepth 20000 in
theorem mt_X11_25 : mt_ok RX11 25 yJ6_valueOf_2dffe cJ6_valueOf_2dffe 1 (some (.object "java/lang/Integer")) 1 := ⟨(g_at 1758 (by decide +kernel) (by decide +kernel)), md_J6_valueOf_2dffe⟩
set_option maxRecDepth 20000 in
theorem mf_X11_31 : Cond.methodLink RX11 31 ⟨"java/util/List", "add", "(Ljava/lang/Object;)Z"⟩ ∈ g_ws := (g_at 1760 (by decide +kernel) (by decide +kernel))
set_option maxRecDepth 20000 in
theorem mf_X11_37 : Cond.methodLink RX11 37 ⟨"java/util/List", "size", "()I"⟩ ∈ g_ws := (g_at 1762 (by decide +kernel) (by decide +kernel))
set_option maxRecDepth 20000 in
theorem mf_X11_41 : Cond.methodLink RX11 41 ⟨"java/util/List", "get", "(I)Ljava/lang/Object;"⟩ ∈ g_ws := (g_at 1764 (by decide +kernel) (by decide +kernel))
set_option maxRecDepth 20000 in
theorem cl_X11_26 : Cond.classLink RX11 26 "java/lang/Integer" ∈ g_ws := (g_at 1765 (by decide +kernel) (by decide +kernel))
set_option maxRecDepth 20000 in
theorem mt_X11_45 : mt_ok RX11 45 yJ6_intValue_8abf5 cJ6_intValue_8abf5 1 (some .int) 0 := ⟨(g_at 1766 (by decide +kernel) (by decide +kernel)), md_J6_intValue_8abf5⟩
set_option maxRecDepth 20000 in
theorem md_X12_beside : md_ok yX12_beside cX12_beside 4 (some .int) 2 := ⟨g_at 1769 (by decide +kernel) (by decide +kernel), (g_at 42 (by decide +kernel) (by decide +kernel)), by decide, ⟨by decide, by decide⟩, by decide +kernel, by decide⟩
set_option maxRecDepth 20000 in
theorem ms_X12_beside : Cond.static yX12_beside ∈ g_ws := (g_at 1768 (by decide +kernel) (by decide +kernel))
set_option maxRecDepth 20000 in
theorem mn_X11_48 : Cond.methodLinkNest RX11 48 yX12_beside "VeneerLoftModel" ∈ g_nw := (g_an 1767 (by decide +kernel) (by decide +kernel))
set_option maxRecDepth 20000 in
theorem fl_X11_9 : fl_ok RX11 9 15 0 := ⟨_, rfl, by decide, Or.inl (g_at 1725 (by decide +kernel) (by decide +kernel))⟩
set_option maxRecDepth 20000 in
theorem md_X12_fieldAt : md_ok yX12_fieldAt cX12_fieldAt 4 (some .char) 3 := ⟨g_at 1776 (by decide +kernel) (by decide +kernel), (g_at 42 (by decide +kernel) (by decide +kernel)), by decide, ⟨by decide, by decide⟩, by decide +kernel, by decide⟩
set_option maxRecDepth 20000 in
theorem mi_X12_fieldAt : Cond.instanceMethod yX12_fieldAt ∈ g_ws := (g_at 1774 (by decide +kernel) (by decide +kernel))
set_option maxRecDepth 20000 in
theorem me_X12_fieldAt : Cond.selects RX12 yX12_fieldAt yX12_fieldAt ∈ g_ws := (g_at 1775 (by decide +kernel) (by decide +kernel))
set_option maxRecDepth 20000 in
theorem md_X12_noPlace : md_ok yX12_noPlace cX12_noPlace 4 (some .boolean) 3 := ⟨g_at 1780 (by decide +kernel) (by decide +kernel), (g_at 42 (by decide +kernel) (by decide +kernel)), by decide, ⟨by decide, by decide⟩, by decide +kernel, by decide⟩
set_option maxRecDepth 20000 in
theorem mi_X12_noPlace : Cond.instanceMethod yX12_noPlace ∈ g_ws := (g_at 1779 (by decide +kernel) (by decide +kernel))
set_option maxRecDepth 20000 in
theorem me_X12_noPlace : Cond.selects RX12 yX12_noPlace yX12_noPlace ∈ g_ws := (g_at 33 (by decide +kernel) (by decide +kernel))
set_option maxRecDepth 20000 in
theorem mt_X12_328 : mt_ok RX12 328 yX12_noPlace cX12_noPlace 4 (some .boolean) 3 := ⟨(g_at 1777 (by decide +kernel) (by decide +kernel)), md_X12_noPlace⟩
set_option maxRecDepth 20000 in
theorem md_X12_pieces : md_ok yX12_pieces cX12_pieces 2 (some .int) 1 := ⟨g_at 1784 (by decide +kernel) (by decide +kernel), (g_at 42 (by decide +kernel) (by decide +kernel)), by decide, ⟨by decide, by decide⟩, by decide +kernel, by decide⟩
set_option maxRecDepth 20000 in
theorem mi_X12_pieces : Cond.instanceMethod yX12_pieces ∈ g_ws := (g_at 1782 (by decide +kernel) (by decide +kernel))
set_option maxRecDepth 20000 in
theorem me_X12_pieces : Cond.selects RX12 yX12_pieces yX12_pieces ∈ g_ws := (g_at 1783 (by decide +kernel) (by decide +kernel))
set_option maxRecDepth 20000 in
theorem md_X12_islands : md_ok yX12_islands cX12_islands 11 (some .int) 1 := ⟨g_at 1788 (by decide +kernel) (by decide +kernel), (g_at 42 (by decide +kernel) (by decide +kernel)), by decide, ⟨by decide, by decide⟩, by decide +kernel, by decide⟩
set_option maxRecDepth 20000 in
theorem mi_X12_islands : Cond.instanceMethod yX12_islands ∈ g_ws := (g_at 1786 (by decide +kernel) (by decide +kernel))
set_option maxRecDepth 20000 in
theorem me_X12_islands : Cond.selects RX12 yX12_islands yX12_islands ∈ g_ws := (g_at 1787 (by decide +kernel) (by decide +kernel))
set_option maxRecDepth 20000 in
theorem mt_X12_331 : mt_ok RX12 331 yX12_beside cX12_beside 4 (some .int) 2 := ⟨(g_at 1789 (by decide +kernel) (by decide +kernel)), md_X12_beside⟩
set_option maxRecDepth 20000 in
theorem md_X12_saw : md_ok yX12_saw cX12_saw 9 (some .int) 4 := ⟨g_at 1793 (by decide +kernel) (by decide +kernel), (g_at 42 (by decide +kernel) (by decide +kernel)), by decide, ⟨by decide, by decide⟩, by decide +kernel, by decide⟩
set_option maxRecDepth 20000 in
theorem mi_X12_saw : Cond.instanceMethod yX12_saw ∈ g_ws := (g_at 1791 (by decide +kernel) (by decide +kernel))
set_option maxRecDepth 20000 in
theorem me_X12_saw : Cond.selects RX12 yX12_saw yX12_saw ∈ g_ws := (g_at 1792 (by decide +kernel) (by decide +kernel))
set_option maxRecDepth 20000 in
theorem cn_X12_334 : Cond.constantLong RX12 334 (2) ∈ g_ws := (g_at 1794 (by decide +kernel) (by decide +kernel))
set_option maxRecDepth 20000 in
theorem pf_X12_saw_314 : pf_ok yX12_saw 314 15 1 := ⟨_, rfl, by decide, Or.inl ⟨rfl, Or.inr (Or.inl ⟨"VeneerLoftModel", (g_an 1727 (by decide +kernel) (by decide +kernel))⟩)⟩⟩
set_option maxRecDepth 20000 in
theorem fl_X12_336 : fl_ok RX12 336 16 9 := ⟨_, rfl, by decide, Or.inl (g_at 1259 (by decide +kernel) (by decide +kernel))⟩
set_option maxRecDepth 20000 in
theorem pf_X12_saw_336 : pf_ok yX12_saw 336 16 9 := ⟨_, rfl, by decide, Or.inl ⟨rfl, Or.inl (g_at 1259 (by decide +kernel) (by decide +kernel))⟩⟩
set_option maxRecDepth 20000 in
theorem pf_X12_saw_168 : pf_ok yX12_saw 168 16 10 := ⟨_, rfl, by decide, Or.inl ⟨rfl, Or.inl (g_at 1260 (by decide +kernel) (by decide +kernel))⟩⟩
set_option maxRecDepth 20000 in
theorem md_X12_leafAt : md_ok yX12_leafAt cX12_leafAt 5 (some .int) 4 := ⟨g_at 1798 (by decide +kernel) (by decide +kernel), (g_at 42 (by decide +kernel) (by decide +kernel)), by decide, ⟨by decide, by decide⟩, by decide +kernel, by decide⟩
set_option maxRecDepth 20000 in
theorem mi_X12_leafAt : Cond.instanceMethod yX12_leafAt ∈ g_ws := (g_at 1796 (by decide +kernel) (by decide +kernel))
set_option maxRecDepth 20000 in
theorem me_X12_leafAt : Cond.selects RX12 yX12_leafAt yX12_leafAt ∈ g_ws := (g_at 1797 (by decide +kernel) (by decide +kernel))
set_option maxRecDepth 20000 in
theorem md_X12_noCopy : md_ok yX12_noCopy cX12_noCopy 4 (some .boolean) 2 := ⟨g_at 1802 (by decide +kernel) (by decide +kernel), (g_at 42 (by decide +kernel) (by decide +kernel)), by decide, ⟨by decide, by decide⟩, by decide +kernel, by decide⟩
set_option maxRecDepth 20000 in
theorem mi_X12_noCopy : Cond.instanceMethod yX12_noCopy ∈ g_ws := (g_at 1801 (by decide +kernel) (by decide +kernel))
set_option maxRecDepth 20000 in
theorem me_X12_noCopy : Cond.selects RX12 yX12_noCopy yX12_noCopy ∈ g_ws := (g_at 34 (by decide +kernel) (by decide +kernel))
set_option maxRecDepth 20000 in
theorem mt_X12_339 : mt_ok RX12 339 yX12_noCopy cX12_noCopy 4 (some .boolean) 2 := ⟨(g_at 1799 (by decide +kernel) (by decide +kernel)), md_X12_noCopy⟩
set_option maxRecDepth 20000 in
theorem md_X12_leafOf : md_ok yX12_leafOf cX12_leafOf 3 (some .int) 3 := ⟨g_at 1805 (by decide +kernel) (by decide +kernel), (g_at 42 (by decide +kernel) (by decide +kernel)), by decide, ⟨by decide, by decide⟩, by decide +kernel, by decide⟩
set_option maxRecDepth 20000 in
theorem ms_X12_leafOf : Cond.static yX12_leafOf ∈ g_ws := (g_at 1804 (by decide +kernel) (by decide +kernel))
set_option maxRecDepth 20000 in
theorem mt_X12_342 : mt_ok RX12 342 yX12_leafOf cX12_leafOf 3 (some .int) 3 := ⟨(g_at 1803 (by decide +kernel) (by decide +kernel)), md_X12_leafOf⟩
set_option maxRecDepth 20000 in
theorem md_X12_contrast : md_ok yX12_contrast cX12_contrast 8 (some .int) 2 := ⟨g_at 1809 (by decide +kernel) (by decide +kernel), (g_at 42 (by decide +kernel) (by decide +kernel)), by decide, ⟨by decide, by decide⟩, by decide +kernel, by decide⟩
set_option maxRecDepth 20000 in
theorem mi_X12_contrast : Cond.instanceMethod yX12_contrast ∈ g_ws := (g_at 1807 (by decide +kernel) (by decide +kernel))
set_option maxRecDepth 20000 in
theorem me_X12_contrast : Cond.selects RX12 yX12_contrast yX12_contrast ∈ g_ws := (g_at 1808 (by decide +kernel) (by decide +kernel))
set_option maxRecDepth 20000 in
theorem ma_X12_346 : Cond.methodLink RX12 346 Lib.Math.abs.name ∈ g_ws := (g_at 1810 (by decide +kernel) (by decide +kernel))
set_option maxRecDepth 20000 in
theorem md_X12_sand : md_ok yX12_sand cX12_sand 6 (some .int) 4 := ⟨g_at 1814 (by decide +kernel) (by decide +kernel), (g_at 42 (by decide +kernel) (by decide +kernel)), by decide, ⟨by decide, by decide⟩, by decide +kernel, by decide⟩
set_option maxRecDepth 20000 in
theorem mi_X12_sand : Cond.instanceMethod yX12_sand ∈ g_ws := (g_at 1812 (by decide +kernel) (by decide +kernel))
set_option maxRecDepth 20000 in
theorem me_X12_sand : Cond.selects RX12 yX12_sand yX12_sand ∈ g_ws := (g_at 1813 (by decide +kernel) (by decide +kernel))
set_option maxRecDepth 20000 in
theorem cn_X12_349 : Cond.constantLong RX12 349 (300) ∈ g_ws := (g_at 1815 (by decide +kernel) (by decide +kernel))
set_option maxRecDepth 20000 in
theorem fl_X12_351 : fl_ok RX12 351 15 2 := ⟨_, rfl, by decide, Or.inr (Or.inl ⟨"VeneerLoftModel", (g_an 1729 (by decide +kernel) (by decide +kernel))⟩)⟩
set_option maxRecDepth 20000 in
theorem md_X12_burnt : md_ok yX12_burnt cX12_burnt 7 (some .int) 1 := ⟨g_at 1819 (by decide +kernel) (by decide +kernel), (g_at 42 (by decide +kernel) (by decide +kernel)), by decide, ⟨by decide, by decide⟩, by decide +kernel, by decide⟩
set_option maxRecDepth 20000 in
theorem mi_X12_burnt : Cond.instanceMethod yX12_burnt ∈ g_ws := (g_at 1817 (by decide +kernel) (by decide +kernel))
set_option maxRecDepth 20000 in
theorem me_X12_burnt : Cond.selects RX12 yX12_burnt yX12_burnt ∈ g_ws := (g_at 1818 (by decide +kernel) (by decide +kernel))
set_option maxRecDepth 20000 in
theorem md_X12_gap : md_ok yX12_gap cX12_gap 4 (some .int) 3 := ⟨g_at 1823 (by decide +kernel) (by decide +kernel), (g_at 42 (by decide +kernel) (by decide +kernel)), by decide, ⟨by decide, by decide⟩, by decide +kernel, by decide⟩
set_option maxRecDepth 20000 in
theorem mi_X12_gap : Cond.instanceMethod yX12_gap ∈ g_ws := (g_at 1821 (by decide +kernel) (by decide +kernel))
set_option maxRecDepth 20000 in
theorem me_X12_gap : Cond.selects RX12 yX12_gap yX12_gap ∈ g_ws := (g_at 1822 (by decide +kernel) (by decide +kernel))
set_option maxRecDepth 20000 in
theorem cn_X12_354 : Cond.constantLong RX12 354 (15) ∈ g_ws := (g_at 1824 (by decide +kernel) (by decide +kernel))
set_option maxRecDepth 20000 in
theorem gs_X12_356 : Cond.fieldLink RX12 356 "VeneerLoftModel" "TANGENTS" "[I" ∈ g_ws := (g_at 1825 (by decide +kernel) (by decide +kernel))
set_option maxRecDepth 20000 in
theorem md_X12_offcuts : md_ok yX12_offcuts cX12_offcuts 5 (some .int) 1 := ⟨g_at 1830 (by decide +kernel) (by decide +kernel), (g_at 42 (by decide +kernel) (by decide +kernel)), by decide, ⟨by decide, by decide⟩, by decide +kernel, by decide⟩
set_option maxRecDepth 20000 in
theorem mi_X12_offcuts : Cond.instanceMethod yX12_offcuts ∈ g_ws := (g_at 1828 (by decide +kernel) (by decide +kernel))
set_option maxRecDepth 20000 in
theorem me_X12_offcuts : Cond.selects RX12 yX12_offcuts yX12_offcuts ∈ g_ws := (g_at 1829 (by decide +kernel) (by decide +kernel))
set_option maxRecDepth 20000 in
theorem cl_X12_359 : Cond.classLink RX12 359 "[I" ∈ g_ws := (g_at 1831 (by decide +kernel) (by decide +kernel))
set_option maxRecDepth 20000 in
theorem md_X12_takeOffcut : md_ok yX12_takeOffcut cX12_takeOffcut 8 (some .int) 2 := ⟨g_at 1835 (by decide +kernel) (by decide +kernel), (g_at 42 (by decide +kernel) (by decide +kernel)), by decide, ⟨by decide, by decide⟩, by decide +kernel, by decide⟩
set_option maxRecDepth 20000 in
theorem mi_X12_takeOffcut : Cond.instanceMethod yX12_takeOffcut ∈ g_ws := (g_at 1833 (by decide +kernel) (by decide +kernel))
set_option maxRecDepth 20000 in
theorem me_X12_takeOffcut : Cond.selects RX12 yX12_takeOffcut yX12_takeOffcut ∈ g_ws := (g_at 1834 (by decide +kernel) (by decide +kernel))
set_option maxRecDepth 20000 in
theorem cn_X12_360 : Cond.constantLong RX12 360 (50) ∈ g_ws := (g_at 1836 (by decide +kernel) (by decide +kernel))
set_option maxRecDepth 20000 in
theorem cn_X12_362 : Cond.constantLong RX12 362 (4000) ∈ g_ws := (g_at 1837 (by decide +kernel) (by decide +kernel))
set_option maxRecDepth 20000 in
theorem mf_X12_364 : Cond.methodLink RX12 364 ⟨"java/util/List", "remove", "(I)Ljava/lang/Object;"⟩ ∈ g_ws := (g_at 1839 (by decide +kernel) (by decide +kernel))
set_option maxRecDepth 20000 in
theorem se_Jx4a65c_remove_915e3 : Cond.selects "java/util/ArrayList" ⟨"java/util/List", "remove", "(I)Ljava/lang/Object;"⟩ yJx4a65c_remove_915e3 ∈ g_ws := (g_at 1842 (by decide +kernel) (by decide +kernel))
set_option maxRecDepth 20000 in
theorem fl_X12_367 : fl_ok RX12 367 16 6 := ⟨_, rfl, by decide, Or.inl (g_at 1256 (by decide +kernel) (by decide +kernel))⟩
set_option maxRecDepth 20000 in
theorem pf_X12_takeOffcut_367 : pf_ok yX12_takeOffcut 367 16 6 := ⟨_, rfl, by decide, Or.inl ⟨rfl, Or.inl (g_at 1256 (by decide +kernel) (by decide +kernel))⟩⟩
set_option maxRecDepth 20000 in
theorem md_X12_account : md_ok yX12_account cX12_account 5 (some .int) 1 := ⟨g_at 1848 (by decide +kernel) (by decide +kernel), (g_at 42 (by decide +kernel) (by decide +kernel)), by decide, ⟨by decide, by decide⟩, by decide +kernel, by decide⟩
set_option maxRecDepth 20000 in
theorem mi_X12_account : Cond.instanceMethod yX12_account ∈ g_ws := (g_at 1846 (by decide +kernel) (by decide +kernel))
set_option maxRecDepth 20000 in
theorem me_X12_account : Cond.selects RX12 yX12_account yX12_account ∈ g_ws := (g_at 1847 (by decide +kernel) (by decide +kernel))
set_option maxRecDepth 20000 in
theorem md_X12_unused : md_ok yX12_unused cX12_unused 5 (some .int) 0 := ⟨g_at 1852 (by decide +kernel) (by decide +kernel), (g_at 42 (by decide +kernel) (by decide +kernel)), by decide, ⟨by decide, by decide⟩, by decide +kernel, by decide⟩
set_option maxRecDepth 20000 in
theorem mi_X12_unused : Cond.instanceMethod yX12_unused ∈ g_ws := (g_at 1851 (by decide +kernel) (by decide +kernel))
set_option maxRecDepth 20000 in
theorem me_X12_unused : Cond.selects RX12 yX12_unused yX12_unused ∈ g_ws := (g_at 35 (by decide +kernel) (by decide +kernel))
set_option maxRecDepth 20000 in
theorem mt_X12_370 : mt_ok RX12 370 yX12_unused cX12_unused 5 (some .int) 0 := ⟨(g_at 1849 (by decide +kernel) (by decide +kernel)), md_X12_unused⟩
set_option maxRecDepth 20000 in
theorem md_X12_price : md_ok yX12_price cX12_price 2 (some .int) 1 := ⟨g_at 1857 (by decide +kernel) (by decide +kernel), (g_at 42 (by decide +kernel) (by decide +kernel)), by decide, ⟨by decide, by decide⟩, by decide +kernel, by decide⟩
set_option maxRecDepth 20000 in
theorem mi_X12_price : Cond.instanceMethod yX12_price ∈ g_ws := (g_at 1855 (by decide +kernel) (by decide +kernel))
set_option maxRecDepth 20000 in
theorem me_X12_price : Cond.selects RX12 yX12_price yX12_price ∈ g_ws := (g_at 1856 (by decide +kernel) (by decide +kernel))
set_option maxRecDepth 20000 in
theorem md_X12_priceOf : md_ok yX12_priceOf cX12_priceOf 2 (some .int) 1 := ⟨g_at 1860 (by decide +kernel) (by decide +kernel), (g_at 42 (by decide +kernel) (by decide +kernel)), by decide, ⟨by decide, by decide⟩, by decide +kernel, by decide⟩
set_option maxRecDepth 20000 in
theorem ms_X12_priceOf : Cond.static yX12_priceOf ∈ g_ws := (g_at 1859 (by decide +kernel) (by decide +kernel))
set_option maxRecDepth 20000 in
theorem mt_X12_378 : mt_ok RX12 378 yX12_priceOf cX12_priceOf 2 (some .int) 1 := ⟨(g_at 1858 (by decide +kernel) (by decide +kernel)), md_X12_priceOf⟩
set_option maxRecDepth 20000 in
theorem md_X10_leaves : md_ok yX10_leaves cX10_leaves 1 (some .int) 0 := ⟨g_at 1864 (by decide +kernel) (by decide +kernel), (g_at 66 (by decide +kernel) (by decide +kernel)), by decide, ⟨by decide, by decide⟩, by decide +kernel, by decide⟩
set_option maxRecDepth 20000 in
theorem mi_X10_leaves : Cond.instanceMethod yX10_leaves ∈ g_ws := (g_at 1862 (by decide +kernel) (by decide +kernel))
set_option maxRecDepth 20000 in
theorem me_X10_leaves : Cond.selects RX10 yX10_leaves yX10_leaves ∈ g_ws := (g_at 1863 (by decide +kernel) (by decide +kernel))
set_option maxRecDepth 20000 in
theorem mt_X12_375 : mt_ok RX12 375 yX10_leaves cX10_leaves 1 (some .int) 0 := ⟨(g_at 1861 (by decide +kernel) (by decide +kernel)), md_X10_leaves⟩
set_option maxRecDepth 20000 in
theorem fl_X10_43 : fl_ok RX10 43 12 2 := ⟨_, rfl, by decide, Or.inr (Or.inl ⟨"VeneerLoftModel", (g_an 1550 (by decide +kernel) (by decide +kernel))⟩)⟩
set_option maxRecDepth 20000 in
theorem fl_X10_46 : fl_ok RX10 46 14 4 := ⟨_, rfl, by decide, Or.inl (g_at 1466 (by decide +kernel) (by decide +kernel))⟩
set_option maxRecDepth 20000 in
theorem md_X12_usedShare : md_ok yX12_usedShare cX12_usedShare 1 (some .float) 0 := ⟨g_at 1868 (by decide +kernel) (by decide +kernel), (g_at 42 (by decide +kernel) (by decide +kernel)), by decide, ⟨by decide, by decide⟩, by decide +kernel, by decide⟩
set_option maxRecDepth 20000 in
theorem mi_X12_usedShare : Cond.instanceMethod yX12_usedShare ∈ g_ws := (g_at 1866 (by decide +kernel) (by decide +kernel))
set_option maxRecDepth 20000 in
theorem me_X12_usedShare : Cond.selects RX12 yX12_usedShare yX12_usedShare ∈ g_ws := (g_at 1867 (by decide +kernel) (by decide +kernel))
set_option maxRecDepth 20000 in
theorem mf_X12_382 : Cond.methodLink RX12 382 ⟨"java/util/List", "isEmpty", "()Z"⟩ ∈ g_ws := (g_at 1870 (by decide +kernel) (by decide +kernel))
set_option maxRecDepth 20000 in
theorem se_Jx4a65c_isEmpty_aae02 : Cond.selects "java/util/ArrayList" ⟨"java/util/List", "isEmpty", "()Z"⟩ yJx4a65c_isEmpty_aae02 ∈ g_ws := (g_at 1873 (by decide +kernel) (by decide +kernel))
set_option maxRecDepth 20000 in
theorem md_X12_leavesIn : md_ok yX12_leavesIn cX12_leavesIn 9 (some .int) 1 := ⟨g_at 1881 (by decide +kernel) (by decide +kernel), (g_at 42 (by decide +kernel) (by decide +kernel)), by decide, ⟨by decide, by decide⟩, by decide +kernel, by decide⟩
set_option maxRecDepth 20000 in
theorem mi_X12_leavesIn : Cond.instanceMethod yX12_leavesIn ∈ g_ws := (g_at 1880 (by decide +kernel) (by decide +kernel))
set_option maxRecDepth 20000 in
theorem me_X12_leavesIn : Cond.selects RX12 yX12_leavesIn yX12_leavesIn ∈ g_ws := (g_at 36 (by decide +kernel) (by decide +kernel))
set_option maxRecDepth 20000 in
theorem mt_X12_385 : mt_ok RX12 385 yX12_leavesIn cX12_leavesIn 9 (some .int) 1 := ⟨(g_at 1878 (by decide +kernel) (by decide +kernel)), md_X12_leavesIn⟩
set_option maxRecDepth 20000 in
theorem md_Jx4a65c_isEmpty_aae02 : md_ok yJx4a65c_isEmpty_aae02 cJx4a65c_isEmpty_aae02 1 (some .boolean) 0 := ⟨g_at 1877 (by decide +kernel) (by decide +kernel), (g_at 41 (by decide +kernel) (by decide +kernel)), by decide, ⟨by decide, by decide⟩, by decide +kernel, by decide⟩
set_option maxRecDepth 20000 in
theorem mi_Jx4a65c_isEmpty_aae02 : Cond.instanceMethod yJx4a65c_isEmpty_aae02 ∈ g_ws := (g_at 1875 (by decide +kernel) (by decide +kernel))
set_option maxRecDepth 20000 in
theorem md_X12_meanFigure : md_ok yX12_meanFigure cX12_meanFigure 5 (some .double) 0 := ⟨g_at 1885 (by decide +kernel) (by decide +kernel), (g_at 42 (by decide +kernel) (by decide +kernel)), by decide, ⟨by decide, by decide⟩, by decide +kernel, by decide⟩
set_option maxRecDepth 20000 in
theorem mi_X12_meanFigure : Cond.instanceMethod yX12_meanFigure ∈ g_ws := (g_at 1883 (by decide +kernel) (by decide +kernel))
set_option maxRecDepth 20000 in
theorem me_X12_meanFigure : Cond.selects RX12 yX12_meanFigure yX12_meanFigure ∈ g_ws := (g_at 1884 (by decide +kernel) (by decide +kernel))
set_option maxRecDepth 20000 in
theorem md_X12_checksum : md_ok yX12_checksum cX12_checksum 10 (some .long) 0 := ⟨g_at 1889 (by decide +kernel) (by decide +kernel), (g_at 42 (by decide +kernel) (by decide +kernel)), by decide, ⟨by decide, by decide⟩, by decide +kernel, by decide⟩
set_option maxRecDepth 20000 in
theorem mi_X12_checksum : Cond.instanceMethod yX12_checksum ∈ g_ws := (g_at 1887 (by decide +kernel) (by decide +kernel))
set_option maxRecDepth 20000 in
theorem me_X12_checksum : Cond.selects RX12 yX12_checksum yX12_checksum ∈ g_ws := (g_at 1888 (by decide +kernel) (by decide +kernel))
set_option maxRecDepth 20000 in
theorem cn_X12_389 : Cond.constantLong RX12 389 (31) ∈ g_ws := (g_at 1890 (by decide +kernel) (by decide +kernel))
set_option maxRecDepth 20000 in
theorem md_X12_isTrue : md_ok yX12_isTrue cX12_isTrue 1 (some .boolean) 0 := ⟨g_at 1894 (by decide +kernel) (by decide +kernel), (g_at 42 (by decide +kernel) (by decide +kernel)), by decide, ⟨by decide, by decide⟩, by decide +kernel, by decide⟩
set_option maxRecDepth 20000 in
theorem mi_X12_isTrue : Cond.instanceMethod yX12_isTrue ∈ g_ws := (g_at 1892 (by decide +kernel) (by decide +kernel))
set_option maxRecDepth 20000 in
theorem me_X12_isTrue : Cond.selects RX12 yX12_isTrue yX12_isTrue ∈ g_ws := (g_at 1893 (by decide +kernel) (by decide +kernel))
