set_option maxRecDepth 20000 in
theorem md_X6_isUsed : md_ok yX6_isUsed cX6_isUsed 3 (some .boolean) 2 := ⟨g_at 722 (by decide +kernel) (by decide +kernel), (g_at 38 (by decide +kernel) (by decide +kernel)), by decide, ⟨by decide, by decide⟩, by decide +kernel, by decide⟩
set_option maxRecDepth 20000 in
theorem mi_X6_isUsed : Cond.instanceMethod yX6_isUsed ∈ g_ws := (g_at 720 (by decide +kernel) (by decide +kernel))
set_option maxRecDepth 20000 in
theorem me_X6_isUsed : Cond.selects RX6 yX6_isUsed yX6_isUsed ∈ g_ws := (g_at 721 (by decide +kernel) (by decide +kernel))
set_option maxRecDepth 20000 in
theorem mt_L_39 : mt_ok RL 39 yX6_isUsed cX6_isUsed 3 (some .boolean) 2 := ⟨(g_at 719 (by decide +kernel) (by decide +kernel)), md_X6_isUsed⟩
set_option maxRecDepth 20000 in
theorem md_X6_panel : md_ok yX6_panel cX6_panel 6 (some .int) 4 := ⟨g_at 729 (by decide +kernel) (by decide +kernel), (g_at 38 (by decide +kernel) (by decide +kernel)), by decide, ⟨by decide, by decide⟩, by decide +kernel, by decide⟩
set_option maxRecDepth 20000 in
theorem mi_X6_panel : Cond.instanceMethod yX6_panel ∈ g_ws := (g_at 727 (by decide +kernel) (by decide +kernel))
set_option maxRecDepth 20000 in
theorem me_X6_panel : Cond.selects RX6 yX6_panel yX6_panel ∈ g_ws := (g_at 728 (by decide +kernel) (by decide +kernel))
set_option maxRecDepth 20000 in
theorem mt_L_43 : mt_ok RL 43 yX6_panel cX6_panel 6 (some .int) 4 := ⟨(g_at 726 (by decide +kernel) (by decide +kernel)), md_X6_panel⟩
set_option maxRecDepth 20000 in
theorem nw_X6_108 : nw_ok RX6 108 8 14 := ⟨_, rfl, (g_at 171 (by decide +kernel) (by decide +kernel)), (g_at 731 (by decide +kernel) (by decide +kernel)), (g_at 65 (by decide +kernel) (by decide +kernel))⟩
set_option maxRecDepth 20000 in
theorem md_X4_init : md_ok yX4_init cX4_init 5 ((none : Option Jvm.ClassFile.FieldType)) 4 := ⟨g_at 734 (by decide +kernel) (by decide +kernel), (g_at 65 (by decide +kernel) (by decide +kernel)), by decide, ⟨by decide, by decide⟩, by decide +kernel, by decide⟩
set_option maxRecDepth 20000 in
theorem mi_X4_init : Cond.instanceMethod yX4_init ∈ g_ws := (g_at 733 (by decide +kernel) (by decide +kernel))
set_option maxRecDepth 20000 in
theorem mt_X6_110 : mt_ok RX6 110 yX4_init cX4_init 5 ((none : Option Jvm.ClassFile.FieldType)) 4 := ⟨(g_at 732 (by decide +kernel) (by decide +kernel)), md_X4_init⟩
set_option maxRecDepth 20000 in
theorem oi_X4_3 : Cond.methodLink RX4 3 Lib.objectInit ∈ g_ws := (g_at 735 (by decide +kernel) (by decide +kernel))
set_option maxRecDepth 20000 in
theorem pf_X4_init_9 : pf_ok yX4_init 9 8 0 := ⟨_, rfl, by decide, Or.inr ⟨rfl, rfl, rfl, (g_at 736 (by decide +kernel) (by decide +kernel))⟩⟩
set_option maxRecDepth 20000 in
theorem pf_X4_init_15 : pf_ok yX4_init 15 8 1 := ⟨_, rfl, by decide, Or.inr ⟨rfl, rfl, rfl, (g_at 738 (by decide +kernel) (by decide +kernel))⟩⟩
set_option maxRecDepth 20000 in
theorem pf_X4_init_18 : pf_ok yX4_init 18 8 2 := ⟨_, rfl, by decide, Or.inr ⟨rfl, rfl, rfl, (g_at 740 (by decide +kernel) (by decide +kernel))⟩⟩
set_option maxRecDepth 20000 in
theorem pf_X4_init_22 : pf_ok yX4_init 22 8 3 := ⟨_, rfl, by decide, Or.inr ⟨rfl, rfl, rfl, (g_at 741 (by decide +kernel) (by decide +kernel))⟩⟩
set_option maxRecDepth 20000 in
theorem md_X6_face : md_ok yX6_face cX6_face 8 (some .int) 5 := ⟨g_at 797 (by decide +kernel) (by decide +kernel), (g_at 38 (by decide +kernel) (by decide +kernel)), by decide, ⟨by decide, by decide⟩, by decide +kernel, by decide⟩
set_option maxRecDepth 20000 in
theorem mi_X6_face : Cond.instanceMethod yX6_face ∈ g_ws := (g_at 795 (by decide +kernel) (by decide +kernel))
set_option maxRecDepth 20000 in
theorem me_X6_face : Cond.selects RX6 yX6_face yX6_face ∈ g_ws := (g_at 796 (by decide +kernel) (by decide +kernel))
set_option maxRecDepth 20000 in
theorem mt_L_47 : mt_ok RL 47 yX6_face cX6_face 8 (some .int) 5 := ⟨(g_at 794 (by decide +kernel) (by decide +kernel)), md_X6_face⟩
set_option maxRecDepth 20000 in
theorem md_X6_panelOf : md_ok yX6_panelOf cX6_panelOf 2 (some (.object "VeneerLoft$Panel")) 1 := ⟨g_at 801 (by decide +kernel) (by decide +kernel), (g_at 38 (by decide +kernel) (by decide +kernel)), by decide, ⟨by decide, by decide⟩, by decide +kernel, by decide⟩
set_option maxRecDepth 20000 in
theorem mi_X6_panelOf : Cond.instanceMethod yX6_panelOf ∈ g_ws := (g_at 800 (by decide +kernel) (by decide +kernel))
set_option maxRecDepth 20000 in
theorem me_X6_panelOf : Cond.selects RX6 yX6_panelOf yX6_panelOf ∈ g_ws := (g_at 15 (by decide +kernel) (by decide +kernel))
set_option maxRecDepth 20000 in
theorem mt_X6_113 : mt_ok RX6 113 yX6_panelOf cX6_panelOf 2 (some (.object "VeneerLoft$Panel")) 1 := ⟨(g_at 798 (by decide +kernel) (by decide +kernel)), md_X6_panelOf⟩
set_option maxRecDepth 20000 in
theorem md_X6_canCover : md_ok yX6_canCover cX6_canCover 5 (some .boolean) 4 := ⟨g_at 805 (by decide +kernel) (by decide +kernel), (g_at 38 (by decide +kernel) (by decide +kernel)), by decide, ⟨by decide, by decide⟩, by decide +kernel, by decide⟩
set_option maxRecDepth 20000 in
theorem ms_X6_canCover : Cond.static yX6_canCover ∈ g_ws := (g_at 804 (by decide +kernel) (by decide +kernel))
set_option maxRecDepth 20000 in
theorem mt_X6_127 : mt_ok RX6 127 yX6_canCover cX6_canCover 5 (some .boolean) 4 := ⟨(g_at 803 (by decide +kernel) (by decide +kernel)), md_X6_canCover⟩
set_option maxRecDepth 20000 in
theorem cl_X6_131 : Cond.classLink RX6 131 "VeneerLoft$Packet" ∈ g_ws := (g_at 813 (by decide +kernel) (by decide +kernel))
set_option maxRecDepth 20000 in
theorem nw_X6_131 : nw_ok RX6 131 7 3 := ⟨_, rfl, (g_at 813 (by decide +kernel) (by decide +kernel)), (g_at 814 (by decide +kernel) (by decide +kernel)), (g_at 70 (by decide +kernel) (by decide +kernel))⟩
set_option maxRecDepth 20000 in
theorem md_X3_init : md_ok yX3_init cX3_init 4 ((none : Option Jvm.ClassFile.FieldType)) 3 := ⟨g_at 817 (by decide +kernel) (by decide +kernel), (g_at 70 (by decide +kernel) (by decide +kernel)), by decide, ⟨by decide, by decide⟩, by decide +kernel, by decide⟩
set_option maxRecDepth 20000 in
theorem mi_X3_init : Cond.instanceMethod yX3_init ∈ g_ws := (g_at 816 (by decide +kernel) (by decide +kernel))
set_option maxRecDepth 20000 in
theorem mt_X6_133 : mt_ok RX6 133 yX3_init cX3_init 4 ((none : Option Jvm.ClassFile.FieldType)) 3 := ⟨(g_at 815 (by decide +kernel) (by decide +kernel)), md_X3_init⟩
set_option maxRecDepth 20000 in
theorem pf_X6_face_123 : pf_ok yX6_face 123 8 4 := ⟨_, rfl, by decide, Or.inl ⟨rfl, Or.inl (g_at 744 (by decide +kernel) (by decide +kernel))⟩⟩
set_option maxRecDepth 20000 in
theorem md_X6_jumpOf : md_ok yX6_jumpOf cX6_jumpOf 7 (some .int) 4 := ⟨g_at 835 (by decide +kernel) (by decide +kernel), (g_at 38 (by decide +kernel) (by decide +kernel)), by decide, ⟨by decide, by decide⟩, by decide +kernel, by decide⟩
set_option maxRecDepth 20000 in
theorem ms_X6_jumpOf : Cond.static yX6_jumpOf ∈ g_ws := (g_at 834 (by decide +kernel) (by decide +kernel))
set_option maxRecDepth 20000 in
theorem mt_X6_136 : mt_ok RX6 136 yX6_jumpOf cX6_jumpOf 7 (some .int) 4 := ⟨(g_at 833 (by decide +kernel) (by decide +kernel)), md_X6_jumpOf⟩
set_option maxRecDepth 20000 in
theorem pf_X6_face_140 : pf_ok yX6_face 140 8 6 := ⟨_, rfl, by decide, Or.inl ⟨rfl, Or.inl (g_at 747 (by decide +kernel) (by decide +kernel))⟩⟩
set_option maxRecDepth 20000 in
theorem fl_X6_143 : fl_ok RX6 143 4 0 := ⟨_, rfl, by decide, Or.inl (g_at 640 (by decide +kernel) (by decide +kernel))⟩
set_option maxRecDepth 20000 in
theorem pf_X6_face_146 : pf_ok yX6_face 146 8 10 := ⟨_, rfl, by decide, Or.inl ⟨rfl, Or.inl (g_at 755 (by decide +kernel) (by decide +kernel))⟩⟩
set_option maxRecDepth 20000 in
theorem mt_X6_152 : mt_ok RX6 152 yX4_surface cX4_surface 1 (some .int) 0 := ⟨(g_at 837 (by decide +kernel) (by decide +kernel)), md_X4_surface⟩
set_option maxRecDepth 20000 in
theorem pf_X6_face_149 : pf_ok yX6_face 149 10 6 := ⟨_, rfl, by decide, Or.inl ⟨rfl, Or.inl (g_at 121 (by decide +kernel) (by decide +kernel))⟩⟩
set_option maxRecDepth 20000 in
theorem md_X6_layOn : md_ok yX6_layOn cX6_layOn 8 (some .int) 2 := ⟨g_at 841 (by decide +kernel) (by decide +kernel), (g_at 38 (by decide +kernel) (by decide +kernel)), by decide, ⟨by decide, by decide⟩, by decide +kernel, by decide⟩
set_option maxRecDepth 20000 in
theorem mi_X6_layOn : Cond.instanceMethod yX6_layOn ∈ g_ws := (g_at 840 (by decide +kernel) (by decide +kernel))
set_option maxRecDepth 20000 in
theorem me_X6_layOn : Cond.selects RX6 yX6_layOn yX6_layOn ∈ g_ws := (g_at 16 (by decide +kernel) (by decide +kernel))
set_option maxRecDepth 20000 in
theorem mt_X6_155 : mt_ok RX6 155 yX6_layOn cX6_layOn 8 (some .int) 2 := ⟨(g_at 838 (by decide +kernel) (by decide +kernel)), md_X6_layOn⟩
set_option maxRecDepth 20000 in
theorem fl_X6_140 : fl_ok RX6 140 8 6 := ⟨_, rfl, by decide, Or.inl (g_at 747 (by decide +kernel) (by decide +kernel))⟩
set_option maxRecDepth 20000 in
theorem fl_X6_355 : fl_ok RX6 355 4 1 := ⟨_, rfl, by decide, Or.inl (g_at 642 (by decide +kernel) (by decide +kernel))⟩
set_option maxRecDepth 20000 in
theorem fl_X6_358 : fl_ok RX6 358 8 1 := ⟨_, rfl, by decide, Or.inl (g_at 739 (by decide +kernel) (by decide +kernel))⟩
set_option maxRecDepth 20000 in
theorem md_X6_stripOf : md_ok yX6_stripOf cX6_stripOf 2 (some .int) 2 := ⟨g_at 808 (by decide +kernel) (by decide +kernel), (g_at 38 (by decide +kernel) (by decide +kernel)), by decide, ⟨by decide, by decide⟩, by decide +kernel, by decide⟩
set_option maxRecDepth 20000 in
theorem ms_X6_stripOf : Cond.static yX6_stripOf ∈ g_ws := (g_at 807 (by decide +kernel) (by decide +kernel))
set_option maxRecDepth 20000 in
theorem mt_X6_359 : mt_ok RX6 359 yX6_stripOf cX6_stripOf 2 (some .int) 2 := ⟨(g_at 806 (by decide +kernel) (by decide +kernel)), md_X6_stripOf⟩
set_option maxRecDepth 20000 in
theorem md_X0_isFree : md_ok yX0_isFree cX0_isFree 6 (some .boolean) 3 := ⟨g_at 812 (by decide +kernel) (by decide +kernel), (g_at 63 (by decide +kernel) (by decide +kernel)), by decide, ⟨by decide, by decide⟩, by decide +kernel, by decide⟩
set_option maxRecDepth 20000 in
theorem mi_X0_isFree : Cond.instanceMethod yX0_isFree ∈ g_ws := (g_at 810 (by decide +kernel) (by decide +kernel))
set_option maxRecDepth 20000 in
theorem me_X0_isFree : Cond.selects RX0 yX0_isFree yX0_isFree ∈ g_ws := (g_at 811 (by decide +kernel) (by decide +kernel))
set_option maxRecDepth 20000 in
theorem mt_X6_261 : mt_ok RX6 261 yX0_isFree cX0_isFree 6 (some .boolean) 3 := ⟨(g_at 809 (by decide +kernel) (by decide +kernel)), md_X0_isFree⟩
set_option maxRecDepth 20000 in
theorem fl_X6_354 : fl_ok RX6 354 8 0 := ⟨_, rfl, by decide, Or.inl (g_at 737 (by decide +kernel) (by decide +kernel))⟩
set_option maxRecDepth 20000 in
theorem oi_X3_1 : Cond.methodLink RX3 1 Lib.objectInit ∈ g_ws := (g_at 818 (by decide +kernel) (by decide +kernel))
set_option maxRecDepth 20000 in
theorem pf_X3_init_7 : pf_ok yX3_init 7 7 0 := ⟨_, rfl, by decide, Or.inr ⟨rfl, rfl, rfl, (g_at 819 (by decide +kernel) (by decide +kernel))⟩⟩
set_option maxRecDepth 20000 in
theorem pf_X3_init_13 : pf_ok yX3_init 13 7 1 := ⟨_, rfl, by decide, Or.inr ⟨rfl, rfl, rfl, (g_at 821 (by decide +kernel) (by decide +kernel))⟩⟩
set_option maxRecDepth 20000 in
theorem pf_X3_init_17 : pf_ok yX3_init 17 7 2 := ⟨_, rfl, by decide, Or.inr ⟨rfl, rfl, rfl, (g_at 823 (by decide +kernel) (by decide +kernel))⟩⟩
set_option maxRecDepth 20000 in
theorem ma_X6_363 : Cond.methodLink RX6 363 Lib.Math.abs.name ∈ g_ws := (g_at 836 (by decide +kernel) (by decide +kernel))
set_option maxRecDepth 20000 in
theorem fl_X6_177 : fl_ok RX6 177 7 2 := ⟨_, rfl, by decide, Or.inl (g_at 825 (by decide +kernel) (by decide +kernel))⟩
set_option maxRecDepth 20000 in
theorem fl_X6_366 : fl_ok RX6 366 7 0 := ⟨_, rfl, by decide, Or.inl (g_at 820 (by decide +kernel) (by decide +kernel))⟩
set_option maxRecDepth 20000 in
theorem fl_X6_370 : fl_ok RX6 370 7 1 := ⟨_, rfl, by decide, Or.inl (g_at 822 (by decide +kernel) (by decide +kernel))⟩
set_option maxRecDepth 20000 in
theorem md_X0_use : md_ok yX0_use cX0_use 6 (some .int) 2 := ⟨g_at 845 (by decide +kernel) (by decide +kernel), (g_at 63 (by decide +kernel) (by decide +kernel)), by decide, ⟨by decide, by decide⟩, by decide +kernel, by decide⟩
set_option maxRecDepth 20000 in
theorem mi_X0_use : Cond.instanceMethod yX0_use ∈ g_ws := (g_at 843 (by decide +kernel) (by decide +kernel))
set_option maxRecDepth 20000 in
theorem me_X0_use : Cond.selects RX0 yX0_use yX0_use ∈ g_ws := (g_at 844 (by decide +kernel) (by decide +kernel))
set_option maxRecDepth 20000 in
theorem mt_X6_264 : mt_ok RX6 264 yX0_use cX0_use 6 (some .int) 2 := ⟨(g_at 842 (by decide +kernel) (by decide +kernel)), md_X0_use⟩
set_option maxRecDepth 20000 in
theorem nw_X6_296 : nw_ok RX6 296 6 2 := ⟨_, rfl, (g_at 176 (by decide +kernel) (by decide +kernel)), (g_at 847 (by decide +kernel) (by decide +kernel)), (g_at 71 (by decide +kernel) (by decide +kernel))⟩
set_option maxRecDepth 20000 in
theorem md_X2_init : md_ok yX2_init cX2_init 3 ((none : Option Jvm.ClassFile.FieldType)) 2 := ⟨g_at 850 (by decide +kernel) (by decide +kernel), (g_at 71 (by decide +kernel) (by decide +kernel)), by decide, ⟨by decide, by decide⟩, by decide +kernel, by decide⟩
set_option maxRecDepth 20000 in
theorem mi_X2_init : Cond.instanceMethod yX2_init ∈ g_ws := (g_at 849 (by decide +kernel) (by decide +kernel))
set_option maxRecDepth 20000 in
theorem mt_X6_373 : mt_ok RX6 373 yX2_init cX2_init 3 ((none : Option Jvm.ClassFile.FieldType)) 2 := ⟨(g_at 848 (by decide +kernel) (by decide +kernel)), md_X2_init⟩
set_option maxRecDepth 20000 in
theorem pf_X6_layOn_270 : pf_ok yX6_layOn 270 10 10 := ⟨_, rfl, by decide, Or.inl ⟨rfl, Or.inl (g_at 125 (by decide +kernel) (by decide +kernel))⟩⟩
set_option maxRecDepth 20000 in
theorem fl_X0_89 : fl_ok RX0 89 4 7 := ⟨_, rfl, by decide, Or.inl (g_at 650 (by decide +kernel) (by decide +kernel))⟩
set_option maxRecDepth 20000 in
theorem pf_X0_use_89 : pf_ok yX0_use 89 4 7 := ⟨_, rfl, by decide, Or.inl ⟨rfl, Or.inl (g_at 650 (by decide +kernel) (by decide +kernel))⟩⟩
set_option maxRecDepth 20000 in
theorem mt_X0_92 : mt_ok RX0 92 yX0_areaOf cX0_areaOf 2 (some .int) 1 := ⟨(g_at 846 (by decide +kernel) (by decide +kernel)), md_X0_areaOf⟩
set_option maxRecDepth 20000 in
theorem oi_X2_1 : Cond.methodLink RX2 1 Lib.objectInit ∈ g_ws := (g_at 851 (by decide +kernel) (by decide +kernel))
set_option maxRecDepth 20000 in
theorem pf_X2_init_7 : pf_ok yX2_init 7 6 0 := ⟨_, rfl, by decide, Or.inr ⟨rfl, rfl, rfl, (g_at 852 (by decide +kernel) (by decide +kernel))⟩⟩
set_option maxRecDepth 20000 in
theorem pf_X2_init_13 : pf_ok yX2_init 13 6 1 := ⟨_, rfl, by decide, Or.inr ⟨rfl, rfl, rfl, (g_at 854 (by decide +kernel) (by decide +kernel))⟩⟩
set_option maxRecDepth 20000 in
theorem md_X6_back : md_ok yX6_back cX6_back 7 (some .int) 4 := ⟨g_at 867 (by decide +kernel) (by decide +kernel), (g_at 38 (by decide +kernel) (by decide +kernel)), by decide, ⟨by decide, by decide⟩, by decide +kernel, by decide⟩
set_option maxRecDepth 20000 in
theorem mi_X6_back : Cond.instanceMethod yX6_back ∈ g_ws := (g_at 865 (by decide +kernel) (by decide +kernel))
set_option maxRecDepth 20000 in
theorem me_X6_back : Cond.selects RX6 yX6_back yX6_back ∈ g_ws := (g_at 866 (by decide +kernel) (by decide +kernel))
set_option maxRecDepth 20000 in
theorem mt_L_51 : mt_ok RL 51 yX6_back cX6_back 7 (some .int) 4 := ⟨(g_at 864 (by decide +kernel) (by decide +kernel)), md_X6_back⟩
set_option maxRecDepth 20000 in
theorem fl_X6_162 : fl_ok RX6 162 8 7 := ⟨_, rfl, by decide, Or.inl (g_at 749 (by decide +kernel) (by decide +kernel))⟩
set_option maxRecDepth 20000 in
theorem pf_X6_back_159 : pf_ok yX6_back 159 8 5 := ⟨_, rfl, by decide, Or.inl ⟨rfl, Or.inl (g_at 746 (by decide +kernel) (by decide +kernel))⟩⟩
set_option maxRecDepth 20000 in
theorem pf_X6_back_165 : pf_ok yX6_back 165 10 7 := ⟨_, rfl, by decide, Or.inl ⟨rfl, Or.inl (g_at 122 (by decide +kernel) (by decide +kernel))⟩⟩
set_option maxRecDepth 20000 in
theorem md_X6_jump : md_ok yX6_jump cX6_jump 3 (some .int) 1 := ⟨g_at 875 (by decide +kernel) (by decide +kernel), (g_at 38 (by decide +kernel) (by decide +kernel)), by decide, ⟨by decide, by decide⟩, by decide +kernel, by decide⟩
set_option maxRecDepth 20000 in
theorem mi_X6_jump : Cond.instanceMethod yX6_jump ∈ g_ws := (g_at 873 (by decide +kernel) (by decide +kernel))
set_option maxRecDepth 20000 in
theorem me_X6_jump : Cond.selects RX6 yX6_jump yX6_jump ∈ g_ws := (g_at 874 (by decide +kernel) (by decide +kernel))
set_option maxRecDepth 20000 in
theorem mt_L_55 : mt_ok RL 55 yX6_jump cX6_jump 3 (some .int) 1 := ⟨(g_at 872 (by decide +kernel) (by decide +kernel)), md_X6_jump⟩
set_option maxRecDepth 20000 in
theorem cl_X6_168 : Cond.classLink RX6 168 "java/util/NoSuchElementException" ∈ g_ws := (g_at 876 (by decide +kernel) (by decide +kernel))
set_option maxRecDepth 20000 in
theorem th_X6_168_170 : th_ok RX6 168 170 "java/util/NoSuchElementException" := ⟨by decide, cl_X6_168, (g_at 73 (by decide +kernel) (by decide +kernel)), by decide +kernel, by decide +kernel⟩
set_option maxRecDepth 20000 in
theorem md_X6_bestFirst : md_ok yX6_bestFirst cX6_bestFirst 11 (some .int) 4 := ⟨g_at 897 (by decide +kernel) (by decide +kernel), (g_at 38 (by decide +kernel) (by decide +kernel)), by decide, ⟨by decide, by decide⟩, by decide +kernel, by decide⟩
set_option maxRecDepth 20000 in
theorem mi_X6_bestFirst : Cond.instanceMethod yX6_bestFirst ∈ g_ws := (g_at 895 (by decide +kernel) (by decide +kernel))
set_option maxRecDepth 20000 in
theorem me_X6_bestFirst : Cond.selects RX6 yX6_bestFirst yX6_bestFirst ∈ g_ws := (g_at 896 (by decide +kernel) (by decide +kernel))
set_option maxRecDepth 20000 in
theorem mt_L_60 : mt_ok RL 60 yX6_bestFirst cX6_bestFirst 11 (some .int) 4 := ⟨(g_at 894 (by decide +kernel) (by decide +kernel)), md_X6_bestFirst⟩
set_option maxRecDepth 20000 in
theorem md_X6_press : md_ok yX6_press cX6_press 7 (some .int) 4 := ⟨g_at 904 (by decide +kernel) (by decide +kernel), (g_at 38 (by decide +kernel) (by decide +kernel)), by decide, ⟨by decide, by decide⟩, by decide +kernel, by decide⟩
set_option maxRecDepth 20000 in
theorem mi_X6_press : Cond.instanceMethod yX6_press ∈ g_ws := (g_at 902 (by decide +kernel) (by decide +kernel))
set_option maxRecDepth 20000 in
theorem me_X6_press : Cond.selects RX6 yX6_press yX6_press ∈ g_ws := (g_at 903 (by decide +kernel) (by decide +kernel))
set_option maxRecDepth 20000 in
theorem mt_L_64 : mt_ok RL 64 yX6_press cX6_press 7 (some .int) 4 := ⟨(g_at 901 (by decide +kernel) (by decide +kernel)), md_X6_press⟩
set_option maxRecDepth 20000 in
theorem pf_X6_press_162 : pf_ok yX6_press 162 8 7 := ⟨_, rfl, by decide, Or.inl ⟨rfl, Or.inl (g_at 749 (by decide +kernel) (by decide +kernel))⟩⟩
set_option maxRecDepth 20000 in
theorem fl_X6_28 : fl_ok RX6 28 10 5 := ⟨_, rfl, by decide, Or.inl (g_at 120 (by decide +kernel) (by decide +kernel))⟩
set_option maxRecDepth 20000 in
theorem pf_X6_press_171 : pf_ok yX6_press 171 8 8 := ⟨_, rfl, by decide, Or.inl ⟨rfl, Or.inl (g_at 751 (by decide +kernel) (by decide +kernel))⟩⟩
set_option maxRecDepth 20000 in
theorem fl_X6_174 : fl_ok RX6 174 8 9 := ⟨_, rfl, by decide, Or.inl (g_at 753 (by decide +kernel) (by decide +kernel))⟩
set_option maxRecDepth 20000 in
theorem pf_X6_press_174 : pf_ok yX6_press 174 8 9 := ⟨_, rfl, by decide, Or.inl ⟨rfl, Or.inl (g_at 753 (by decide +kernel) (by decide +kernel))⟩⟩
set_option maxRecDepth 20000 in
theorem fl_X6_180 : fl_ok RX6 180 8 3 := ⟨_, rfl, by decide, Or.inl (g_at 742 (by decide +kernel) (by decide +kernel))⟩
set_option maxRecDepth 20000 in
theorem md_X6_slit : md_ok yX6_slit cX6_slit 3 (some .int) 1 := ⟨g_at 911 (by decide +kernel) (by decide +kernel), (g_at 38 (by decide +kernel) (by decide +kernel)), by decide, ⟨by decide, by decide⟩, by decide +kernel, by decide⟩
set_option maxRecDepth 20000 in
theorem mi_X6_slit : Cond.instanceMethod yX6_slit ∈ g_ws := (g_at 909 (by decide +kernel) (by decide +kernel))
set_option maxRecDepth 20000 in
theorem me_X6_slit : Cond.selects RX6 yX6_slit yX6_slit ∈ g_ws := (g_at 910 (by decide +kernel) (by decide +kernel))
set_option maxRecDepth 20000 in
theorem mt_L_67 : mt_ok RL 67 yX6_slit cX6_slit 3 (some .int) 1 := ⟨(g_at 908 (by decide +kernel) (by decide +kernel)), md_X6_slit⟩
set_option maxRecDepth 20000 in
theorem pf_X6_slit_174 : pf_ok yX6_slit 174 8 9 := ⟨_, rfl, by decide, Or.inl ⟨rfl, Or.inl (g_at 753 (by decide +kernel) (by decide +kernel))⟩⟩
set_option maxRecDepth 20000 in
theorem md_X6_air : md_ok yX6_air cX6_air 3 (some .int) 1 := ⟨g_at 918 (by decide +kernel) (by decide +kernel), (g_at 38 (by decide +kernel) (by decide +kernel)), by decide, ⟨by decide, by decide⟩, by decide +kernel, by decide⟩
set_option maxRecDepth 20000 in
theorem mi_X6_air : Cond.instanceMethod yX6_air ∈ g_ws := (g_at 916 (by decide +kernel) (by decide +kernel))
set_option maxRecDepth 20000 in
theorem me_X6_air : Cond.selects RX6 yX6_air yX6_air ∈ g_ws := (g_at 917 (by decide +kernel) (by decide +kernel))
set_option maxRecDepth 20000 in
theorem mt_L_70 : mt_ok RL 70 yX6_air cX6_air 3 (some .int) 1 := ⟨(g_at 915 (by decide +kernel) (by decide +kernel)), md_X6_air⟩
set_option maxRecDepth 20000 in
theorem pf_X6_air_28 : pf_ok yX6_air 28 10 5 := ⟨_, rfl, by decide, Or.inl ⟨rfl, Or.inl (g_at 120 (by decide +kernel) (by decide +kernel))⟩⟩
set_option maxRecDepth 20000 in
theorem md_X6_cup : md_ok yX6_cup cX6_cup 4 (some .int) 2 := ⟨g_at 925 (by decide +kernel) (by decide +kernel), (g_at 38 (by decide +kernel) (by decide +kernel)), by decide, ⟨by decide, by decide⟩, by decide +kernel, by decide⟩
set_option maxRecDepth 20000 in
theorem mi_X6_cup : Cond.instanceMethod yX6_cup ∈ g_ws := (g_at 923 (by decide +kernel) (by decide +kernel))
set_option maxRecDepth 20000 in
theorem me_X6_cup : Cond.selects RX6 yX6_cup yX6_cup ∈ g_ws := (g_at 924 (by decide +kernel) (by decide +kernel))
set_option maxRecDepth 20000 in
theorem mt_L_73 : mt_ok RL 73 yX6_cup cX6_cup 4 (some .int) 2 := ⟨(g_at 922 (by decide +kernel) (by decide +kernel)), md_X6_cup⟩
set_option maxRecDepth 20000 in
theorem md_X6_pressedOnly : md_ok yX6_pressedOnly cX6_pressedOnly 1 (some (.object "VeneerLoft$Panel")) 1 := ⟨g_at 928 (by decide +kernel) (by decide +kernel), (g_at 38 (by decide +kernel) (by decide +kernel)), by decide, ⟨by decide, by decide⟩, by decide +kernel, by decide⟩
set_option maxRecDepth 20000 in
theorem ms_X6_pressedOnly : Cond.static yX6_pressedOnly ∈ g_ws := (g_at 927 (by decide +kernel) (by decide +kernel))
set_option maxRecDepth 20000 in
theorem mt_X6_181 : mt_ok RX6 181 yX6_pressedOnly cX6_pressedOnly 1 (some (.object "VeneerLoft$Panel")) 1 := ⟨(g_at 926 (by decide +kernel) (by decide +kernel)), md_X6_pressedOnly⟩
set_option maxRecDepth 20000 in
theorem md_X4_cupAt : md_ok yX4_cupAt cX4_cupAt 5 (some .int) 1 := ⟨g_at 932 (by decide +kernel) (by decide +kernel), (g_at 65 (by decide +kernel) (by decide +kernel)), by decide, ⟨by decide, by decide⟩, by decide +kernel, by decide⟩
set_option maxRecDepth 20000 in
theorem mi_X4_cupAt : Cond.instanceMethod yX4_cupAt ∈ g_ws := (g_at 930 (by decide +kernel) (by decide +kernel))
set_option maxRecDepth 20000 in
theorem me_X4_cupAt : Cond.selects RX4 yX4_cupAt yX4_cupAt ∈ g_ws := (g_at 931 (by decide +kernel) (by decide +kernel))
set_option maxRecDepth 20000 in
theorem mt_X6_185 : mt_ok RX6 185 yX4_cupAt cX4_cupAt 5 (some .int) 1 := ⟨(g_at 929 (by decide +kernel) (by decide +kernel)), md_X4_cupAt⟩
set_option maxRecDepth 20000 in
theorem fl_X4_25 : fl_ok RX4 25 8 8 := ⟨_, rfl, by decide, Or.inl (g_at 750 (by decide +kernel) (by decide +kernel))⟩
set_option maxRecDepth 20000 in
theorem md_X4_pullOf : md_ok yX4_pullOf cX4_pullOf 2 (some .int) 2 := ⟨g_at 935 (by decide +kernel) (by decide +kernel), (g_at 65 (by decide +kernel) (by decide +kernel)), by decide, ⟨by decide, by decide⟩, by decide +kernel, by decide⟩
set_option maxRecDepth 20000 in
theorem ms_X4_pullOf : Cond.static yX4_pullOf ∈ g_ws := (g_at 934 (by decide +kernel) (by decide +kernel))
set_option maxRecDepth 20000 in
theorem mt_X4_32 : mt_ok RX4 32 yX4_pullOf cX4_pullOf 2 (some .int) 2 := ⟨(g_at 933 (by decide +kernel) (by decide +kernel)), md_X4_pullOf⟩
set_option maxRecDepth 20000 in
theorem fl_X4_22 : fl_ok RX4 22 8 3 := ⟨_, rfl, by decide, Or.inl (g_at 741 (by decide +kernel) (by decide +kernel))⟩
set_option maxRecDepth 20000 in
theorem fl_X4_18 : fl_ok RX4 18 8 2 := ⟨_, rfl, by decide, Or.inl (g_at 740 (by decide +kernel) (by decide +kernel))⟩
set_option maxRecDepth 20000 in
theorem md_X3_pullBy : md_ok yX3_pullBy cX3_pullBy 2 (some .int) 1 := ⟨g_at 939 (by decide +kernel) (by decide +kernel), (g_at 70 (by decide +kernel) (by decide +kernel)), by decide, ⟨by decide, by decide⟩, by decide +kernel, by decide⟩
set_option maxRecDepth 20000 in
theorem mi_X3_pullBy : Cond.instanceMethod yX3_pullBy ∈ g_ws := (g_at 937 (by decide +kernel) (by decide +kernel))
set_option maxRecDepth 20000 in
theorem me_X3_pullBy : Cond.selects RX3 yX3_pullBy yX3_pullBy ∈ g_ws := (g_at 938 (by decide +kernel) (by decide +kernel))
set_option maxRecDepth 20000 in
theorem mt_X4_39 : mt_ok RX4 39 yX3_pullBy cX3_pullBy 2 (some .int) 1 := ⟨(g_at 936 (by decide +kernel) (by decide +kernel)), md_X3_pullBy⟩
set_option maxRecDepth 20000 in
theorem fl_X3_20 : fl_ok RX3 20 4 2 := ⟨_, rfl, by decide, Or.inl (g_at 644 (by decide +kernel) (by decide +kernel))⟩
set_option maxRecDepth 20000 in
theorem fl_X3_25 : fl_ok RX3 25 4 0 := ⟨_, rfl, by decide, Or.inl (g_at 639 (by decide +kernel) (by decide +kernel))⟩
set_option maxRecDepth 20000 in
theorem md_X6_isFlat : md_ok yX6_isFlat cX6_isFlat 2 (some .boolean) 1 := ⟨g_at 946 (by decide +kernel) (by decide +kernel), (g_at 38 (by decide +kernel) (by decide +kernel)), by decide, ⟨by decide, by decide⟩, by decide +kernel, by decide⟩
set_option maxRecDepth 20000 in
theorem mi_X6_isFlat : Cond.instanceMethod yX6_isFlat ∈ g_ws := (g_at 944 (by decide +kernel) (by decide +kernel))
set_option maxRecDepth 20000 in
theorem me_X6_isFlat : Cond.selects RX6 yX6_isFlat yX6_isFlat ∈ g_ws := (g_at 945 (by decide +kernel) (by decide +kernel))
set_option maxRecDepth 20000 in
theorem mt_L_76 : mt_ok RL 76 yX6_isFlat cX6_isFlat 2 (some .boolean) 1 := ⟨(g_at 943 (by decide +kernel) (by decide +kernel)), md_X6_isFlat⟩
set_option maxRecDepth 20000 in
theorem md_X4_isFlatAt : md_ok yX4_isFlatAt cX4_isFlatAt 2 (some .boolean) 1 := ⟨g_at 950 (by decide +kernel) (by decide +kernel), (g_at 65 (by decide +kernel) (by decide +kernel)), by decide, ⟨by decide, by decide⟩, by decide +kernel, by decide⟩
set_option maxRecDepth 20000 in
theorem mi_X4_isFlatAt : Cond.instanceMethod yX4_isFlatAt ∈ g_ws := (g_at 948 (by decide +kernel) (by decide +kernel))
set_option maxRecDepth 20000 in
theorem me_X4_isFlatAt : Cond.selects RX4 yX4_isFlatAt yX4_isFlatAt ∈ g_ws := (g_at 949 (by decide +kernel) (by decide +kernel))
set_option maxRecDepth 20000 in
theorem mt_X6_188 : mt_ok RX6 188 yX4_isFlatAt cX4_isFlatAt 2 (some .boolean) 1 := ⟨(g_at 947 (by decide +kernel) (by decide +kernel)), md_X4_isFlatAt⟩
set_option maxRecDepth 20000 in
theorem mt_X4_45 : mt_ok RX4 45 yX4_cupAt cX4_cupAt 5 (some .int) 1 := ⟨(g_at 951 (by decide +kernel) (by decide +kernel)), md_X4_cupAt⟩
set_option maxRecDepth 20000 in
theorem mn_X4_48 : Cond.methodLinkNest RX4 48 yX6_isIn "VeneerLoft" ∈ g_nw := (g_an 952 (by decide +kernel) (by decide +kernel))
set_option maxRecDepth 20000 in
theorem md_X6_cupMonth : md_ok yX6_cupMonth cX6_cupMonth 4 (some .int) 1 := ⟨g_at 959 (by decide +kernel) (by decide +kernel), (g_at 38 (by decide +kernel) (by decide +kernel)), by decide, ⟨by decide, by decide⟩, by decide +kernel, by decide⟩
set_option maxRecDepth 20000 in
theorem mi_X6_cupMonth : Cond.instanceMethod yX6_cupMonth ∈ g_ws := (g_at 957 (by decide +kernel) (by decide +kernel))
set_option maxRecDepth 20000 in
theorem me_X6_cupMonth : Cond.selects RX6 yX6_cupMonth yX6_cupMonth ∈ g_ws := (g_at 958 (by decide +kernel) (by decide +kernel))
set_option maxRecDepth 20000 in
theorem mt_L_80 : mt_ok RL 80 yX6_cupMonth cX6_cupMonth 4 (some .int) 1 := ⟨(g_at 956 (by decide +kernel) (by decide +kernel)), md_X6_cupMonth⟩
set_option maxRecDepth 20000 in
theorem gs_X6_191 : Cond.fieldLink RX6 191 "VeneerLoft" "MONTHS" "[I" ∈ g_ws := (g_at 960 (by decide +kernel) (by decide +kernel))
set_option maxRecDepth 20000 in
theorem mt_X6_195 : mt_ok RX6 195 yX6_within cX6_within 3 (some .int) 3 := ⟨(g_at 962 (by decide +kernel) (by decide +kernel)), md_X6_within⟩
set_option maxRecDepth 20000 in
theorem md_X6_scrape : md_ok yX6_scrape cX6_scrape 4 (some .int) 2 := ⟨g_at 969 (by decide +kernel) (by decide +kernel), (g_at 38 (by decide +kernel) (by decide +kernel)), by decide, ⟨by decide, by decide⟩, by decide +kernel, by decide⟩
set_option maxRecDepth 20000 in
theorem mi_X6_scrape : Cond.instanceMethod yX6_scrape ∈ g_ws := (g_at 967 (by decide +kernel) (by decide +kernel))
set_option maxRecDepth 20000 in
theorem me_X6_scrape : Cond.selects RX6 yX6_scrape yX6_scrape ∈ g_ws := (g_at 968 (by decide +kernel) (by decide +kernel))
set_option maxRecDepth 20000 in
theorem mt_L_83 : mt_ok RL 83 yX6_scrape cX6_scrape 4 (some .int) 2 := ⟨(g_at 966 (by decide +kernel) (by decide +kernel)), md_X6_scrape⟩
set_option maxRecDepth 20000 in
theorem md_X4_isWornThrough : md_ok yX4_isWornThrough cX4_isWornThrough 1 (some .boolean) 0 := ⟨g_at 973 (by decide +kernel) (by decide +kernel), (g_at 65 (by decide +kernel) (by decide +kernel)), by decide, ⟨by decide, by decide⟩, by decide +kernel, by decide⟩
set_option maxRecDepth 20000 in
theorem mi_X4_isWornThrough : Cond.instanceMethod yX4_isWornThrough ∈ g_ws := (g_at 971 (by decide +kernel) (by decide +kernel))
set_option maxRecDepth 20000 in
theorem me_X4_isWornThrough : Cond.selects RX4 yX4_isWornThrough yX4_isWornThrough ∈ g_ws := (g_at 972 (by decide +kernel) (by decide +kernel))
set_option maxRecDepth 20000 in
theorem mt_X6_199 : mt_ok RX6 199 yX4_isWornThrough cX4_isWornThrough 1 (some .boolean) 0 := ⟨(g_at 970 (by decide +kernel) (by decide +kernel)), md_X4_isWornThrough⟩
set_option maxRecDepth 20000 in
theorem fl_X6_146 : fl_ok RX6 146 8 10 := ⟨_, rfl, by decide, Or.inl (g_at 755 (by decide +kernel) (by decide +kernel))⟩
set_option maxRecDepth 20000 in
theorem pf_X6_scrape_146 : pf_ok yX6_scrape 146 8 10 := ⟨_, rfl, by decide, Or.inl ⟨rfl, Or.inl (g_at 755 (by decide +kernel) (by decide +kernel))⟩⟩
set_option maxRecDepth 20000 in
theorem fl_X4_52 : fl_ok RX4 52 8 10 := ⟨_, rfl, by decide, Or.inl (g_at 754 (by decide +kernel) (by decide +kernel))⟩
set_option maxRecDepth 20000 in
theorem md_X6_isThrough : md_ok yX6_isThrough cX6_isThrough 2 (some .boolean) 1 := ⟨g_at 980 (by decide +kernel) (by decide +kernel), (g_at 38 (by decide +kernel) (by decide +kernel)), by decide, ⟨by decide, by decide⟩, by decide +kernel, by decide⟩
set_option maxRecDepth 20000 in
theorem mi_X6_isThrough : Cond.instanceMethod yX6_isThrough ∈ g_ws := (g_at 978 (by decide +kernel) (by decide +kernel))
set_option maxRecDepth 20000 in
theorem me_X6_isThrough : Cond.selects RX6 yX6_isThrough yX6_isThrough ∈ g_ws := (g_at 979 (by decide +kernel) (by decide +kernel))
set_option maxRecDepth 20000 in
theorem mt_L_86 : mt_ok RL 86 yX6_isThrough cX6_isThrough 2 (some .boolean) 1 := ⟨(g_at 977 (by decide +kernel) (by decide +kernel)), md_X6_isThrough⟩
set_option maxRecDepth 20000 in
theorem md_X6_pad : md_ok yX6_pad cX6_pad 4 (some .int) 2 := ⟨g_at 987 (by decide +kernel) (by decide +kernel), (g_at 38 (by decide +kernel) (by decide +kernel)), by decide, ⟨by decide, by decide⟩, by decide +kernel, by decide⟩
set_option maxRecDepth 20000 in
theorem mi_X6_pad : Cond.instanceMethod yX6_pad ∈ g_ws := (g_at 985 (by decide +kernel) (by decide +kernel))
set_option maxRecDepth 20000 in
theorem me_X6_pad : Cond.selects RX6 yX6_pad yX6_pad ∈ g_ws := (g_at 986 (by decide +kernel) (by decide +kernel))
set_option maxRecDepth 20000 in
theorem mt_L_89 : mt_ok RL 89 yX6_pad cX6_pad 4 (some .int) 2 := ⟨(g_at 984 (by decide +kernel) (by decide +kernel)), md_X6_pad⟩
set_option maxRecDepth 20000 in
theorem md_X4_polish : md_ok yX4_polish cX4_polish 3 ((none : Option Jvm.ClassFile.FieldType)) 1 := ⟨g_at 991 (by decide +kernel) (by decide +kernel), (g_at 65 (by decide +kernel) (by decide +kernel)), by decide, ⟨by decide, by decide⟩, by decide +kernel, by decide⟩
set_option maxRecDepth 20000 in
theorem mi_X4_polish : Cond.instanceMethod yX4_polish ∈ g_ws := (g_at 989 (by decide +kernel) (by decide +kernel))
set_option maxRecDepth 20000 in
theorem me_X4_polish : Cond.selects RX4 yX4_polish yX4_polish ∈ g_ws := (g_at 990 (by decide +kernel) (by decide +kernel))
set_option maxRecDepth 20000 in
theorem mt_X6_209 : mt_ok RX6 209 yX4_polish cX4_polish 3 ((none : Option Jvm.ClassFile.FieldType)) 1 := ⟨(g_at 988 (by decide +kernel) (by decide +kernel)), md_X4_polish⟩
set_option maxRecDepth 20000 in
theorem fl_X6_213 : fl_ok RX6 213 8 11 := ⟨_, rfl, by decide, Or.inl (g_at 757 (by decide +kernel) (by decide +kernel))⟩
set_option maxRecDepth 20000 in
theorem fl_X4_55 : fl_ok RX4 55 8 12 := ⟨_, rfl, by decide, Or.inl (g_at 758 (by decide +kernel) (by decide +kernel))⟩
set_option maxRecDepth 20000 in
theorem ma_X4_58 : Cond.methodLink RX4 58 Lib.Math.max.name ∈ g_ws := (g_at 992 (by decide +kernel) (by decide +kernel))
set_option maxRecDepth 20000 in
theorem ma_X4_64 : Cond.methodLink RX4 64 Lib.Math.min.name ∈ g_ws := (g_at 993 (by decide +kernel) (by decide +kernel))
set_option maxRecDepth 20000 in
theorem pf_X4_polish_67 : pf_ok yX4_polish 67 8 11 := ⟨_, rfl, by decide, Or.inl ⟨rfl, Or.inl (g_at 756 (by decide +kernel) (by decide +kernel))⟩⟩
set_option maxRecDepth 20000 in
theorem pf_X4_polish_70 : pf_ok yX4_polish 70 8 13 := ⟨_, rfl, by decide, Or.inl ⟨rfl, Or.inl (g_at 760 (by decide +kernel) (by decide +kernel))⟩⟩
set_option maxRecDepth 20000 in
theorem pf_X4_polish_55 : pf_ok yX4_polish 55 8 12 := ⟨_, rfl, by decide, Or.inl ⟨rfl, Or.inl (g_at 758 (by decide +kernel) (by decide +kernel))⟩⟩
set_option maxRecDepth 20000 in
theorem md_X6_ghosts : md_ok yX6_ghosts cX6_ghosts 2 (some .int) 1 := ⟨g_at 1000 (by decide +kernel) (by decide +kernel), (g_at 38 (by decide +kernel) (by decide +kernel)), by decide, ⟨by decide, by decide⟩, by decide +kernel, by decide⟩
set_option maxRecDepth 20000 in
theorem mi_X6_ghosts : Cond.instanceMethod yX6_ghosts ∈ g_ws := (g_at 998 (by decide +kernel) (by decide +kernel))
set_option maxRecDepth 20000 in
theorem me_X6_ghosts : Cond.selects RX6 yX6_ghosts yX6_ghosts ∈ g_ws := (g_at 999 (by decide +kernel) (by decide +kernel))
set_option maxRecDepth 20000 in
theorem mt_L_92 : mt_ok RL 92 yX6_ghosts cX6_ghosts 2 (some .int) 1 := ⟨(g_at 997 (by decide +kernel) (by decide +kernel)), md_X6_ghosts⟩
set_option maxRecDepth 20000 in
theorem fl_X6_223 : fl_ok RX6 223 8 13 := ⟨_, rfl, by decide, Or.inl (g_at 761 (by decide +kernel) (by decide +kernel))⟩
set_option maxRecDepth 20000 in
theorem md_X6_picture : md_ok yX6_picture cX6_picture 1 (some .int) 0 := ⟨g_at 1007 (by decide +kernel) (by decide +kernel), (g_at 38 (by decide +kernel) (by decide +kernel)), by decide, ⟨by decide, by decide⟩, by decide +kernel, by decide⟩
set_option maxRecDepth 20000 in
theorem mi_X6_picture : Cond.instanceMethod yX6_picture ∈ g_ws := (g_at 1005 (by decide +kernel) (by decide +kernel))
set_option maxRecDepth 20000 in
theorem me_X6_picture : Cond.selects RX6 yX6_picture yX6_picture ∈ g_ws := (g_at 1006 (by decide +kernel) (by decide +kernel))
set_option maxRecDepth 20000 in
theorem mt_L_95 : mt_ok RL 95 yX6_picture cX6_picture 1 (some .int) 0 := ⟨(g_at 1004 (by decide +kernel) (by decide +kernel)), md_X6_picture⟩
set_option maxRecDepth 20000 in
theorem nw_X6_226 : nw_ok RX6 226 9 8 := ⟨_, rfl, (g_at 192 (by decide +kernel) (by decide +kernel)), (g_at 1008 (by decide +kernel) (by decide +kernel)), (g_at 75 (by decide +kernel) (by decide +kernel))⟩
set_option maxRecDepth 20000 in
theorem md_X5_init : md_ok yX5_init cX5_init 1 ((none : Option Jvm.ClassFile.FieldType)) 0 := ⟨g_at 1011 (by decide +kernel) (by decide +kernel), (g_at 75 (by decide +kernel) (by decide +kernel)), by decide, ⟨by decide, by decide⟩, by decide +kernel, by decide⟩
set_option maxRecDepth 20000 in
theorem mi_X5_init : Cond.instanceMethod yX5_init ∈ g_ws := (g_at 1010 (by decide +kernel) (by decide +kernel))
set_option maxRecDepth 20000 in
theorem mn_X6_228 : Cond.methodLinkNest RX6 228 yX5_init "VeneerLoft" ∈ g_nw := (g_an 1009 (by decide +kernel) (by decide +kernel))
set_option maxRecDepth 20000 in
theorem oi_X5_3 : Cond.methodLink RX5 3 Lib.objectInit ∈ g_ws := (g_at 1012 (by decide +kernel) (by decide +kernel))
set_option maxRecDepth 20000 in
theorem pf_X5_init_9 : pf_ok yX5_init 9 9 0 := ⟨_, rfl, by decide, Or.inr ⟨rfl, rfl, rfl, (g_at 1013 (by decide +kernel) (by decide +kernel))⟩⟩
set_option maxRecDepth 20000 in
theorem pf_X5_init_15 : pf_ok yX5_init 15 9 1 := ⟨_, rfl, by decide, Or.inr ⟨rfl, rfl, rfl, (g_at 1014 (by decide +kernel) (by decide +kernel))⟩⟩
set_option maxRecDepth 20000 in
theorem pf_X5_init_18 : pf_ok yX5_init 18 9 2 := ⟨_, rfl, by decide, Or.inr ⟨rfl, rfl, rfl, (g_at 1015 (by decide +kernel) (by decide +kernel))⟩⟩
set_option maxRecDepth 20000 in
theorem pf_X5_init_22 : pf_ok yX5_init 22 9 3 := ⟨_, rfl, by decide, Or.inr ⟨rfl, rfl, rfl, (g_at 1016 (by decide +kernel) (by decide +kernel))⟩⟩
set_option maxRecDepth 20000 in
theorem pf_X5_init_25 : pf_ok yX5_init 25 9 5 := ⟨_, rfl, by decide, Or.inl ⟨rfl, Or.inl (g_at 1018 (by decide +kernel) (by decide +kernel))⟩⟩
set_option maxRecDepth 20000 in
theorem pf_X5_init_29 : pf_ok yX5_init 29 9 7 := ⟨_, rfl, by decide, Or.inl ⟨rfl, Or.inl (g_at 1022 (by decide +kernel) (by decide +kernel))⟩⟩
set_option maxRecDepth 20000 in
theorem md_X6_draw : md_ok yX6_draw cX6_draw 8 (some .int) 5 := ⟨g_at 1047 (by decide +kernel) (by decide +kernel), (g_at 38 (by decide +kernel) (by decide +kernel)), by decide, ⟨by decide, by decide⟩, by decide +kernel, by decide⟩
set_option maxRecDepth 20000 in
theorem mi_X6_draw : Cond.instanceMethod yX6_draw ∈ g_ws := (g_at 1045 (by decide +kernel) (by decide +kernel))
set_option maxRecDepth 20000 in
theorem me_X6_draw : Cond.selects RX6 yX6_draw yX6_draw ∈ g_ws := (g_at 1046 (by decide +kernel) (by decide +kernel))
set_option maxRecDepth 20000 in
theorem mt_L_99 : mt_ok RL 99 yX6_draw cX6_draw 8 (some .int) 5 := ⟨(g_at 1044 (by decide +kernel) (by decide +kernel)), md_X6_draw⟩
set_option maxRecDepth 20000 in
theorem md_X6_pictureOf : md_ok yX6_pictureOf cX6_pictureOf 2 (some (.object "VeneerLoft$Picture")) 1 := ⟨g_at 1051 (by decide +kernel) (by decide +kernel), (g_at 38 (by decide +kernel) (by decide +kernel)), by decide, ⟨by decide, by decide⟩, by decide +kernel, by decide⟩
set_option maxRecDepth 20000 in
theorem mi_X6_pictureOf : Cond.instanceMethod yX6_pictureOf ∈ g_ws := (g_at 1050 (by decide +kernel) (by decide +kernel))
set_option maxRecDepth 20000 in
theorem me_X6_pictureOf : Cond.selects RX6 yX6_pictureOf yX6_pictureOf ∈ g_ws := (g_at 17 (by decide +kernel) (by decide +kernel))
set_option maxRecDepth 20000 in
theorem mt_X6_229 : mt_ok RX6 229 yX6_pictureOf cX6_pictureOf 2 (some (.object "VeneerLoft$Picture")) 1 := ⟨(g_at 1048 (by decide +kernel) (by decide +kernel)), md_X6_pictureOf⟩
set_option maxRecDepth 20000 in
theorem md_X6_isPlace : md_ok yX6_isPlace cX6_isPlace 2 (some .boolean) 2 := ⟨g_at 1054 (by decide +kernel) (by decide +kernel), (g_at 38 (by decide +kernel) (by decide +kernel)), by decide, ⟨by decide, by decide⟩, by decide +kernel, by decide⟩
set_option maxRecDepth 20000 in
theorem ms_X6_isPlace : Cond.static yX6_isPlace ∈ g_ws := (g_at 1053 (by decide +kernel) (by decide +kernel))
set_option maxRecDepth 20000 in
theorem mt_X6_233 : mt_ok RX6 233 yX6_isPlace cX6_isPlace 2 (some .boolean) 2 := ⟨(g_at 1052 (by decide +kernel) (by decide +kernel)), md_X6_isPlace⟩
set_option maxRecDepth 20000 in
theorem md_X6_isField : md_ok yX6_isField cX6_isField 1 (some .boolean) 1 := ⟨g_at 1057 (by decide +kernel) (by decide +kernel), (g_at 38 (by decide +kernel) (by decide +kernel)), by decide, ⟨by decide, by decide⟩, by decide +kernel, by decide⟩
set_option maxRecDepth 20000 in
theorem ms_X6_isField : Cond.static yX6_isField ∈ g_ws := (g_at 1056 (by decide +kernel) (by decide +kernel))
set_option maxRecDepth 20000 in
theorem mt_X6_237 : mt_ok RX6 237 yX6_isField cX6_isField 1 (some .boolean) 1 := ⟨(g_at 1055 (by decide +kernel) (by decide +kernel)), md_X6_isField⟩
set_option maxRecDepth 20000 in
theorem md_X5_paint : md_ok yX5_paint cX5_paint 7 ((none : Option Jvm.ClassFile.FieldType)) 4 := ⟨g_at 1061 (by decide +kernel) (by decide +kernel), (g_at 75 (by decide +kernel) (by decide +kernel)), by decide, ⟨by decide, by decide⟩, by decide +kernel, by decide⟩
set_option maxRecDepth 20000 in
theorem mi_X5_paint : Cond.instanceMethod yX5_paint ∈ g_ws := (g_at 1059 (by decide +kernel) (by decide +kernel))
set_option maxRecDepth 20000 in
theorem me_X5_paint : Cond.selects RX5 yX5_paint yX5_paint ∈ g_ws := (g_at 1060 (by decide +kernel) (by decide +kernel))
set_option maxRecDepth 20000 in
theorem mt_X6_244 : mt_ok RX6 244 yX5_paint cX5_paint 7 ((none : Option Jvm.ClassFile.FieldType)) 4 := ⟨(g_at 1058 (by decide +kernel) (by decide +kernel)), md_X5_paint⟩
set_option maxRecDepth 20000 in
theorem fl_X5_9 : fl_ok RX5 9 9 0 := ⟨_, rfl, by decide, Or.inl (g_at 1013 (by decide +kernel) (by decide +kernel))⟩
set_option maxRecDepth 20000 in
theorem md_X5_countPieces : md_ok yX5_countPieces cX5_countPieces 3 ((none : Option Jvm.ClassFile.FieldType)) 0 := ⟨g_at 1065 (by decide +kernel) (by decide +kernel), (g_at 75 (by decide +kernel) (by decide +kernel)), by decide, ⟨by decide, by decide⟩, by decide +kernel, by decide⟩
set_option maxRecDepth 20000 in
theorem mi_X5_countPieces : Cond.instanceMethod yX5_countPieces ∈ g_ws := (g_at 1064 (by decide +kernel) (by decide +kernel))
set_option maxRecDepth 20000 in
theorem me_X5_countPieces : Cond.selects RX5 yX5_countPieces yX5_countPieces ∈ g_ws := (g_at 18 (by decide +kernel) (by decide +kernel))
set_option maxRecDepth 20000 in
theorem mt_X5_32 : mt_ok RX5 32 yX5_countPieces cX5_countPieces 3 ((none : Option Jvm.ClassFile.FieldType)) 0 := ⟨(g_at 1062 (by decide +kernel) (by decide +kernel)), md_X5_countPieces⟩
set_option maxRecDepth 20000 in
theorem fl_X5_18 : fl_ok RX5 18 9 2 := ⟨_, rfl, by decide, Or.inl (g_at 1015 (by decide +kernel) (by decide +kernel))⟩
set_option maxRecDepth 20000 in
theorem pf_X5_countPieces_25 : pf_ok yX5_countPieces 25 9 5 := ⟨_, rfl, by decide, Or.inl ⟨rfl, Or.inl (g_at 1018 (by decide +kernel) (by decide +kernel))⟩⟩
set_option maxRecDepth 20000 in
theorem pf_X5_countPieces_35 : pf_ok yX5_countPieces 35 9 6 := ⟨_, rfl, by decide, Or.inl ⟨rfl, Or.inl (g_at 1020 (by decide +kernel) (by decide +kernel))⟩⟩
set_option maxRecDepth 20000 in
theorem pf_X5_countPieces_29 : pf_ok yX5_countPieces 29 9 7 := ⟨_, rfl, by decide, Or.inl ⟨rfl, Or.inl (g_at 1022 (by decide +kernel) (by decide +kernel))⟩⟩
set_option maxRecDepth 20000 in
theorem fl_X5_25 : fl_ok RX5 25 9 5 := ⟨_, rfl, by decide, Or.inl (g_at 1018 (by decide +kernel) (by decide +kernel))⟩
set_option maxRecDepth 20000 in
theorem md_X5_gatherPiece : md_ok yX5_gatherPiece cX5_gatherPiece 6 (some .int) 1 := ⟨g_at 1069 (by decide +kernel) (by decide +kernel), (g_at 75 (by decide +kernel) (by decide +kernel)), by decide, ⟨by decide, by decide⟩, by decide +kernel, by decide⟩
set_option maxRecDepth 20000 in
theorem mi_X5_gatherPiece : Cond.instanceMethod yX5_gatherPiece ∈ g_ws := (g_at 1068 (by decide +kernel) (by decide +kernel))
set_option maxRecDepth 20000 in
theorem me_X5_gatherPiece : Cond.selects RX5 yX5_gatherPiece yX5_gatherPiece ∈ g_ws := (g_at 19 (by decide +kernel) (by decide +kernel))
set_option maxRecDepth 20000 in
theorem mt_X5_38 : mt_ok RX5 38 yX5_gatherPiece cX5_gatherPiece 6 (some .int) 1 := ⟨(g_at 1066 (by decide +kernel) (by decide +kernel)), md_X5_gatherPiece⟩
set_option maxRecDepth 20000 in
theorem fl_X5_29 : fl_ok RX5 29 9 7 := ⟨_, rfl, by decide, Or.inl (g_at 1022 (by decide +kernel) (by decide +kernel))⟩
set_option maxRecDepth 20000 in
theorem fl_X5_35 : fl_ok RX5 35 9 6 := ⟨_, rfl, by decide, Or.inl (g_at 1020 (by decide +kernel) (by decide +kernel))⟩
set_option maxRecDepth 20000 in
theorem md_X5_isIsland : md_ok yX5_isIsland cX5_isIsland 8 (some .boolean) 1 := ⟨g_at 1084 (by decide +kernel) (by decide +kernel), (g_at 75 (by decide +kernel) (by decide +kernel)), by decide, ⟨by decide, by decide⟩, by decide +kernel, by decide⟩
set_option maxRecDepth 20000 in
theorem mi_X5_isIsland : Cond.instanceMethod yX5_isIsland ∈ g_ws := (g_at 1083 (by decide +kernel) (by decide +kernel))
set_option maxRecDepth 20000 in
theorem me_X5_isIsland : Cond.selects RX5 yX5_isIsland yX5_isIsland ∈ g_ws := (g_at 21 (by decide +kernel) (by decide +kernel))
set_option maxRecDepth 20000 in
theorem mt_X5_42 : mt_ok RX5 42 yX5_isIsland cX5_isIsland 8 (some .boolean) 1 := ⟨(g_at 1081 (by decide +kernel) (by decide +kernel)), md_X5_isIsland⟩
set_option maxRecDepth 20000 in
theorem md_X5_enqueue : md_ok yX5_enqueue cX5_enqueue 4 (some .int) 2 := ⟨g_at 1073 (by decide +kernel) (by decide +kernel), (g_at 75 (by decide +kernel) (by decide +kernel)), by decide, ⟨by decide, by decide⟩, by decide +kernel, by decide⟩
set_option maxRecDepth 20000 in
theorem mi_X5_enqueue : Cond.instanceMethod yX5_enqueue ∈ g_ws := (g_at 1072 (by decide +kernel) (by decide +kernel))
set_option maxRecDepth 20000 in
theorem me_X5_enqueue : Cond.selects RX5 yX5_enqueue yX5_enqueue ∈ g_ws := (g_at 20 (by decide +kernel) (by decide +kernel))
set_option maxRecDepth 20000 in
theorem mt_X5_46 : mt_ok RX5 46 yX5_enqueue cX5_enqueue 4 (some .int) 2 := ⟨(g_at 1070 (by decide +kernel) (by decide +kernel)), md_X5_enqueue⟩
set_option maxRecDepth 20000 in
theorem fl_X5_22 : fl_ok RX5 22 9 3 := ⟨_, rfl, by decide, Or.inl (g_at 1016 (by decide +kernel) (by decide +kernel))⟩
set_option maxRecDepth 20000 in
theorem md_X6_neighbour : md_ok yX6_neighbour cX6_neighbour 4 (some .int) 2 := ⟨g_at 1076 (by decide +kernel) (by decide +kernel), (g_at 38 (by decide +kernel) (by decide +kernel)), by decide, ⟨by decide, by decide⟩, by decide +kernel, by decide⟩
set_option maxRecDepth 20000 in
theorem ms_X6_neighbour : Cond.static yX6_neighbour ∈ g_ws := (g_at 1075 (by decide +kernel) (by decide +kernel))
set_option maxRecDepth 20000 in
theorem mn_X5_50 : Cond.methodLinkNest RX5 50 yX6_neighbour "VeneerLoft" ∈ g_nw := (g_an 1074 (by decide +kernel) (by decide +kernel))
set_option maxRecDepth 20000 in
theorem md_X5_fieldOf : md_ok yX5_fieldOf cX5_fieldOf 2 (some .int) 1 := ⟨g_at 1080 (by decide +kernel) (by decide +kernel), (g_at 75 (by decide +kernel) (by decide +kernel)), by decide, ⟨by decide, by decide⟩, by decide +kernel, by decide⟩
set_option maxRecDepth 20000 in
theorem mi_X5_fieldOf : Cond.instanceMethod yX5_fieldOf ∈ g_ws := (g_at 1078 (by decide +kernel) (by decide +kernel))
set_option maxRecDepth 20000 in
theorem me_X5_fieldOf : Cond.selects RX5 yX5_fieldOf yX5_fieldOf ∈ g_ws := (g_at 1079 (by decide +kernel) (by decide +kernel))
set_option maxRecDepth 20000 in
theorem mt_X5_53 : mt_ok RX5 53 yX5_fieldOf cX5_fieldOf 2 (some .int) 1 := ⟨(g_at 1077 (by decide +kernel) (by decide +kernel)), md_X5_fieldOf⟩
set_option maxRecDepth 20000 in
theorem md_X6_fieldAt : md_ok yX6_fieldAt cX6_fieldAt 4 (some .char) 3 := ⟨g_at 1091 (by decide +kernel) (by decide +kernel), (g_at 38 (by decide +kernel) (by decide +kernel)), by decide, ⟨by decide, by decide⟩, by decide +kernel, by decide⟩
set_option maxRecDepth 20000 in
theorem mi_X6_fieldAt : Cond.instanceMethod yX6_fieldAt ∈ g_ws := (g_at 1089 (by decide +kernel) (by decide +kernel))
set_option maxRecDepth 20000 in
theorem me_X6_fieldAt : Cond.selects RX6 yX6_fieldAt yX6_fieldAt ∈ g_ws := (g_at 1090 (by decide +kernel) (by decide +kernel))
set_option maxRecDepth 20000 in
theorem mt_L_102 : mt_ok RL 102 yX6_fieldAt cX6_fieldAt 4 (some .char) 3 := ⟨(g_at 1088 (by decide +kernel) (by decide +kernel)), md_X6_fieldAt⟩
set_option maxRecDepth 20000 in
theorem md_X6_pictureWithPlace : md_ok yX6_pictureWithPlace cX6_pictureWithPlace 5 (some (.object "VeneerLoft$Picture")) 3 := ⟨g_at 1095 (by decide +kernel) (by decide +kernel), (g_at 38 (by decide +kernel) (by decide +kernel)), by decide, ⟨by decide, by decide⟩, by decide +kernel, by decide⟩
set_option maxRecDepth 20000 in
theorem mi_X6_pictureWithPlace : Cond.instanceMethod yX6_pictureWithPlace ∈ g_ws := (g_at 1094 (by decide +kernel) (by decide +kernel))
set_option maxRecDepth 20000 in
theorem me_X6_pictureWithPlace : Cond.selects RX6 yX6_pictureWithPlace yX6_pictureWithPlace ∈ g_ws := (g_at 22 (by decide +kernel) (by decide +kernel))
set_option maxRecDepth 20000 in
theorem mt_X6_251 : mt_ok RX6 251 yX6_pictureWithPlace cX6_pictureWithPlace 5 (some (.object "VeneerLoft$Picture")) 3 := ⟨(g_at 1092 (by decide +kernel) (by decide +kernel)), md_X6_pictureWithPlace⟩
set_option maxRecDepth 20000 in
theorem mt_X6_255 : mt_ok RX6 255 yX5_fieldOf cX5_fieldOf 2 (some .int) 1 := ⟨(g_at 1096 (by decide +kernel) (by decide +kernel)), md_X5_fieldOf⟩
set_option maxRecDepth 20000 in
theorem md_X6_pieces : md_ok yX6_pieces cX6_pieces 2 (some .int) 1 := ⟨g_at 1103 (by decide +kernel) (by decide +kernel), (g_at 38 (by decide +kernel) (by decide +kernel)), by decide, ⟨by decide, by decide⟩, by decide +kernel, by decide⟩
set_option maxRecDepth 20000 in
theorem mi_X6_pieces : Cond.instanceMethod yX6_pieces ∈ g_ws := (g_at 1101 (by decide +kernel) (by decide +kernel))
set_option maxRecDepth 20000 in
theorem me_X6_pieces : Cond.selects RX6 yX6_pieces yX6_pieces ∈ g_ws := (g_at 1102 (by decide +kernel) (by decide +kernel))
set_option maxRecDepth 20000 in
theorem mt_L_106 : mt_ok RL 106 yX6_pieces cX6_pieces 2 (some .int) 1 := ⟨(g_at 1100 (by decide +kernel) (by decide +kernel)), md_X6_pieces⟩
set_option maxRecDepth 20000 in
theorem md_X6_islands : md_ok yX6_islands cX6_islands 2 (some .int) 1 := ⟨g_at 1110 (by decide +kernel) (by decide +kernel), (g_at 38 (by decide +kernel) (by decide +kernel)), by decide, ⟨by decide, by decide⟩, by decide +kernel, by decide⟩
set_option maxRecDepth 20000 in
theorem mi_X6_islands : Cond.instanceMethod yX6_islands ∈ g_ws := (g_at 1108 (by decide +kernel) (by decide +kernel))
set_option maxRecDepth 20000 in
theorem me_X6_islands : Cond.selects RX6 yX6_islands yX6_islands ∈ g_ws := (g_at 1109 (by decide +kernel) (by decide +kernel))
set_option maxRecDepth 20000 in
theorem mt_L_109 : mt_ok RL 109 yX6_islands cX6_islands 2 (some .int) 1 := ⟨(g_at 1107 (by decide +kernel) (by decide +kernel)), md_X6_islands⟩
set_option maxRecDepth 20000 in
theorem fl_X6_258 : fl_ok RX6 258 9 6 := ⟨_, rfl, by decide, Or.inl (g_at 1021 (by decide +kernel) (by decide +kernel))⟩
set_option maxRecDepth 20000 in
theorem md_X6_saw : md_ok yX6_saw cX6_saw 9 (some .int) 4 := ⟨g_at 1117 (by decide +kernel) (by decide +kernel), (g_at 38 (by decide +kernel) (by decide +kernel)), by decide, ⟨by decide, by decide⟩, by decide +kernel, by decide⟩
set_option maxRecDepth 20000 in
theorem mi_X6_saw : Cond.instanceMethod yX6_saw ∈ g_ws := (g_at 1115 (by decide +kernel) (by decide +kernel))
set_option maxRecDepth 20000 in
theorem me_X6_saw : Cond.selects RX6 yX6_saw yX6_saw ∈ g_ws := (g_at 1116 (by decide +kernel) (by decide +kernel))
set_option maxRecDepth 20000 in
theorem mt_L_112 : mt_ok RL 112 yX6_saw cX6_saw 9 (some .int) 4 := ⟨(g_at 1114 (by decide +kernel) (by decide +kernel)), md_X6_saw⟩
set_option maxRecDepth 20000 in
theorem pf_X6_saw_241 : pf_ok yX6_saw 241 9 4 := ⟨_, rfl, by decide, Or.inl ⟨rfl, Or.inl (g_at 1017 (by decide +kernel) (by decide +kernel))⟩⟩
set_option maxRecDepth 20000 in
theorem pf_X6_saw_267 : pf_ok yX6_saw 267 10 8 := ⟨_, rfl, by decide, Or.inl ⟨rfl, Or.inl (g_at 123 (by decide +kernel) (by decide +kernel))⟩⟩
set_option maxRecDepth 20000 in
theorem pf_X6_saw_270 : pf_ok yX6_saw 270 10 10 := ⟨_, rfl, by decide, Or.inl ⟨rfl, Or.inl (g_at 125 (by decide +kernel) (by decide +kernel))⟩⟩
set_option maxRecDepth 20000 in
theorem md_X6_leafAt : md_ok yX6_leafAt cX6_leafAt 7 (some .int) 4 := ⟨g_at 1124 (by decide +kernel) (by decide +kernel), (g_at 38 (by decide +kernel) (by decide +kernel)), by decide, ⟨by decide, by decide⟩, by decide +kernel, by decide⟩
set_option maxRecDepth 20000 in
theorem mi_X6_leafAt : Cond.instanceMethod yX6_leafAt ∈ g_ws := (g_at 1122 (by decide +kernel) (by decide +kernel))
set_option maxRecDepth 20000 in
theorem me_X6_leafAt : Cond.selects RX6 yX6_leafAt yX6_leafAt ∈ g_ws := (g_at 1123 (by decide +kernel) (by decide +kernel))
set_option maxRecDepth 20000 in
theorem mt_L_115 : mt_ok RL 115 yX6_leafAt cX6_leafAt 7 (some .int) 4 := ⟨(g_at 1121 (by decide +kernel) (by decide +kernel)), md_X6_leafAt⟩
set_option maxRecDepth 20000 in
theorem md_X6_packetWithCopy : md_ok yX6_packetWithCopy cX6_packetWithCopy 3 (some (.object "VeneerLoft$Packet")) 2 := ⟨g_at 1127 (by decide +kernel) (by decide +kernel), (g_at 38 (by decide +kernel) (by decide +kernel)), by decide, ⟨by decide, by decide⟩, by decide +kernel, by decide⟩
set_option maxRecDepth 20000 in
theorem ms_X6_packetWithCopy : Cond.static yX6_packetWithCopy ∈ g_ws := (g_at 1126 (by decide +kernel) (by decide +kernel))
set_option maxRecDepth 20000 in
theorem mt_X6_273 : mt_ok RX6 273 yX6_packetWithCopy cX6_packetWithCopy 3 (some (.object "VeneerLoft$Packet")) 2 := ⟨(g_at 1125 (by decide +kernel) (by decide +kernel)), md_X6_packetWithCopy⟩
set_option maxRecDepth 20000 in
theorem md_X3_leafFor : md_ok yX3_leafFor cX3_leafFor 3 (some .int) 2 := ⟨g_at 1131 (by decide +kernel) (by decide +kernel), (g_at 70 (by decide +kernel) (by decide +kernel)), by decide, ⟨by decide, by decide⟩, by decide +kernel, by decide⟩
set_option maxRecDepth 20000 in
theorem mi_X3_leafFor : Cond.instanceMethod yX3_leafFor ∈ g_ws := (g_at 1129 (by decide +kernel) (by decide +kernel))
set_option maxRecDepth 20000 in
theorem me_X3_leafFor : Cond.selects RX3 yX3_leafFor yX3_leafFor ∈ g_ws := (g_at 1130 (by decide +kernel) (by decide +kernel))
set_option maxRecDepth 20000 in
theorem mt_X6_277 : mt_ok RX6 277 yX3_leafFor cX3_leafFor 3 (some .int) 2 := ⟨(g_at 1128 (by decide +kernel) (by decide +kernel)), md_X3_leafFor⟩
set_option maxRecDepth 20000 in
theorem md_X6_contrast : md_ok yX6_contrast cX6_contrast 7 (some .int) 2 := ⟨g_at 1138 (by decide +kernel) (by decide +kernel), (g_at 38 (by decide +kernel) (by decide +kernel)), by decide, ⟨by decide, by decide⟩, by decide +kernel, by decide⟩
set_option maxRecDepth 20000 in
theorem mi_X6_contrast : Cond.instanceMethod yX6_contrast ∈ g_ws := (g_at 1136 (by decide +kernel) (by decide +kernel))
set_option maxRecDepth 20000 in
theorem me_X6_contrast : Cond.selects RX6 yX6_contrast yX6_contrast ∈ g_ws := (g_at 1137 (by decide +kernel) (by decide +kernel))
set_option maxRecDepth 20000 in
theorem mt_L_118 : mt_ok RL 118 yX6_contrast cX6_contrast 7 (some .int) 2 := ⟨(g_at 1135 (by decide +kernel) (by decide +kernel)), md_X6_contrast⟩
set_option maxRecDepth 20000 in
theorem mt_X6_280 : mt_ok RX6 280 yX6_neighbour cX6_neighbour 4 (some .int) 2 := ⟨(g_at 1139 (by decide +kernel) (by decide +kernel)), md_X6_neighbour⟩
set_option maxRecDepth 20000 in
theorem md_X6_edgeContrast : md_ok yX6_edgeContrast cX6_edgeContrast 7 (some .int) 5 := ⟨g_at 1142 (by decide +kernel) (by decide +kernel), (g_at 38 (by decide +kernel) (by decide +kernel)), by decide, ⟨by decide, by decide⟩, by decide +kernel, by decide⟩
set_option maxRecDepth 20000 in
theorem ms_X6_edgeContrast : Cond.static yX6_edgeContrast ∈ g_ws := (g_at 1141 (by decide +kernel) (by decide +kernel))
set_option maxRecDepth 20000 in
theorem mt_X6_283 : mt_ok RX6 283 yX6_edgeContrast cX6_edgeContrast 7 (some .int) 5 := ⟨(g_at 1140 (by decide +kernel) (by decide +kernel)), md_X6_edgeContrast⟩
set_option maxRecDepth 20000 in
theorem md_X6_sand : md_ok yX6_sand cX6_sand 6 (some .int) 4 := ⟨g_at 1149 (by decide +kernel) (by decide +kernel), (g_at 38 (by decide +kernel) (by decide +kernel)), by decide, ⟨by decide, by decide⟩, by decide +kernel, by decide⟩
set_option maxRecDepth 20000 in
theorem mi_X6_sand : Cond.instanceMethod yX6_sand ∈ g_ws := (g_at 1147 (by decide +kernel) (by decide +kernel))
set_option maxRecDepth 20000 in
theorem me_X6_sand : Cond.selects RX6 yX6_sand yX6_sand ∈ g_ws := (g_at 1148 (by decide +kernel) (by decide +kernel))
set_option maxRecDepth 20000 in
theorem mt_L_121 : mt_ok RL 121 yX6_sand cX6_sand 6 (some .int) 4 := ⟨(g_at 1146 (by decide +kernel) (by decide +kernel)), md_X6_sand⟩
set_option maxRecDepth 20000 in
theorem md_X5_darken : md_ok yX5_darken cX5_darken 3 (some .int) 2 := ⟨g_at 1153 (by decide +kernel) (by decide +kernel), (g_at 75 (by decide +kernel) (by decide +kernel)), by decide, ⟨by decide, by decide⟩, by decide +kernel, by decide⟩
set_option maxRecDepth 20000 in
theorem mi_X5_darken : Cond.instanceMethod yX5_darken ∈ g_ws := (g_at 1151 (by decide +kernel) (by decide +kernel))
set_option maxRecDepth 20000 in
theorem me_X5_darken : Cond.selects RX5 yX5_darken yX5_darken ∈ g_ws := (g_at 1152 (by decide +kernel) (by decide +kernel))
set_option maxRecDepth 20000 in
theorem mt_X6_287 : mt_ok RX6 287 yX5_darken cX5_darken 3 (some .int) 2 := ⟨(g_at 1150 (by decide +kernel) (by decide +kernel)), md_X5_darken⟩
set_option maxRecDepth 20000 in
theorem fl_X5_15 : fl_ok RX5 15 9 1 := ⟨_, rfl, by decide, Or.inl (g_at 1014 (by decide +kernel) (by decide +kernel))⟩
set_option maxRecDepth 20000 in
theorem ma_X5_56 : Cond.methodLink RX5 56 Lib.Math.min.name ∈ g_ws := (g_at 1154 (by decide +kernel) (by decide +kernel))
set_option maxRecDepth 20000 in
theorem md_X6_burnt : md_ok yX6_burnt cX6_burnt 2 (some .int) 1 := ⟨g_at 1161 (by decide +kernel) (by decide +kernel), (g_at 38 (by decide +kernel) (by decide +kernel)), by decide, ⟨by decide, by decide⟩, by decide +kernel, by decide⟩
set_option maxRecDepth 20000 in
theorem mi_X6_burnt : Cond.instanceMethod yX6_burnt ∈ g_ws := (g_at 1159 (by decide +kernel) (by decide +kernel))
set_option maxRecDepth 20000 in
theorem me_X6_burnt : Cond.selects RX6 yX6_burnt yX6_burnt ∈ g_ws := (g_at 1160 (by decide +kernel) (by decide +kernel))
set_option maxRecDepth 20000 in
theorem mt_L_125 : mt_ok RL 125 yX6_burnt cX6_burnt 2 (some .int) 1 := ⟨(g_at 1158 (by decide +kernel) (by decide +kernel)), md_X6_burnt⟩
set_option maxRecDepth 20000 in
theorem md_X5_countBurnt : md_ok yX5_countBurnt cX5_countBurnt 3 (some .int) 0 := ⟨g_at 1165 (by decide +kernel) (by decide +kernel), (g_at 75 (by decide +kernel) (by decide +kernel)), by decide, ⟨by decide, by decide⟩, by decide +kernel, by decide⟩
set_option maxRecDepth 20000 in
theorem mi_X5_countBurnt : Cond.instanceMethod yX5_countBurnt ∈ g_ws := (g_at 1163 (by decide +kernel) (by decide +kernel))
set_option maxRecDepth 20000 in
theorem me_X5_countBurnt : Cond.selects RX5 yX5_countBurnt yX5_countBurnt ∈ g_ws := (g_at 1164 (by decide +kernel) (by decide +kernel))
set_option maxRecDepth 20000 in
theorem mt_X6_290 : mt_ok RX6 290 yX5_countBurnt cX5_countBurnt 3 (some .int) 0 := ⟨(g_at 1162 (by decide +kernel) (by decide +kernel)), md_X5_countBurnt⟩
set_option maxRecDepth 20000 in
theorem md_X6_gap : md_ok yX6_gap cX6_gap 5 (some .int) 3 := ⟨g_at 1172 (by decide +kernel) (by decide +kernel), (g_at 38 (by decide +kernel) (by decide +kernel)), by decide, ⟨by decide, by decide⟩, by decide +kernel, by decide⟩
set_option maxRecDepth 20000 in
theorem mi_X6_gap : Cond.instanceMethod yX6_gap ∈ g_ws := (g_at 1170 (by decide +kernel) (by decide +kernel))
set_option maxRecDepth 20000 in
theorem me_X6_gap : Cond.selects RX6 yX6_gap yX6_gap ∈ g_ws := (g_at 1171 (by decide +kernel) (by decide +kernel))
set_option maxRecDepth 20000 in
theorem mt_L_128 : mt_ok RL 128 yX6_gap cX6_gap 5 (some .int) 3 := ⟨(g_at 1169 (by decide +kernel) (by decide +kernel)), md_X6_gap⟩
set_option maxRecDepth 20000 in
theorem gs_X6_293 : Cond.fieldLink RX6 293 "VeneerLoft" "TANGENTS" "[I" ∈ g_ws := (g_at 1173 (by decide +kernel) (by decide +kernel))
set_option maxRecDepth 20000 in
theorem md_X6_takeOffcut : md_ok yX6_takeOffcut cX6_takeOffcut 8 (some .int) 2 := ⟨g_at 1181 (by decide +kernel) (by decide +kernel), (g_at 38 (by decide +kernel) (by decide +kernel)), by decide, ⟨by decide, by decide⟩, by decide +kernel, by decide⟩
set_option maxRecDepth 20000 in
theorem mi_X6_takeOffcut : Cond.instanceMethod yX6_takeOffcut ∈ g_ws := (g_at 1179 (by decide +kernel) (by decide +kernel))
set_option maxRecDepth 20000 in
theorem me_X6_takeOffcut : Cond.selects RX6 yX6_takeOffcut yX6_takeOffcut ∈ g_ws := (g_at 1180 (by decide +kernel) (by decide +kernel))
set_option maxRecDepth 20000 in
theorem mt_L_132 : mt_ok RL 132 yX6_takeOffcut cX6_takeOffcut 8 (some .int) 2 := ⟨(g_at 1178 (by decide +kernel) (by decide +kernel)), md_X6_takeOffcut⟩
set_option maxRecDepth 20000 in
theorem fl_X6_301 : fl_ok RX6 301 6 1 := ⟨_, rfl, by decide, Or.inl (g_at 855 (by decide +kernel) (by decide +kernel))⟩
set_option maxRecDepth 20000 in
theorem md_X2_isSmallerThan : md_ok yX2_isSmallerThan cX2_isSmallerThan 2 (some .boolean) 1 := ⟨g_at 1185 (by decide +kernel) (by decide +kernel), (g_at 71 (by decide +kernel) (by decide +kernel)), by decide, ⟨by decide, by decide⟩, by decide +kernel, by decide⟩
set_option maxRecDepth 20000 in
theorem mi_X2_isSmallerThan : Cond.instanceMethod yX2_isSmallerThan ∈ g_ws := (g_at 1183 (by decide +kernel) (by decide +kernel))
set_option maxRecDepth 20000 in
theorem me_X2_isSmallerThan : Cond.selects RX2 yX2_isSmallerThan yX2_isSmallerThan ∈ g_ws := (g_at 1184 (by decide +kernel) (by decide +kernel))
set_option maxRecDepth 20000 in
theorem mt_X6_304 : mt_ok RX6 304 yX2_isSmallerThan cX2_isSmallerThan 2 (some .boolean) 1 := ⟨(g_at 1182 (by decide +kernel) (by decide +kernel)), md_X2_isSmallerThan⟩
set_option maxRecDepth 20000 in
theorem md_Jx4a65c_remove_915e3 : md_ok yJx4a65c_remove_915e3 cJx4a65c_remove_915e3 4 (some (.object "java/lang/Object")) 1 := ⟨g_at 1189 (by decide +kernel) (by decide +kernel), (g_at 41 (by decide +kernel) (by decide +kernel)), by decide, ⟨by decide, by decide⟩, by decide +kernel, by decide⟩
set_option maxRecDepth 20000 in
theorem mi_Jx4a65c_remove_915e3 : Cond.instanceMethod yJx4a65c_remove_915e3 ∈ g_ws := (g_at 1187 (by decide +kernel) (by decide +kernel))
set_option maxRecDepth 20000 in
theorem me_Jx4a65c_remove_915e3 : Cond.selects RJx4a65c yJx4a65c_remove_915e3 yJx4a65c_remove_915e3 ∈ g_ws := (g_at 1188 (by decide +kernel) (by decide +kernel))
set_option maxRecDepth 20000 in
theorem mt_X6_308 : mt_ok RX6 308 yJx4a65c_remove_915e3 cJx4a65c_remove_915e3 4 (some (.object "java/lang/Object")) 1 := ⟨(g_at 1186 (by decide +kernel) (by decide +kernel)), md_Jx4a65c_remove_915e3⟩
set_option maxRecDepth 20000 in
theorem pf_X6_takeOffcut_311 : pf_ok yX6_takeOffcut 311 10 9 := ⟨_, rfl, by decide, Or.inl ⟨rfl, Or.inl (g_at 124 (by decide +kernel) (by decide +kernel))⟩⟩
set_option maxRecDepth 20000 in
theorem md_Jx4a65c_fastRemove_b59b0 : md_ok yJx4a65c_fastRemove_b59b0 cJx4a65c_fastRemove_b59b0 4 ((none : Option Jvm.ClassFile.FieldType)) 2 := ⟨g_at 1193 (by decide +kernel) (by decide +kernel), (g_at 41 (by decide +kernel) (by decide +kernel)), by decide, ⟨by decide, by decide⟩, by decide +kernel, by decide⟩
set_option maxRecDepth 20000 in
theorem mi_Jx4a65c_fastRemove_b59b0 : Cond.instanceMethod yJx4a65c_fastRemove_b59b0 ∈ g_ws := (g_at 1192 (by decide +kernel) (by decide +kernel))
set_option maxRecDepth 20000 in
theorem me_Jx4a65c_fastRemove_b59b0 : Cond.selects RJx4a65c yJx4a65c_fastRemove_b59b0 yJx4a65c_fastRemove_b59b0 ∈ g_ws := (g_at 23 (by decide +kernel) (by decide +kernel))
set_option maxRecDepth 20000 in
theorem mt_Jx4a65c_144 : mt_ok RJx4a65c 144 yJx4a65c_fastRemove_b59b0 cJx4a65c_fastRemove_b59b0 4 ((none : Option Jvm.ClassFile.FieldType)) 2 := ⟨(g_at 1190 (by decide +kernel) (by decide +kernel)), md_Jx4a65c_fastRemove_b59b0⟩
set_option maxRecDepth 20000 in
theorem pf_Jx4a65c_fastRemove_b59b0_63 : pf_ok yJx4a65c_fastRemove_b59b0 63 3 0 := ⟨_, rfl, by decide, Or.inl ⟨rfl, Or.inr (Or.inr ⟨"java/util/ArrayList", (g_at 107 (by decide +kernel) (by decide +kernel)), (g_at 106 (by decide +kernel) (by decide +kernel))⟩)⟩⟩
set_option maxRecDepth 20000 in
theorem pf_Jx4a65c_fastRemove_b59b0_48 : pf_ok yJx4a65c_fastRemove_b59b0 48 3 2 := ⟨_, rfl, by decide, Or.inl ⟨rfl, Or.inl (g_at 103 (by decide +kernel) (by decide +kernel))⟩⟩
set_option maxRecDepth 20000 in
theorem md_X6_account : md_ok yX6_account cX6_account 2 (some .int) 1 := ⟨g_at 1201 (by decide +kernel) (by decide +kernel), (g_at 38 (by decide +kernel) (by decide +kernel)), by decide, ⟨by decide, by decide⟩, by decide +kernel, by decide⟩
set_option maxRecDepth 20000 in
theorem mi_X6_account : Cond.instanceMethod yX6_account ∈ g_ws := (g_at 1199 (by decide +kernel) (by decide +kernel))
set_option maxRecDepth 20000 in
theorem me_X6_account : Cond.selects RX6 yX6_account yX6_account ∈ g_ws := (g_at 1200 (by decide +kernel) (by decide +kernel))
set_option maxRecDepth 20000 in
theorem mt_L_135 : mt_ok RL 135 yX6_account cX6_account 2 (some .int) 1 := ⟨(g_at 1198 (by decide +kernel) (by decide +kernel)), md_X6_account⟩
set_option maxRecDepth 20000 in
theorem md_X6_price : md_ok yX6_price cX6_price 2 (some .int) 1 := ⟨g_at 1208 (by decide +kernel) (by decide +kernel), (g_at 38 (by decide +kernel) (by decide +kernel)), by decide, ⟨by decide, by decide⟩, by decide +kernel, by decide⟩
set_option maxRecDepth 20000 in
theorem mi_X6_price : Cond.instanceMethod yX6_price ∈ g_ws := (g_at 1206 (by decide +kernel) (by decide +kernel))
set_option maxRecDepth 20000 in
theorem me_X6_price : Cond.selects RX6 yX6_price yX6_price ∈ g_ws := (g_at 1207 (by decide +kernel) (by decide +kernel))
set_option maxRecDepth 20000 in
theorem mt_L_139 : mt_ok RL 139 yX6_price cX6_price 2 (some .int) 1 := ⟨(g_at 1205 (by decide +kernel) (by decide +kernel)), md_X6_price⟩
set_option maxRecDepth 20000 in
theorem md_X6_usedShare : md_ok yX6_usedShare cX6_usedShare 4 (some .float) 0 := ⟨g_at 1229 (by decide +kernel) (by decide +kernel), (g_at 38 (by decide +kernel) (by decide +kernel)), by decide, ⟨by decide, by decide⟩, by decide +kernel, by decide⟩
set_option maxRecDepth 20000 in
theorem mi_X6_usedShare : Cond.instanceMethod yX6_usedShare ∈ g_ws := (g_at 1227 (by decide +kernel) (by decide +kernel))
set_option maxRecDepth 20000 in
theorem me_X6_usedShare : Cond.selects RX6 yX6_usedShare yX6_usedShare ∈ g_ws := (g_at 1228 (by decide +kernel) (by decide +kernel))
set_option maxRecDepth 20000 in
theorem mt_L_142 : mt_ok RL 142 yX6_usedShare cX6_usedShare 4 (some .float) 0 := ⟨(g_at 1226 (by decide +kernel) (by decide +kernel)), md_X6_usedShare⟩
set_option maxRecDepth 20000 in
theorem cl_X6_327 : Cond.classLink RX6 327 "java/lang/ArithmeticException" ∈ g_ws := (g_at 1230 (by decide +kernel) (by decide +kernel))
set_option maxRecDepth 20000 in
theorem th_X6_327_329 : th_ok RX6 327 329 "java/lang/ArithmeticException" := ⟨by decide, cl_X6_327, (g_at 77 (by decide +kernel) (by decide +kernel)), by decide +kernel, by decide +kernel⟩
set_option maxRecDepth 20000 in
theorem md_X6_meanFigure : md_ok yX6_meanFigure cX6_meanFigure 6 (some .double) 0 := ⟨g_at 1241 (by decide +kernel) (by decide +kernel), (g_at 38 (by decide +kernel) (by decide +kernel)), by decide, ⟨by decide, by decide⟩, by decide +kernel, by decide⟩
set_option maxRecDepth 20000 in
theorem mi_X6_meanFigure : Cond.instanceMethod yX6_meanFigure ∈ g_ws := (g_at 1239 (by decide +kernel) (by decide +kernel))
set_option maxRecDepth 20000 in
theorem me_X6_meanFigure : Cond.selects RX6 yX6_meanFigure yX6_meanFigure ∈ g_ws := (g_at 1240 (by decide +kernel) (by decide +kernel))
set_option maxRecDepth 20000 in
theorem mt_L_148 : mt_ok RL 148 yX6_meanFigure cX6_meanFigure 6 (some .double) 0 := ⟨(g_at 1238 (by decide +kernel) (by decide +kernel)), md_X6_meanFigure⟩
set_option maxRecDepth 20000 in
theorem md_X12_init : md_ok yX12_init cX12_init 1 ((none : Option Jvm.ClassFile.FieldType)) 0 := ⟨g_at 1246 (by decide +kernel) (by decide +kernel), (g_at 42 (by decide +kernel) (by decide +kernel)), by decide, ⟨by decide, by decide⟩, by decide +kernel, by decide⟩
set_option maxRecDepth 20000 in
theorem mi_X12_init : Cond.instanceMethod yX12_init ∈ g_ws := (g_at 1245 (by decide +kernel) (by decide +kernel))
set_option maxRecDepth 20000 in
theorem oi_X12_1 : Cond.methodLink RX12 1 Lib.objectInit ∈ g_ws := (g_at 1247 (by decide +kernel) (by decide +kernel))
set_option maxRecDepth 20000 in
theorem cl_X12_7 : Cond.classLink RX12 7 "java/util/ArrayList" ∈ g_ws := (g_at 1248 (by decide +kernel) (by decide +kernel))
set_option maxRecDepth 20000 in
theorem nw_X12_7 : nw_ok RX12 7 3 3 := ⟨_, rfl, (g_at 1248 (by decide +kernel) (by decide +kernel)), (g_at 87 (by decide +kernel) (by decide +kernel)), (g_at 41 (by decide +kernel) (by decide +kernel))⟩
set_option maxRecDepth 20000 in
theorem mt_X12_9 : mt_ok RX12 9 yJx4a65c_init_da8c8 cJx4a65c_init_da8c8 1 ((none : Option Jvm.ClassFile.FieldType)) 0 := ⟨(g_at 1249 (by decide +kernel) (by decide +kernel)), md_Jx4a65c_init_da8c8⟩
set_option maxRecDepth 20000 in
theorem pf_X12_init_10 : pf_ok yX12_init 10 16 1 := ⟨_, rfl, by decide, Or.inr ⟨rfl, rfl, rfl, (g_at 1251 (by decide +kernel) (by decide +kernel))⟩⟩
set_option maxRecDepth 20000 in
theorem pf_X12_init_16 : pf_ok yX12_init 16 16 2 := ⟨_, rfl, by decide, Or.inr ⟨rfl, rfl, rfl, (g_at 1252 (by decide +kernel) (by decide +kernel))⟩⟩
set_option maxRecDepth 20000 in
theorem pf_X12_init_19 : pf_ok yX12_init 19 16 3 := ⟨_, rfl, by decide, Or.inr ⟨rfl, rfl, rfl, (g_at 1253 (by decide +kernel) (by decide +kernel))⟩⟩
set_option maxRecDepth 20000 in
theorem pf_X12_init_22 : pf_ok yX12_init 22 16 4 := ⟨_, rfl, by decide, Or.inr ⟨rfl, rfl, rfl, (g_at 1254 (by decide +kernel) (by decide +kernel))⟩⟩
set_option maxRecDepth 20000 in
theorem pf_X12_init_25 : pf_ok yX12_init 25 16 5 := ⟨_, rfl, by decide, Or.inr ⟨rfl, rfl, rfl, (g_at 1255 (by decide +kernel) (by decide +kernel))⟩⟩
set_option maxRecDepth 20000 in
theorem pf_X12_init_28 : pf_ok yX12_init 28 16 11 := ⟨_, rfl, by decide, Or.inl ⟨rfl, Or.inl (g_at 1261 (by decide +kernel) (by decide +kernel))⟩⟩
set_option maxRecDepth 20000 in
theorem pf_X12_init_32 : pf_ok yX12_init 32 16 12 := ⟨_, rfl, by decide, Or.inr ⟨rfl, rfl, rfl, (g_at 1262 (by decide +kernel) (by decide +kernel))⟩⟩
set_option maxRecDepth 20000 in
theorem md_X12_thrown : md_ok yX12_thrown cX12_thrown 1 (some .int) 0 := ⟨g_at 1293 (by decide +kernel) (by decide +kernel), (g_at 42 (by decide +kernel) (by decide +kernel)), by decide, ⟨by decide, by decide⟩, by decide +kernel, by decide⟩
set_option maxRecDepth 20000 in
theorem mi_X12_thrown : Cond.instanceMethod yX12_thrown ∈ g_ws := (g_at 1291 (by decide +kernel) (by decide +kernel))
set_option maxRecDepth 20000 in
theorem me_X12_thrown : Cond.selects RX12 yX12_thrown yX12_thrown ∈ g_ws := (g_at 1292 (by decide +kernel) (by decide +kernel))
set_option maxRecDepth 20000 in
theorem fl_X12_35 : fl_ok RX12 35 16 0 := ⟨_, rfl, by decide, Or.inl (g_at 1250 (by decide +kernel) (by decide +kernel))⟩
set_option maxRecDepth 20000 in
theorem md_X12_log : md_ok yX12_log cX12_log 5 (some .int) 4 := ⟨g_at 1297 (by decide +kernel) (by decide +kernel), (g_at 42 (by decide +kernel) (by decide +kernel)), by decide, ⟨by decide, by decide⟩, by decide +kernel, by decide⟩
set_option maxRecDepth 20000 in
theorem mi_X12_log : Cond.instanceMethod yX12_log ∈ g_ws := (g_at 1295 (by decide +kernel) (by decide +kernel))
set_option maxRecDepth 20000 in
theorem me_X12_log : Cond.selects RX12 yX12_log yX12_log ∈ g_ws := (g_at 1296 (by decide +kernel) (by decide +kernel))
set_option maxRecDepth 20000 in
theorem md_X12_begins : md_ok yX12_begins cX12_begins 1 ((none : Option Jvm.ClassFile.FieldType)) 0 := ⟨g_at 1301 (by decide +kernel) (by decide +kernel), (g_at 42 (by decide +kernel) (by decide +kernel)), by decide, ⟨by decide, by decide⟩, by decide +kernel, by decide⟩
set_option maxRecDepth 20000 in
theorem mi_X12_begins : Cond.instanceMethod yX12_begins ∈ g_ws := (g_at 1300 (by decide +kernel) (by decide +kernel))
set_option maxRecDepth 20000 in
theorem me_X12_begins : Cond.selects RX12 yX12_begins yX12_begins ∈ g_ws := (g_at 24 (by decide +kernel) (by decide +kernel))
set_option maxRecDepth 20000 in
theorem mt_X12_48 : mt_ok RX12 48 yX12_begins cX12_begins 1 ((none : Option Jvm.ClassFile.FieldType)) 0 := ⟨(g_at 1298 (by decide +kernel) (by decide +kernel)), md_X12_begins⟩
set_option maxRecDepth 20000 in
theorem mt_X12_53 : mt_ok RX12 53 yJ0_indexOf_0f7a4 cJ0_indexOf_0f7a4 2 (some .int) 1 := ⟨(g_at 1303 (by decide +kernel) (by decide +kernel)), md_J0_indexOf_0f7a4⟩
set_option maxRecDepth 20000 in
theorem cn_X12_59 : Cond.constantLong RX12 59 (100) ∈ g_ws := (g_at 1304 (by decide +kernel) (by decide +kernel))
set_option maxRecDepth 20000 in
theorem cn_X12_61 : Cond.constantLong RX12 61 (999) ∈ g_ws := (g_at 1305 (by decide +kernel) (by decide +kernel))
set_option maxRecDepth 20000 in
theorem md_X12_in : md_ok yX12_in cX12_in 6 (some .boolean) 3 := ⟨g_at 1308 (by decide +kernel) (by decide +kernel), (g_at 42 (by decide +kernel) (by decide +kernel)), by decide, ⟨by decide, by decide⟩, by decide +kernel, by decide⟩
set_option maxRecDepth 20000 in
theorem ms_X12_in : Cond.static yX12_in ∈ g_ws := (g_at 1307 (by decide +kernel) (by decide +kernel))
set_option maxRecDepth 20000 in
theorem mt_X12_44 : mt_ok RX12 44 yX12_in cX12_in 6 (some .boolean) 3 := ⟨(g_at 1306 (by decide +kernel) (by decide +kernel)), md_X12_in⟩
set_option maxRecDepth 20000 in
theorem cn_X12_63 : Cond.constantLong RX12 63 (40) ∈ g_ws := (g_at 1309 (by decide +kernel) (by decide +kernel))
set_option maxRecDepth 20000 in
theorem md_X12_fails : md_ok yX12_fails cX12_fails 3 (some .boolean) 2 := ⟨g_at 1314 (by decide +kernel) (by decide +kernel), (g_at 42 (by decide +kernel) (by decide +kernel)), by decide, ⟨by decide, by decide⟩, by decide +kernel, by decide⟩
set_option maxRecDepth 20000 in
theorem mi_X12_fails : Cond.instanceMethod yX12_fails ∈ g_ws := (g_at 1313 (by decide +kernel) (by decide +kernel))
set_option maxRecDepth 20000 in
theorem me_X12_fails : Cond.selects RX12 yX12_fails yX12_fails ∈ g_ws := (g_at 25 (by decide +kernel) (by decide +kernel))
set_option maxRecDepth 20000 in
theorem mt_X12_67 : mt_ok RX12 67 yX12_fails cX12_fails 3 (some .boolean) 2 := ⟨(g_at 1311 (by decide +kernel) (by decide +kernel)), md_X12_fails⟩
set_option maxRecDepth 20000 in
theorem fl_X12_10 : fl_ok RX12 10 16 1 := ⟨_, rfl, by decide, Or.inl (g_at 1251 (by decide +kernel) (by decide +kernel))⟩
set_option maxRecDepth 20000 in
theorem mf_X12_38 : Cond.methodLink RX12 38 ⟨"java/util/List", "size", "()I"⟩ ∈ g_ws := (g_at 1316 (by decide +kernel) (by decide +kernel))
set_option maxRecDepth 20000 in
theorem se_Jx4a65c_size_8abf5 : Cond.selects "java/util/ArrayList" ⟨"java/util/List", "size", "()I"⟩ yJx4a65c_size_8abf5 ∈ g_ws := (g_at 1320 (by decide +kernel) (by decide +kernel))
set_option maxRecDepth 20000 in
theorem cl_X12_71 : Cond.classLink RX12 71 "VeneerLoftModel$Log" ∈ g_ws := (g_at 1323 (by decide +kernel) (by decide +kernel))
set_option maxRecDepth 20000 in
theorem nw_X12_71 : nw_ok RX12 71 13 5 := ⟨_, rfl, (g_at 1323 (by decide +kernel) (by decide +kernel)), (g_at 1324 (by decide +kernel) (by decide +kernel)), (g_at 58 (by decide +kernel) (by decide +kernel))⟩
set_option maxRecDepth 20000 in
theorem md_X9_init : md_ok yX9_init cX9_init 5 ((none : Option Jvm.ClassFile.FieldType)) 4 := ⟨g_at 1327 (by decide +kernel) (by decide +kernel), (g_at 58 (by decide +kernel) (by decide +kernel)), by decide, ⟨by decide, by decide⟩, by decide +kernel, by decide⟩
set_option maxRecDepth 20000 in
theorem mi_X9_init : Cond.instanceMethod yX9_init ∈ g_ws := (g_at 1326 (by decide +kernel) (by decide +kernel))
set_option maxRecDepth 20000 in
theorem mt_X12_73 : mt_ok RX12 73 yX9_init cX9_init 5 ((none : Option Jvm.ClassFile.FieldType)) 4 := ⟨(g_at 1325 (by decide +kernel) (by decide +kernel)), md_X9_init⟩
set_option maxRecDepth 20000 in
theorem mf_X12_76 : Cond.methodLink RX12 76 ⟨"java/util/List", "add", "(Ljava/lang/Object;)Z"⟩ ∈ g_ws := (g_at 1352 (by decide +kernel) (by decide +kernel))
set_option maxRecDepth 20000 in
theorem se_Jx4a65c_add_9ea2d : Cond.selects "java/util/ArrayList" ⟨"java/util/List", "add", "(Ljava/lang/Object;)Z"⟩ yJx4a65c_add_9ea2d ∈ g_ws := (g_at 1355 (by decide +kernel) (by decide +kernel))
set_option maxRecDepth 20000 in
theorem pf_X12_begins_35 : pf_ok yX12_begins 35 16 0 := ⟨_, rfl, by decide, Or.inl ⟨rfl, Or.inl (g_at 1250 (by decide +kernel) (by decide +kernel))⟩⟩
set_option maxRecDepth 20000 in
theorem pf_X12_fails_35 : pf_ok yX12_fails 35 16 0 := ⟨_, rfl, by decide, Or.inl ⟨rfl, Or.inl (g_at 1250 (by decide +kernel) (by decide +kernel))⟩⟩
set_option maxRecDepth 20000 in
theorem oi_X9_1 : Cond.methodLink RX9 1 Lib.objectInit ∈ g_ws := (g_at 1328 (by decide +kernel) (by decide +kernel))
set_option maxRecDepth 20000 in
theorem pf_X9_init_7 : pf_ok yX9_init 7 13 0 := ⟨_, rfl, by decide, Or.inr ⟨rfl, rfl, rfl, (g_at 1329 (by decide +kernel) (by decide +kernel))⟩⟩
set_option maxRecDepth 20000 in
theorem pf_X9_init_13 : pf_ok yX9_init 13 13 1 := ⟨_, rfl, by decide, Or.inr ⟨rfl, rfl, rfl, (g_at 1332 (by decide +kernel) (by decide +kernel))⟩⟩
set_option maxRecDepth 20000 in
theorem pf_X9_init_16 : pf_ok yX9_init 16 13 2 := ⟨_, rfl, by decide, Or.inr ⟨rfl, rfl, rfl, (g_at 1334 (by decide +kernel) (by decide +kernel))⟩⟩
set_option maxRecDepth 20000 in
theorem pf_X9_init_19 : pf_ok yX9_init 19 13 3 := ⟨_, rfl, by decide, Or.inr ⟨rfl, rfl, rfl, (g_at 1337 (by decide +kernel) (by decide +kernel))⟩⟩
set_option maxRecDepth 20000 in
theorem md_X12_slice : md_ok yX12_slice cX12_slice 4 (some .int) 3 := ⟨g_at 1361 (by decide +kernel) (by decide +kernel), (g_at 42 (by decide +kernel) (by decide +kernel)), by decide, ⟨by decide, by decide⟩, by decide +kernel, by decide⟩
set_option maxRecDepth 20000 in
theorem mi_X12_slice : Cond.instanceMethod yX12_slice ∈ g_ws := (g_at 1359 (by decide +kernel) (by decide +kernel))
set_option maxRecDepth 20000 in
theorem me_X12_slice : Cond.selects RX12 yX12_slice yX12_slice ∈ g_ws := (g_at 1360 (by decide +kernel) (by decide +kernel))
set_option maxRecDepth 20000 in
theorem md_X12_isOf : md_ok yX12_isOf cX12_isOf 2 (some .boolean) 2 := ⟨g_at 1364 (by decide +kernel) (by decide +kernel), (g_at 42 (by decide +kernel) (by decide +kernel)), by decide, ⟨by decide, by decide⟩, by decide +kernel, by decide⟩
set_option maxRecDepth 20000 in
theorem ms_X12_isOf : Cond.static yX12_isOf ∈ g_ws := (g_at 1363 (by decide +kernel) (by decide +kernel))
set_option maxRecDepth 20000 in
theorem mt_X12_80 : mt_ok RX12 80 yX12_isOf cX12_isOf 2 (some .boolean) 2 := ⟨(g_at 1362 (by decide +kernel) (by decide +kernel)), md_X12_isOf⟩
set_option maxRecDepth 20000 in
theorem cn_X12_86 : Cond.constantLong RX12 86 (5) ∈ g_ws := (g_at 1366 (by decide +kernel) (by decide +kernel))
set_option maxRecDepth 20000 in
theorem cn_X12_88 : Cond.constantLong RX12 88 (30) ∈ g_ws := (g_at 1367 (by decide +kernel) (by decide +kernel))
set_option maxRecDepth 20000 in
theorem mf_X12_90 : Cond.methodLink RX12 90 ⟨"java/util/List", "get", "(I)Ljava/lang/Object;"⟩ ∈ g_ws := (g_at 1369 (by decide +kernel) (by decide +kernel))
set_option maxRecDepth 20000 in
theorem se_Jx4a65c_get_915e3 : Cond.selects "java/util/ArrayList" ⟨"java/util/List", "get", "(I)Ljava/lang/Object;"⟩ yJx4a65c_get_915e3 ∈ g_ws := (g_at 1372 (by decide +kernel) (by decide +kernel))
set_option maxRecDepth 20000 in
theorem fl_X12_94 : fl_ok RX12 94 13 4 := ⟨_, rfl, by decide, Or.inr (Or.inl ⟨"VeneerLoftModel", (g_an 1339 (by decide +kernel) (by decide +kernel))⟩)⟩
set_option maxRecDepth 20000 in
theorem pf_X12_slice_94 : pf_ok yX12_slice 94 13 4 := ⟨_, rfl, by decide, Or.inl ⟨rfl, Or.inr (Or.inl ⟨"VeneerLoftModel", (g_an 1339 (by decide +kernel) (by decide +kernel))⟩)⟩⟩
set_option maxRecDepth 20000 in
theorem fl_X12_16 : fl_ok RX12 16 16 2 := ⟨_, rfl, by decide, Or.inl (g_at 1252 (by decide +kernel) (by decide +kernel))⟩
set_option maxRecDepth 20000 in
theorem cl_X12_98 : Cond.classLink RX12 98 "VeneerLoftModel$Flitch" ∈ g_ws := (g_at 1375 (by decide +kernel) (by decide +kernel))
set_option maxRecDepth 20000 in
theorem nw_X12_98 : nw_ok RX12 98 11 4 := ⟨_, rfl, (g_at 1375 (by decide +kernel) (by decide +kernel)), (g_at 1376 (by decide +kernel) (by decide +kernel)), (g_at 64 (by decide +kernel) (by decide +kernel))⟩
set_option maxRecDepth 20000 in
theorem md_X7_init : md_ok yX7_init cX7_init 6 ((none : Option Jvm.ClassFile.FieldType)) 3 := ⟨g_at 1379 (by decide +kernel) (by decide +kernel), (g_at 64 (by decide +kernel) (by decide +kernel)), by decide, ⟨by decide, by decide⟩, by decide +kernel, by decide⟩
set_option maxRecDepth 20000 in
theorem mi_X7_init : Cond.instanceMethod yX7_init ∈ g_ws := (g_at 1378 (by decide +kernel) (by decide +kernel))
