theorem dX0_init_0 : decode cX0_init 0 = .ok (.aload_n 0, 1) := by decide +kernel
theorem dX0_init_1 : decode cX0_init 1 = .ok (.invokespecial 3, 3) := by decide +kernel
theorem dX0_init_4 : decode cX0_init 4 = .ok (.aload_n 0, 1) := by decide +kernel
theorem dX0_init_5 : decode cX0_init 5 = .ok (.bipush 24, 2) := by decide +kernel
theorem dX0_init_7 : decode cX0_init 7 = .ok (.newarray .int, 2) := by decide +kernel
theorem dX0_init_9 : decode cX0_init 9 = .ok (.putfield 9, 3) := by decide +kernel
theorem dX0_init_12 : decode cX0_init 12 = .ok (.aload_n 0, 1) := by decide +kernel
theorem dX0_init_13 : decode cX0_init 13 = .ok (.bipush 24, 2) := by decide +kernel
theorem dX0_init_15 : decode cX0_init 15 = .ok (.newarray .int, 2) := by decide +kernel
theorem dX0_init_17 : decode cX0_init 17 = .ok (.putfield 15, 3) := by decide +kernel
theorem dX0_init_20 : decode cX0_init 20 = .ok (.aload_n 0, 1) := by decide +kernel
theorem dX0_init_21 : decode cX0_init 21 = .ok (.bipush 24, 2) := by decide +kernel
theorem dX0_init_23 : decode cX0_init 23 = .ok (.newarray .boolean, 2) := by decide +kernel
theorem dX0_init_25 : decode cX0_init 25 = .ok (.putfield 18, 3) := by decide +kernel
theorem dX0_init_28 : decode cX0_init 28 = .ok (.aload_n 0, 1) := by decide +kernel
theorem dX0_init_29 : decode cX0_init 29 = .ok (.iload_n 3, 1) := by decide +kernel
theorem dX0_init_30 : decode cX0_init 30 = .ok (.putfield 22, 3) := by decide +kernel
theorem dX0_init_33 : decode cX0_init 33 = .ok (.aload_n 0, 1) := by decide +kernel
theorem dX0_init_34 : decode cX0_init 34 = .ok (.aload_n 1, 1) := by decide +kernel
theorem dX0_init_35 : decode cX0_init 35 = .ok (.getfield 26, 3) := by decide +kernel
theorem dX0_init_38 : decode cX0_init 38 = .ok (.putfield 31, 3) := by decide +kernel
theorem dX0_init_41 : decode cX0_init 41 = .ok (.aload_n 0, 1) := by decide +kernel
theorem dX0_init_42 : decode cX0_init 42 = .ok (.aload_n 1, 1) := by decide +kernel
theorem dX0_init_43 : decode cX0_init 43 = .ok (.invokevirtual 32, 3) := by decide +kernel
theorem dX0_init_46 : decode cX0_init 46 = .ok (.putfield 36, 3) := by decide +kernel
theorem dX0_init_49 : decode cX0_init 49 = .ok (.aload_n 0, 1) := by decide +kernel
theorem dX0_init_50 : decode cX0_init 50 = .ok (.aload_n 1, 1) := by decide +kernel
theorem dX0_init_51 : decode cX0_init 51 = .ok (.invokevirtual 38, 3) := by decide +kernel
theorem dX0_init_54 : decode cX0_init 54 = .ok (.iload_n 2, 1) := by decide +kernel
theorem dX0_init_55 : decode cX0_init 55 = .ok (.iload_n 3, 1) := by decide +kernel
theorem dX0_init_56 : decode cX0_init 56 = .ok (.invokestatic 41, 3) := by decide +kernel
theorem dX0_init_59 : decode cX0_init 59 = .ok (.putfield 45, 3) := by decide +kernel
theorem dX0_init_62 : decode cX0_init 62 = .ok (.iconst 0, 1) := by decide +kernel
theorem dX0_init_63 : decode cX0_init 63 = .ok (.istore 4, 2) := by decide +kernel
theorem dX0_init_65 : decode cX0_init 65 = .ok (.iload 4, 2) := by decide +kernel
theorem dX0_init_67 : decode cX0_init 67 = .ok (.bipush 24, 2) := by decide +kernel
theorem dX0_init_69 : decode cX0_init 69 = .ok (.if_icmp .ge 56, 3) := by decide +kernel
theorem dX0_init_72 : decode cX0_init 72 = .ok (.aload_n 0, 1) := by decide +kernel
theorem dX0_init_73 : decode cX0_init 73 = .ok (.getfield 9, 3) := by decide +kernel
theorem dX0_init_76 : decode cX0_init 76 = .ok (.iload 4, 2) := by decide +kernel
theorem dX0_init_78 : decode cX0_init 78 = .ok (.aload_n 1, 1) := by decide +kernel
theorem dX0_init_79 : decode cX0_init 79 = .ok (.iload_n 2, 1) := by decide +kernel
theorem dX0_init_80 : decode cX0_init 80 = .ok (.iload 4, 2) := by decide +kernel
theorem dX0_init_82 : decode cX0_init 82 = .ok (.iload_n 3, 1) := by decide +kernel
theorem dX0_init_83 : decode cX0_init 83 = .ok (.imul, 1) := by decide +kernel
theorem dX0_init_84 : decode cX0_init 84 = .ok (.bipush 10, 2) := by decide +kernel
theorem dX0_init_86 : decode cX0_init 86 = .ok (.idiv, 1) := by decide +kernel
theorem dX0_init_87 : decode cX0_init 87 = .ok (.invokestatic 48, 3) := by decide +kernel
theorem dX0_init_90 : decode cX0_init 90 = .ok (.iastore, 1) := by decide +kernel
theorem dX0_init_91 : decode cX0_init 91 = .ok (.aload_n 0, 1) := by decide +kernel
theorem dX0_init_92 : decode cX0_init 92 = .ok (.getfield 15, 3) := by decide +kernel
theorem dX0_init_95 : decode cX0_init 95 = .ok (.iload 4, 2) := by decide +kernel
theorem dX0_init_97 : decode cX0_init 97 = .ok (.aload_n 1, 1) := by decide +kernel
theorem dX0_init_98 : decode cX0_init 98 = .ok (.getfield 52, 3) := by decide +kernel
theorem dX0_init_101 : decode cX0_init 101 = .ok (.invokestatic 56, 3) := by decide +kernel
theorem dX0_init_104 : decode cX0_init 104 = .ok (.aload_n 1, 1) := by decide +kernel
theorem dX0_init_105 : decode cX0_init 105 = .ok (.iload_n 2, 1) := by decide +kernel
theorem dX0_init_106 : decode cX0_init 106 = .ok (.iload 4, 2) := by decide +kernel
theorem dX0_init_108 : decode cX0_init 108 = .ok (.invokestatic 60, 3) := by decide +kernel
theorem dX0_init_111 : decode cX0_init 111 = .ok (.iadd, 1) := by decide +kernel
theorem dX0_init_112 : decode cX0_init 112 = .ok (.iconst 0, 1) := by decide +kernel
theorem dX0_init_113 : decode cX0_init 113 = .ok (.bipush 99, 2) := by decide +kernel
theorem dX0_init_115 : decode cX0_init 115 = .ok (.invokestatic 63, 3) := by decide +kernel
theorem dX0_init_118 : decode cX0_init 118 = .ok (.iastore, 1) := by decide +kernel
theorem dX0_init_119 : decode cX0_init 119 = .ok (.iinc 4 1, 3) := by decide +kernel
theorem dX0_init_122 : decode cX0_init 122 = .ok (.goto (-57), 3) := by decide +kernel
theorem dX0_init_125 : decode cX0_init 125 = .ok (.return_, 1) := by decide +kernel
theorem dX0_countLeaves_0 : decode cX0_countLeaves 0 = .ok (.iload_n 2, 1) := by decide +kernel
theorem dX0_countLeaves_1 : decode cX0_countLeaves 1 = .ok (.ifCond .gt 5, 3) := by decide +kernel
theorem dX0_countLeaves_4 : decode cX0_countLeaves 4 = .ok (.iconst 0, 1) := by decide +kernel
theorem dX0_countLeaves_5 : decode cX0_countLeaves 5 = .ok (.ireturn, 1) := by decide +kernel
theorem dX0_countLeaves_6 : decode cX0_countLeaves 6 = .ok (.iload_n 1, 1) := by decide +kernel
theorem dX0_countLeaves_7 : decode cX0_countLeaves 7 = .ok (.bipush 102, 2) := by decide +kernel
theorem dX0_countLeaves_9 : decode cX0_countLeaves 9 = .ok (.if_icmp .ne 16, 3) := by decide +kernel
theorem dX0_countLeaves_12 : decode cX0_countLeaves 12 = .ok (.bipush 10, 2) := by decide +kernel
theorem dX0_countLeaves_14 : decode cX0_countLeaves 14 = .ok (.iload_n 0, 1) := by decide +kernel
theorem dX0_countLeaves_15 : decode cX0_countLeaves 15 = .ok (.iconst 2, 1) := by decide +kernel
theorem dX0_countLeaves_16 : decode cX0_countLeaves 16 = .ok (.idiv, 1) := by decide +kernel
theorem dX0_countLeaves_17 : decode cX0_countLeaves 17 = .ok (.imul, 1) := by decide +kernel
theorem dX0_countLeaves_18 : decode cX0_countLeaves 18 = .ok (.iload_n 2, 1) := by decide +kernel
theorem dX0_countLeaves_19 : decode cX0_countLeaves 19 = .ok (.idiv, 1) := by decide +kernel
theorem dX0_countLeaves_20 : decode cX0_countLeaves 20 = .ok (.iconst 1, 1) := by decide +kernel
theorem dX0_countLeaves_21 : decode cX0_countLeaves 21 = .ok (.iadd, 1) := by decide +kernel
theorem dX0_countLeaves_22 : decode cX0_countLeaves 22 = .ok (.goto 9, 3) := by decide +kernel
theorem dX0_countLeaves_25 : decode cX0_countLeaves 25 = .ok (.bipush 10, 2) := by decide +kernel
theorem dX0_countLeaves_27 : decode cX0_countLeaves 27 = .ok (.iload_n 0, 1) := by decide +kernel
theorem dX0_countLeaves_28 : decode cX0_countLeaves 28 = .ok (.imul, 1) := by decide +kernel
theorem dX0_countLeaves_29 : decode cX0_countLeaves 29 = .ok (.iload_n 2, 1) := by decide +kernel
theorem dX0_countLeaves_30 : decode cX0_countLeaves 30 = .ok (.idiv, 1) := by decide +kernel
theorem dX0_countLeaves_31 : decode cX0_countLeaves 31 = .ok (.istore_n 3, 1) := by decide +kernel
theorem dX0_countLeaves_32 : decode cX0_countLeaves 32 = .ok (.iload_n 3, 1) := by decide +kernel
theorem dX0_countLeaves_33 : decode cX0_countLeaves 33 = .ok (.iconst 0, 1) := by decide +kernel
theorem dX0_countLeaves_34 : decode cX0_countLeaves 34 = .ok (.bipush 24, 2) := by decide +kernel
theorem dX0_countLeaves_36 : decode cX0_countLeaves 36 = .ok (.invokestatic 63, 3) := by decide +kernel
theorem dX0_countLeaves_39 : decode cX0_countLeaves 39 = .ok (.ireturn, 1) := by decide +kernel
theorem dX0_cutWidth_0 : decode cX0_cutWidth 0 = .ok (.aload_n 0, 1) := by decide +kernel
theorem dX0_cutWidth_1 : decode cX0_cutWidth 1 = .ok (.invokevirtual 38, 3) := by decide +kernel
theorem dX0_cutWidth_4 : decode cX0_cutWidth 4 = .ok (.istore_n 3, 1) := by decide +kernel
theorem dX0_cutWidth_5 : decode cX0_cutWidth 5 = .ok (.iload_n 1, 1) := by decide +kernel
theorem dX0_cutWidth_6 : decode cX0_cutWidth 6 = .ok (.bipush 102, 2) := by decide +kernel
theorem dX0_cutWidth_8 : decode cX0_cutWidth 8 = .ok (.if_icmp .ne 25, 3) := by decide +kernel
theorem dX0_cutWidth_11 : decode cX0_cutWidth 11 = .ok (.iload_n 3, 1) := by decide +kernel
theorem dX0_cutWidth_12 : decode cX0_cutWidth 12 = .ok (.iconst 2, 1) := by decide +kernel
theorem dX0_cutWidth_13 : decode cX0_cutWidth 13 = .ok (.idiv, 1) := by decide +kernel
theorem dX0_cutWidth_14 : decode cX0_cutWidth 14 = .ok (.iload_n 2, 1) := by decide +kernel
theorem dX0_cutWidth_15 : decode cX0_cutWidth 15 = .ok (.isub, 1) := by decide +kernel
theorem dX0_cutWidth_16 : decode cX0_cutWidth 16 = .ok (.istore 4, 2) := by decide +kernel
theorem dX0_cutWidth_18 : decode cX0_cutWidth 18 = .ok (.iconst 2, 1) := by decide +kernel
theorem dX0_cutWidth_19 : decode cX0_cutWidth 19 = .ok (.iload_n 3, 1) := by decide +kernel
theorem dX0_cutWidth_20 : decode cX0_cutWidth 20 = .ok (.iload_n 3, 1) := by decide +kernel
theorem dX0_cutWidth_21 : decode cX0_cutWidth 21 = .ok (.imul, 1) := by decide +kernel
theorem dX0_cutWidth_22 : decode cX0_cutWidth 22 = .ok (.iload 4, 2) := by decide +kernel
theorem dX0_cutWidth_24 : decode cX0_cutWidth 24 = .ok (.iload 4, 2) := by decide +kernel
theorem dX0_cutWidth_26 : decode cX0_cutWidth 26 = .ok (.imul, 1) := by decide +kernel
theorem dX0_cutWidth_27 : decode cX0_cutWidth 27 = .ok (.isub, 1) := by decide +kernel
theorem dX0_cutWidth_28 : decode cX0_cutWidth 28 = .ok (.invokestatic 67, 3) := by decide +kernel
theorem dX0_cutWidth_31 : decode cX0_cutWidth 31 = .ok (.imul, 1) := by decide +kernel
theorem dX0_cutWidth_32 : decode cX0_cutWidth 32 = .ok (.ireturn, 1) := by decide +kernel
theorem dX0_cutWidth_33 : decode cX0_cutWidth 33 = .ok (.iload_n 1, 1) := by decide +kernel
theorem dX0_cutWidth_34 : decode cX0_cutWidth 34 = .ok (.bipush 115, 2) := by decide +kernel
theorem dX0_cutWidth_36 : decode cX0_cutWidth 36 = .ok (.if_icmp .ne 15, 3) := by decide +kernel
theorem dX0_cutWidth_39 : decode cX0_cutWidth 39 = .ok (.iconst 3, 1) := by decide +kernel
theorem dX0_cutWidth_40 : decode cX0_cutWidth 40 = .ok (.aload_n 0, 1) := by decide +kernel
theorem dX0_cutWidth_41 : decode cX0_cutWidth 41 = .ok (.getfield 71, 3) := by decide +kernel
theorem dX0_cutWidth_44 : decode cX0_cutWidth 44 = .ok (.imul, 1) := by decide +kernel
theorem dX0_cutWidth_45 : decode cX0_cutWidth 45 = .ok (.bipush 6, 2) := by decide +kernel
theorem dX0_cutWidth_47 : decode cX0_cutWidth 47 = .ok (.iload_n 2, 1) := by decide +kernel
theorem dX0_cutWidth_48 : decode cX0_cutWidth 48 = .ok (.imul, 1) := by decide +kernel
theorem dX0_cutWidth_49 : decode cX0_cutWidth 49 = .ok (.isub, 1) := by decide +kernel
theorem dX0_cutWidth_50 : decode cX0_cutWidth 50 = .ok (.ireturn, 1) := by decide +kernel
theorem dX0_cutWidth_51 : decode cX0_cutWidth 51 = .ok (.iload_n 1, 1) := by decide +kernel
theorem dX0_cutWidth_52 : decode cX0_cutWidth 52 = .ok (.bipush 113, 2) := by decide +kernel
theorem dX0_cutWidth_54 : decode cX0_cutWidth 54 = .ok (.if_icmp .ne 10, 3) := by decide +kernel
theorem dX0_cutWidth_57 : decode cX0_cutWidth 57 = .ok (.iload_n 3, 1) := by decide +kernel
theorem dX0_cutWidth_58 : decode cX0_cutWidth 58 = .ok (.bipush 20, 2) := by decide +kernel
theorem dX0_cutWidth_60 : decode cX0_cutWidth 60 = .ok (.isub, 1) := by decide +kernel
theorem dX0_cutWidth_61 : decode cX0_cutWidth 61 = .ok (.goto 11, 3) := by decide +kernel
theorem dX0_cutWidth_64 : decode cX0_cutWidth 64 = .ok (.iload_n 3, 1) := by decide +kernel
theorem dX0_cutWidth_65 : decode cX0_cutWidth 65 = .ok (.bipush 20, 2) := by decide +kernel
theorem dX0_cutWidth_67 : decode cX0_cutWidth 67 = .ok (.isub, 1) := by decide +kernel
theorem dX0_cutWidth_68 : decode cX0_cutWidth 68 = .ok (.iconst 4, 1) := by decide +kernel
theorem dX0_cutWidth_69 : decode cX0_cutWidth 69 = .ok (.imul, 1) := by decide +kernel
theorem dX0_cutWidth_70 : decode cX0_cutWidth 70 = .ok (.iconst 5, 1) := by decide +kernel
theorem dX0_cutWidth_71 : decode cX0_cutWidth 71 = .ok (.idiv, 1) := by decide +kernel
theorem dX0_cutWidth_72 : decode cX0_cutWidth 72 = .ok (.ireturn, 1) := by decide +kernel
theorem dX0_rootOf_0 : decode cX0_rootOf 0 = .ok (.iconst 0, 1) := by decide +kernel
theorem dX0_rootOf_1 : decode cX0_rootOf 1 = .ok (.istore_n 1, 1) := by decide +kernel
theorem dX0_rootOf_2 : decode cX0_rootOf 2 = .ok (.sipush 512, 3) := by decide +kernel
theorem dX0_rootOf_5 : decode cX0_rootOf 5 = .ok (.istore_n 2, 1) := by decide +kernel
theorem dX0_rootOf_6 : decode cX0_rootOf 6 = .ok (.iload_n 2, 1) := by decide +kernel
theorem dX0_rootOf_7 : decode cX0_rootOf 7 = .ok (.ifCond .le 25, 3) := by decide +kernel
theorem dX0_rootOf_10 : decode cX0_rootOf 10 = .ok (.iload_n 1, 1) := by decide +kernel
theorem dX0_rootOf_11 : decode cX0_rootOf 11 = .ok (.iload_n 2, 1) := by decide +kernel
theorem dX0_rootOf_12 : decode cX0_rootOf 12 = .ok (.iadd, 1) := by decide +kernel
theorem dX0_rootOf_13 : decode cX0_rootOf 13 = .ok (.iload_n 1, 1) := by decide +kernel
theorem dX0_rootOf_14 : decode cX0_rootOf 14 = .ok (.iload_n 2, 1) := by decide +kernel
theorem dX0_rootOf_15 : decode cX0_rootOf 15 = .ok (.iadd, 1) := by decide +kernel
theorem dX0_rootOf_16 : decode cX0_rootOf 16 = .ok (.imul, 1) := by decide +kernel
theorem dX0_rootOf_17 : decode cX0_rootOf 17 = .ok (.iload_n 0, 1) := by decide +kernel
theorem dX0_rootOf_18 : decode cX0_rootOf 18 = .ok (.if_icmp .gt 7, 3) := by decide +kernel
theorem dX0_rootOf_21 : decode cX0_rootOf 21 = .ok (.iload_n 1, 1) := by decide +kernel
theorem dX0_rootOf_22 : decode cX0_rootOf 22 = .ok (.iload_n 2, 1) := by decide +kernel
theorem dX0_rootOf_23 : decode cX0_rootOf 23 = .ok (.iadd, 1) := by decide +kernel
theorem dX0_rootOf_24 : decode cX0_rootOf 24 = .ok (.istore_n 1, 1) := by decide +kernel
theorem dX0_rootOf_25 : decode cX0_rootOf 25 = .ok (.iload_n 2, 1) := by decide +kernel
theorem dX0_rootOf_26 : decode cX0_rootOf 26 = .ok (.iconst 2, 1) := by decide +kernel
theorem dX0_rootOf_27 : decode cX0_rootOf 27 = .ok (.idiv, 1) := by decide +kernel
theorem dX0_rootOf_28 : decode cX0_rootOf 28 = .ok (.istore_n 2, 1) := by decide +kernel
theorem dX0_rootOf_29 : decode cX0_rootOf 29 = .ok (.goto (-23), 3) := by decide +kernel
theorem dX0_rootOf_32 : decode cX0_rootOf 32 = .ok (.iload_n 1, 1) := by decide +kernel
theorem dX0_rootOf_33 : decode cX0_rootOf 33 = .ok (.ireturn, 1) := by decide +kernel
theorem dX0_formFigure_0 : decode cX0_formFigure 0 = .ok (.iload_n 0, 1) := by decide +kernel
theorem dX0_formFigure_1 : decode cX0_formFigure 1 = .ok (.bipush 112, 2) := by decide +kernel
theorem dX0_formFigure_3 : decode cX0_formFigure 3 = .ok (.if_icmp .ne 8, 3) := by decide +kernel
theorem dX0_formFigure_6 : decode cX0_formFigure 6 = .ok (.bipush 10, 2) := by decide +kernel
theorem dX0_formFigure_8 : decode cX0_formFigure 8 = .ok (.goto 16, 3) := by decide +kernel
theorem dX0_formFigure_11 : decode cX0_formFigure 11 = .ok (.iload_n 0, 1) := by decide +kernel
theorem dX0_formFigure_12 : decode cX0_formFigure 12 = .ok (.bipush 99, 2) := by decide +kernel
theorem dX0_formFigure_14 : decode cX0_formFigure 14 = .ok (.if_icmp .ne 8, 3) := by decide +kernel
theorem dX0_formFigure_17 : decode cX0_formFigure 17 = .ok (.bipush 40, 2) := by decide +kernel
theorem dX0_formFigure_19 : decode cX0_formFigure 19 = .ok (.goto 5, 3) := by decide +kernel
theorem dX0_formFigure_22 : decode cX0_formFigure 22 = .ok (.bipush 60, 2) := by decide +kernel
theorem dX0_formFigure_24 : decode cX0_formFigure 24 = .ok (.ireturn, 1) := by decide +kernel
theorem dX0_wayFigure_0 : decode cX0_wayFigure 0 = .ok (.iload_n 1, 1) := by decide +kernel
theorem dX0_wayFigure_1 : decode cX0_wayFigure 1 = .ok (.bipush 102, 2) := by decide +kernel
theorem dX0_wayFigure_3 : decode cX0_wayFigure 3 = .ok (.if_icmp .ne 11, 3) := by decide +kernel
theorem dX0_wayFigure_6 : decode cX0_wayFigure 6 = .ok (.bipush 15, 2) := by decide +kernel
theorem dX0_wayFigure_8 : decode cX0_wayFigure 8 = .ok (.iload_n 2, 1) := by decide +kernel
theorem dX0_wayFigure_9 : decode cX0_wayFigure 9 = .ok (.bipush 8, 2) := by decide +kernel
theorem dX0_wayFigure_11 : decode cX0_wayFigure 11 = .ok (.irem, 1) := by decide +kernel
theorem dX0_wayFigure_12 : decode cX0_wayFigure 12 = .ok (.isub, 1) := by decide +kernel
theorem dX0_wayFigure_13 : decode cX0_wayFigure 13 = .ok (.ireturn, 1) := by decide +kernel
theorem dX0_wayFigure_14 : decode cX0_wayFigure 14 = .ok (.iload_n 1, 1) := by decide +kernel
theorem dX0_wayFigure_15 : decode cX0_wayFigure 15 = .ok (.bipush 113, 2) := by decide +kernel
theorem dX0_wayFigure_17 : decode cX0_wayFigure 17 = .ok (.if_icmp .ne 30, 3) := by decide +kernel
theorem dX0_wayFigure_20 : decode cX0_wayFigure 20 = .ok (.aload_n 0, 1) := by decide +kernel
theorem dX0_wayFigure_21 : decode cX0_wayFigure 21 = .ok (.getfield 74, 3) := by decide +kernel
theorem dX0_wayFigure_24 : decode cX0_wayFigure 24 = .ok (.bipush 111, 2) := by decide +kernel
theorem dX0_wayFigure_26 : decode cX0_wayFigure 26 = .ok (.if_icmp .ne 8, 3) := by decide +kernel
theorem dX0_wayFigure_29 : decode cX0_wayFigure 29 = .ok (.bipush 30, 2) := by decide +kernel
theorem dX0_wayFigure_31 : decode cX0_wayFigure 31 = .ok (.goto 5, 3) := by decide +kernel
theorem dX0_wayFigure_34 : decode cX0_wayFigure 34 = .ok (.bipush 10, 2) := by decide +kernel
theorem dX0_wayFigure_36 : decode cX0_wayFigure 36 = .ok (.iload_n 2, 1) := by decide +kernel
theorem dX0_wayFigure_37 : decode cX0_wayFigure 37 = .ok (.bipush 12, 2) := by decide +kernel
theorem dX0_wayFigure_39 : decode cX0_wayFigure 39 = .ok (.isub, 1) := by decide +kernel
theorem dX0_wayFigure_40 : decode cX0_wayFigure 40 = .ok (.invokestatic 77, 3) := by decide +kernel
theorem dX0_wayFigure_43 : decode cX0_wayFigure 43 = .ok (.iconst 2, 1) := by decide +kernel
theorem dX0_wayFigure_44 : decode cX0_wayFigure 44 = .ok (.idiv, 1) := by decide +kernel
theorem dX0_wayFigure_45 : decode cX0_wayFigure 45 = .ok (.isub, 1) := by decide +kernel
theorem dX0_wayFigure_46 : decode cX0_wayFigure 46 = .ok (.ireturn, 1) := by decide +kernel
theorem dX0_wayFigure_47 : decode cX0_wayFigure 47 = .ok (.iload_n 1, 1) := by decide +kernel
theorem dX0_wayFigure_48 : decode cX0_wayFigure 48 = .ok (.bipush 114, 2) := by decide +kernel
theorem dX0_wayFigure_50 : decode cX0_wayFigure 50 = .ok (.if_icmp .ne 5, 3) := by decide +kernel
theorem dX0_wayFigure_53 : decode cX0_wayFigure 53 = .ok (.iconst 5, 1) := by decide +kernel
theorem dX0_wayFigure_54 : decode cX0_wayFigure 54 = .ok (.ireturn, 1) := by decide +kernel
theorem dX0_wayFigure_55 : decode cX0_wayFigure 55 = .ok (.bipush 20, 2) := by decide +kernel
theorem dX0_wayFigure_57 : decode cX0_wayFigure 57 = .ok (.aload_n 0, 1) := by decide +kernel
theorem dX0_wayFigure_58 : decode cX0_wayFigure 58 = .ok (.getfield 52, 3) := by decide +kernel
theorem dX0_wayFigure_61 : decode cX0_wayFigure 61 = .ok (.bipush 98, 2) := by decide +kernel
theorem dX0_wayFigure_63 : decode cX0_wayFigure 63 = .ok (.if_icmp .ne 8, 3) := by decide +kernel
theorem dX0_wayFigure_66 : decode cX0_wayFigure 66 = .ok (.bipush 30, 2) := by decide +kernel
theorem dX0_wayFigure_68 : decode cX0_wayFigure 68 = .ok (.goto 4, 3) := by decide +kernel
theorem dX0_wayFigure_71 : decode cX0_wayFigure 71 = .ok (.iconst 0, 1) := by decide +kernel
theorem dX0_wayFigure_72 : decode cX0_wayFigure 72 = .ok (.iadd, 1) := by decide +kernel
theorem dX0_wayFigure_73 : decode cX0_wayFigure 73 = .ok (.iload_n 2, 1) := by decide +kernel
theorem dX0_wayFigure_74 : decode cX0_wayFigure 74 = .ok (.iconst 2, 1) := by decide +kernel
theorem dX0_wayFigure_75 : decode cX0_wayFigure 75 = .ok (.idiv, 1) := by decide +kernel
theorem dX0_wayFigure_76 : decode cX0_wayFigure 76 = .ok (.isub, 1) := by decide +kernel
theorem dX0_wayFigure_77 : decode cX0_wayFigure 77 = .ok (.ireturn, 1) := by decide +kernel
theorem dX0_hasLeaf_0 : decode cX0_hasLeaf 0 = .ok (.iload_n 1, 1) := by decide +kernel
theorem dX0_hasLeaf_1 : decode cX0_hasLeaf 1 = .ok (.ifCond .lt 21, 3) := by decide +kernel
theorem dX0_hasLeaf_4 : decode cX0_hasLeaf 4 = .ok (.iload_n 1, 1) := by decide +kernel
theorem dX0_hasLeaf_5 : decode cX0_hasLeaf 5 = .ok (.aload_n 0, 1) := by decide +kernel
theorem dX0_hasLeaf_6 : decode cX0_hasLeaf 6 = .ok (.getfield 45, 3) := by decide +kernel
theorem dX0_hasLeaf_9 : decode cX0_hasLeaf 9 = .ok (.if_icmp .ge 13, 3) := by decide +kernel
theorem dX0_hasLeaf_12 : decode cX0_hasLeaf 12 = .ok (.iload_n 1, 1) := by decide +kernel
theorem dX0_hasLeaf_13 : decode cX0_hasLeaf 13 = .ok (.bipush 24, 2) := by decide +kernel
theorem dX0_hasLeaf_15 : decode cX0_hasLeaf 15 = .ok (.if_icmp .ge 7, 3) := by decide +kernel
theorem dX0_hasLeaf_18 : decode cX0_hasLeaf 18 = .ok (.iconst 1, 1) := by decide +kernel
theorem dX0_hasLeaf_19 : decode cX0_hasLeaf 19 = .ok (.goto 4, 3) := by decide +kernel
theorem dX0_hasLeaf_22 : decode cX0_hasLeaf 22 = .ok (.iconst 0, 1) := by decide +kernel
theorem dX0_hasLeaf_23 : decode cX0_hasLeaf 23 = .ok (.ireturn, 1) := by decide +kernel
theorem dX0_widthOf_0 : decode cX0_widthOf 0 = .ok (.aload_n 0, 1) := by decide +kernel
theorem dX0_widthOf_1 : decode cX0_widthOf 1 = .ok (.iload_n 1, 1) := by decide +kernel
theorem dX0_widthOf_2 : decode cX0_widthOf 2 = .ok (.invokevirtual 82, 3) := by decide +kernel
theorem dX0_widthOf_5 : decode cX0_widthOf 5 = .ok (.ifCond .eq 12, 3) := by decide +kernel
theorem dX0_widthOf_8 : decode cX0_widthOf 8 = .ok (.aload_n 0, 1) := by decide +kernel
theorem dX0_widthOf_9 : decode cX0_widthOf 9 = .ok (.getfield 9, 3) := by decide +kernel
theorem dX0_widthOf_12 : decode cX0_widthOf 12 = .ok (.iload_n 1, 1) := by decide +kernel
theorem dX0_widthOf_13 : decode cX0_widthOf 13 = .ok (.iaload, 1) := by decide +kernel
theorem dX0_widthOf_14 : decode cX0_widthOf 14 = .ok (.goto 4, 3) := by decide +kernel
theorem dX0_widthOf_17 : decode cX0_widthOf 17 = .ok (.iconst 0, 1) := by decide +kernel
theorem dX0_widthOf_18 : decode cX0_widthOf 18 = .ok (.ireturn, 1) := by decide +kernel
theorem dX0_areaOf_0 : decode cX0_areaOf 0 = .ok (.aload_n 0, 1) := by decide +kernel
theorem dX0_areaOf_1 : decode cX0_areaOf 1 = .ok (.iload_n 1, 1) := by decide +kernel
theorem dX0_areaOf_2 : decode cX0_areaOf 2 = .ok (.invokevirtual 86, 3) := by decide +kernel
theorem dX0_areaOf_5 : decode cX0_areaOf 5 = .ok (.aload_n 0, 1) := by decide +kernel
theorem dX0_areaOf_6 : decode cX0_areaOf 6 = .ok (.getfield 31, 3) := by decide +kernel
theorem dX0_areaOf_9 : decode cX0_areaOf 9 = .ok (.imul, 1) := by decide +kernel
theorem dX0_areaOf_10 : decode cX0_areaOf 10 = .ok (.ireturn, 1) := by decide +kernel
theorem dX0_figureOf_0 : decode cX0_figureOf 0 = .ok (.aload_n 0, 1) := by decide +kernel
theorem dX0_figureOf_1 : decode cX0_figureOf 1 = .ok (.iload_n 1, 1) := by decide +kernel
theorem dX0_figureOf_2 : decode cX0_figureOf 2 = .ok (.invokevirtual 82, 3) := by decide +kernel
theorem dX0_figureOf_5 : decode cX0_figureOf 5 = .ok (.ifCond .eq 12, 3) := by decide +kernel
theorem dX0_figureOf_8 : decode cX0_figureOf 8 = .ok (.aload_n 0, 1) := by decide +kernel
theorem dX0_figureOf_9 : decode cX0_figureOf 9 = .ok (.getfield 15, 3) := by decide +kernel
theorem dX0_figureOf_12 : decode cX0_figureOf 12 = .ok (.iload_n 1, 1) := by decide +kernel
theorem dX0_figureOf_13 : decode cX0_figureOf 13 = .ok (.iaload, 1) := by decide +kernel
theorem dX0_figureOf_14 : decode cX0_figureOf 14 = .ok (.goto 4, 3) := by decide +kernel
theorem dX0_figureOf_17 : decode cX0_figureOf 17 = .ok (.iconst 0, 1) := by decide +kernel
theorem dX0_figureOf_18 : decode cX0_figureOf 18 = .ok (.ireturn, 1) := by decide +kernel
theorem dX0_isTaken_0 : decode cX0_isTaken 0 = .ok (.aload_n 0, 1) := by decide +kernel
theorem dX0_isTaken_1 : decode cX0_isTaken 1 = .ok (.iload_n 1, 1) := by decide +kernel
theorem dX0_isTaken_2 : decode cX0_isTaken 2 = .ok (.invokevirtual 82, 3) := by decide +kernel
theorem dX0_isTaken_5 : decode cX0_isTaken 5 = .ok (.ifCond .eq 16, 3) := by decide +kernel
theorem dX0_isTaken_8 : decode cX0_isTaken 8 = .ok (.aload_n 0, 1) := by decide +kernel
theorem dX0_isTaken_9 : decode cX0_isTaken 9 = .ok (.getfield 18, 3) := by decide +kernel
theorem dX0_isTaken_12 : decode cX0_isTaken 12 = .ok (.iload_n 1, 1) := by decide +kernel
theorem dX0_isTaken_13 : decode cX0_isTaken 13 = .ok (.baload, 1) := by decide +kernel
theorem dX0_isTaken_14 : decode cX0_isTaken 14 = .ok (.ifCond .eq 7, 3) := by decide +kernel
theorem dX0_isTaken_17 : decode cX0_isTaken 17 = .ok (.iconst 1, 1) := by decide +kernel
theorem dX0_isTaken_18 : decode cX0_isTaken 18 = .ok (.goto 4, 3) := by decide +kernel
theorem dX0_isTaken_21 : decode cX0_isTaken 21 = .ok (.iconst 0, 1) := by decide +kernel
theorem dX0_isTaken_22 : decode cX0_isTaken 22 = .ok (.ireturn, 1) := by decide +kernel
theorem dX0_isFree_0 : decode cX0_isFree 0 = .ok (.iconst 0, 1) := by decide +kernel
theorem dX0_isFree_1 : decode cX0_isFree 1 = .ok (.istore 4, 2) := by decide +kernel
theorem dX0_isFree_3 : decode cX0_isFree 3 = .ok (.iload 4, 2) := by decide +kernel
theorem dX0_isFree_5 : decode cX0_isFree 5 = .ok (.iload_n 2, 1) := by decide +kernel
theorem dX0_isFree_6 : decode cX0_isFree 6 = .ok (.if_icmp .ge 47, 3) := by decide +kernel
theorem dX0_isFree_9 : decode cX0_isFree 9 = .ok (.iload_n 1, 1) := by decide +kernel
theorem dX0_isFree_10 : decode cX0_isFree 10 = .ok (.iload 4, 2) := by decide +kernel
theorem dX0_isFree_12 : decode cX0_isFree 12 = .ok (.iadd, 1) := by decide +kernel
theorem dX0_isFree_13 : decode cX0_isFree 13 = .ok (.istore 5, 2) := by decide +kernel
theorem dX0_isFree_15 : decode cX0_isFree 15 = .ok (.aload_n 0, 1) := by decide +kernel
theorem dX0_isFree_16 : decode cX0_isFree 16 = .ok (.iload 5, 2) := by decide +kernel
theorem dX0_isFree_18 : decode cX0_isFree 18 = .ok (.invokevirtual 82, 3) := by decide +kernel
theorem dX0_isFree_21 : decode cX0_isFree 21 = .ok (.ifCond .eq 24, 3) := by decide +kernel
theorem dX0_isFree_24 : decode cX0_isFree 24 = .ok (.aload_n 0, 1) := by decide +kernel
theorem dX0_isFree_25 : decode cX0_isFree 25 = .ok (.getfield 18, 3) := by decide +kernel
theorem dX0_isFree_28 : decode cX0_isFree 28 = .ok (.iload 5, 2) := by decide +kernel
theorem dX0_isFree_30 : decode cX0_isFree 30 = .ok (.baload, 1) := by decide +kernel
theorem dX0_isFree_31 : decode cX0_isFree 31 = .ok (.ifCond .ne 14, 3) := by decide +kernel
theorem dX0_isFree_34 : decode cX0_isFree 34 = .ok (.aload_n 0, 1) := by decide +kernel
theorem dX0_isFree_35 : decode cX0_isFree 35 = .ok (.getfield 9, 3) := by decide +kernel
theorem dX0_isFree_38 : decode cX0_isFree 38 = .ok (.iload 5, 2) := by decide +kernel
theorem dX0_isFree_40 : decode cX0_isFree 40 = .ok (.iaload, 1) := by decide +kernel
theorem dX0_isFree_41 : decode cX0_isFree 41 = .ok (.iload_n 3, 1) := by decide +kernel
theorem dX0_isFree_42 : decode cX0_isFree 42 = .ok (.if_icmp .ge 5, 3) := by decide +kernel
theorem dX0_isFree_45 : decode cX0_isFree 45 = .ok (.iconst 0, 1) := by decide +kernel
theorem dX0_isFree_46 : decode cX0_isFree 46 = .ok (.ireturn, 1) := by decide +kernel
theorem dX0_isFree_47 : decode cX0_isFree 47 = .ok (.iinc 4 1, 3) := by decide +kernel
theorem dX0_isFree_50 : decode cX0_isFree 50 = .ok (.goto (-47), 3) := by decide +kernel
theorem dX0_isFree_53 : decode cX0_isFree 53 = .ok (.iconst 1, 1) := by decide +kernel
theorem dX0_isFree_54 : decode cX0_isFree 54 = .ok (.ireturn, 1) := by decide +kernel
theorem dX0_use_0 : decode cX0_use 0 = .ok (.iconst 0, 1) := by decide +kernel
theorem dX0_use_1 : decode cX0_use 1 = .ok (.istore_n 3, 1) := by decide +kernel
theorem dX0_use_2 : decode cX0_use 2 = .ok (.iconst 0, 1) := by decide +kernel
theorem dX0_use_3 : decode cX0_use 3 = .ok (.istore 4, 2) := by decide +kernel
theorem dX0_use_5 : decode cX0_use 5 = .ok (.iload 4, 2) := by decide +kernel
theorem dX0_use_7 : decode cX0_use 7 = .ok (.iload_n 2, 1) := by decide +kernel
theorem dX0_use_8 : decode cX0_use 8 = .ok (.if_icmp .ge 51, 3) := by decide +kernel
theorem dX0_use_11 : decode cX0_use 11 = .ok (.iload_n 1, 1) := by decide +kernel
theorem dX0_use_12 : decode cX0_use 12 = .ok (.iload 4, 2) := by decide +kernel
theorem dX0_use_14 : decode cX0_use 14 = .ok (.iadd, 1) := by decide +kernel
theorem dX0_use_15 : decode cX0_use 15 = .ok (.istore 5, 2) := by decide +kernel
theorem dX0_use_17 : decode cX0_use 17 = .ok (.aload_n 0, 1) := by decide +kernel
theorem dX0_use_18 : decode cX0_use 18 = .ok (.iload 5, 2) := by decide +kernel
theorem dX0_use_20 : decode cX0_use 20 = .ok (.invokevirtual 82, 3) := by decide +kernel
theorem dX0_use_23 : decode cX0_use 23 = .ok (.ifCond .eq 30, 3) := by decide +kernel
theorem dX0_use_26 : decode cX0_use 26 = .ok (.aload_n 0, 1) := by decide +kernel
theorem dX0_use_27 : decode cX0_use 27 = .ok (.getfield 18, 3) := by decide +kernel
theorem dX0_use_30 : decode cX0_use 30 = .ok (.iload 5, 2) := by decide +kernel
theorem dX0_use_32 : decode cX0_use 32 = .ok (.iconst 1, 1) := by decide +kernel
theorem dX0_use_33 : decode cX0_use 33 = .ok (.bastore, 1) := by decide +kernel
theorem dX0_use_34 : decode cX0_use 34 = .ok (.aload_n 0, 1) := by decide +kernel
theorem dX0_use_35 : decode cX0_use 35 = .ok (.dup, 1) := by decide +kernel
theorem dX0_use_36 : decode cX0_use 36 = .ok (.getfield 89, 3) := by decide +kernel
theorem dX0_use_39 : decode cX0_use 39 = .ok (.iconst 1, 1) := by decide +kernel
theorem dX0_use_40 : decode cX0_use 40 = .ok (.iadd, 1) := by decide +kernel
theorem dX0_use_41 : decode cX0_use 41 = .ok (.putfield 89, 3) := by decide +kernel
theorem dX0_use_44 : decode cX0_use 44 = .ok (.iload_n 3, 1) := by decide +kernel
theorem dX0_use_45 : decode cX0_use 45 = .ok (.aload_n 0, 1) := by decide +kernel
theorem dX0_use_46 : decode cX0_use 46 = .ok (.iload 5, 2) := by decide +kernel
theorem dX0_use_48 : decode cX0_use 48 = .ok (.invokevirtual 92, 3) := by decide +kernel
theorem dX0_use_51 : decode cX0_use 51 = .ok (.iadd, 1) := by decide +kernel
theorem dX0_use_52 : decode cX0_use 52 = .ok (.istore_n 3, 1) := by decide +kernel
theorem dX0_use_53 : decode cX0_use 53 = .ok (.iinc 4 1, 3) := by decide +kernel
theorem dX0_use_56 : decode cX0_use 56 = .ok (.goto (-51), 3) := by decide +kernel
theorem dX0_use_59 : decode cX0_use 59 = .ok (.iload_n 3, 1) := by decide +kernel
theorem dX0_use_60 : decode cX0_use 60 = .ok (.ireturn, 1) := by decide +kernel
theorem dX1_init_0 : decode cX1_init 0 = .ok (.aload_n 0, 1) := by decide +kernel
theorem dX1_init_1 : decode cX1_init 1 = .ok (.invokespecial 1, 3) := by decide +kernel
theorem dX1_init_4 : decode cX1_init 4 = .ok (.aload_n 0, 1) := by decide +kernel
theorem dX1_init_5 : decode cX1_init 5 = .ok (.iload_n 1, 1) := by decide +kernel
theorem dX1_init_6 : decode cX1_init 6 = .ok (.putfield 7, 3) := by decide +kernel
theorem dX1_init_9 : decode cX1_init 9 = .ok (.aload_n 0, 1) := by decide +kernel
theorem dX1_init_10 : decode cX1_init 10 = .ok (.iload_n 2, 1) := by decide +kernel
theorem dX1_init_11 : decode cX1_init 11 = .ok (.putfield 13, 3) := by decide +kernel
theorem dX1_init_14 : decode cX1_init 14 = .ok (.aload_n 0, 1) := by decide +kernel
theorem dX1_init_15 : decode cX1_init 15 = .ok (.iload_n 3, 1) := by decide +kernel
theorem dX1_init_16 : decode cX1_init 16 = .ok (.putfield 17, 3) := by decide +kernel
theorem dX1_init_19 : decode cX1_init 19 = .ok (.aload_n 0, 1) := by decide +kernel
theorem dX1_init_20 : decode cX1_init 20 = .ok (.iload 4, 2) := by decide +kernel
theorem dX1_init_22 : decode cX1_init 22 = .ok (.putfield 20, 3) := by decide +kernel
theorem dX1_init_25 : decode cX1_init 25 = .ok (.return_, 1) := by decide +kernel
theorem dX1_radius_0 : decode cX1_radius 0 = .ok (.aload_n 0, 1) := by decide +kernel
theorem dX1_radius_1 : decode cX1_radius 1 = .ok (.getfield 13, 3) := by decide +kernel
theorem dX1_radius_4 : decode cX1_radius 4 = .ok (.iconst 2, 1) := by decide +kernel
theorem dX1_radius_5 : decode cX1_radius 5 = .ok (.idiv, 1) := by decide +kernel
theorem dX1_radius_6 : decode cX1_radius 6 = .ok (.ireturn, 1) := by decide +kernel
theorem dX1_swelling_0 : decode cX1_swelling 0 = .ok (.aload_n 0, 1) := by decide +kernel
theorem dX1_swelling_1 : decode cX1_swelling 1 = .ok (.getfield 7, 3) := by decide +kernel
theorem dX1_swelling_4 : decode cX1_swelling 4 = .ok (.bipush 119, 2) := by decide +kernel
theorem dX1_swelling_6 : decode cX1_swelling 6 = .ok (.if_icmp .ne 8, 3) := by decide +kernel
theorem dX1_swelling_9 : decode cX1_swelling 9 = .ok (.bipush 6, 2) := by decide +kernel
theorem dX1_swelling_11 : decode cX1_swelling 11 = .ok (.goto 32, 3) := by decide +kernel
theorem dX1_swelling_14 : decode cX1_swelling 14 = .ok (.aload_n 0, 1) := by decide +kernel
theorem dX1_swelling_15 : decode cX1_swelling 15 = .ok (.getfield 7, 3) := by decide +kernel
theorem dX1_swelling_18 : decode cX1_swelling 18 = .ok (.bipush 109, 2) := by decide +kernel
theorem dX1_swelling_20 : decode cX1_swelling 20 = .ok (.if_icmp .ne 8, 3) := by decide +kernel
theorem dX1_swelling_23 : decode cX1_swelling 23 = .ok (.bipush 8, 2) := by decide +kernel
theorem dX1_swelling_25 : decode cX1_swelling 25 = .ok (.goto 18, 3) := by decide +kernel
theorem dX1_swelling_28 : decode cX1_swelling 28 = .ok (.aload_n 0, 1) := by decide +kernel
theorem dX1_swelling_29 : decode cX1_swelling 29 = .ok (.getfield 7, 3) := by decide +kernel
theorem dX1_swelling_32 : decode cX1_swelling 32 = .ok (.bipush 111, 2) := by decide +kernel
theorem dX1_swelling_34 : decode cX1_swelling 34 = .ok (.if_icmp .ne 8, 3) := by decide +kernel
theorem dX1_swelling_37 : decode cX1_swelling 37 = .ok (.bipush 9, 2) := by decide +kernel
theorem dX1_swelling_39 : decode cX1_swelling 39 = .ok (.goto 4, 3) := by decide +kernel
theorem dX1_swelling_42 : decode cX1_swelling 42 = .ok (.iconst 4, 1) := by decide +kernel
theorem dX1_swelling_43 : decode cX1_swelling 43 = .ok (.ireturn, 1) := by decide +kernel
theorem dX2_init_0 : decode cX2_init 0 = .ok (.aload_n 0, 1) := by decide +kernel
theorem dX2_init_1 : decode cX2_init 1 = .ok (.invokespecial 1, 3) := by decide +kernel
theorem dX2_init_4 : decode cX2_init 4 = .ok (.aload_n 0, 1) := by decide +kernel
theorem dX2_init_5 : decode cX2_init 5 = .ok (.iload_n 1, 1) := by decide +kernel
theorem dX2_init_6 : decode cX2_init 6 = .ok (.putfield 7, 3) := by decide +kernel
theorem dX2_init_9 : decode cX2_init 9 = .ok (.aload_n 0, 1) := by decide +kernel
theorem dX2_init_10 : decode cX2_init 10 = .ok (.iload_n 2, 1) := by decide +kernel
theorem dX2_init_11 : decode cX2_init 11 = .ok (.putfield 13, 3) := by decide +kernel
theorem dX2_init_14 : decode cX2_init 14 = .ok (.return_, 1) := by decide +kernel
theorem dX2_surface_0 : decode cX2_surface 0 = .ok (.aload_n 0, 1) := by decide +kernel
theorem dX2_surface_1 : decode cX2_surface 1 = .ok (.getfield 7, 3) := by decide +kernel
theorem dX2_surface_4 : decode cX2_surface 4 = .ok (.aload_n 0, 1) := by decide +kernel
theorem dX2_surface_5 : decode cX2_surface 5 = .ok (.getfield 13, 3) := by decide +kernel
theorem dX2_surface_8 : decode cX2_surface 8 = .ok (.imul, 1) := by decide +kernel
theorem dX2_surface_9 : decode cX2_surface 9 = .ok (.ireturn, 1) := by decide +kernel
theorem dX2_isSmallerThan_0 : decode cX2_isSmallerThan 0 = .ok (.aload_n 0, 1) := by decide +kernel
theorem dX2_isSmallerThan_1 : decode cX2_isSmallerThan 1 = .ok (.getfield 7, 3) := by decide +kernel
theorem dX2_isSmallerThan_4 : decode cX2_isSmallerThan 4 = .ok (.aload_n 1, 1) := by decide +kernel
theorem dX2_isSmallerThan_5 : decode cX2_isSmallerThan 5 = .ok (.getfield 7, 3) := by decide +kernel
theorem dX2_isSmallerThan_8 : decode cX2_isSmallerThan 8 = .ok (.if_icmp .lt 25, 3) := by decide +kernel
theorem dX2_isSmallerThan_11 : decode cX2_isSmallerThan 11 = .ok (.aload_n 0, 1) := by decide +kernel
theorem dX2_isSmallerThan_12 : decode cX2_isSmallerThan 12 = .ok (.getfield 7, 3) := by decide +kernel
theorem dX2_isSmallerThan_15 : decode cX2_isSmallerThan 15 = .ok (.aload_n 1, 1) := by decide +kernel
theorem dX2_isSmallerThan_16 : decode cX2_isSmallerThan 16 = .ok (.getfield 7, 3) := by decide +kernel
theorem dX2_isSmallerThan_19 : decode cX2_isSmallerThan 19 = .ok (.if_icmp .ne 18, 3) := by decide +kernel
theorem dX2_isSmallerThan_22 : decode cX2_isSmallerThan 22 = .ok (.aload_n 0, 1) := by decide +kernel
theorem dX2_isSmallerThan_23 : decode cX2_isSmallerThan 23 = .ok (.getfield 13, 3) := by decide +kernel
theorem dX2_isSmallerThan_26 : decode cX2_isSmallerThan 26 = .ok (.aload_n 1, 1) := by decide +kernel
theorem dX2_isSmallerThan_27 : decode cX2_isSmallerThan 27 = .ok (.getfield 13, 3) := by decide +kernel
theorem dX2_isSmallerThan_30 : decode cX2_isSmallerThan 30 = .ok (.if_icmp .ge 7, 3) := by decide +kernel
theorem dX2_isSmallerThan_33 : decode cX2_isSmallerThan 33 = .ok (.iconst 1, 1) := by decide +kernel
theorem dX2_isSmallerThan_34 : decode cX2_isSmallerThan 34 = .ok (.goto 4, 3) := by decide +kernel
theorem dX2_isSmallerThan_37 : decode cX2_isSmallerThan 37 = .ok (.iconst 0, 1) := by decide +kernel
theorem dX2_isSmallerThan_38 : decode cX2_isSmallerThan 38 = .ok (.ireturn, 1) := by decide +kernel
theorem dX3_init_0 : decode cX3_init 0 = .ok (.aload_n 0, 1) := by decide +kernel
theorem dX3_init_1 : decode cX3_init 1 = .ok (.invokespecial 1, 3) := by decide +kernel
theorem dX3_init_4 : decode cX3_init 4 = .ok (.aload_n 0, 1) := by decide +kernel
theorem dX3_init_5 : decode cX3_init 5 = .ok (.aload_n 1, 1) := by decide +kernel
theorem dX3_init_6 : decode cX3_init 6 = .ok (.putfield 7, 3) := by decide +kernel
theorem dX3_init_9 : decode cX3_init 9 = .ok (.aload_n 0, 1) := by decide +kernel
theorem dX3_init_10 : decode cX3_init 10 = .ok (.iload_n 2, 1) := by decide +kernel
theorem dX3_init_11 : decode cX3_init 11 = .ok (.putfield 13, 3) := by decide +kernel
theorem dX3_init_14 : decode cX3_init 14 = .ok (.aload_n 0, 1) := by decide +kernel
theorem dX3_init_15 : decode cX3_init 15 = .ok (.iload_n 3, 1) := by decide +kernel
theorem dX3_init_16 : decode cX3_init 16 = .ok (.putfield 17, 3) := by decide +kernel
theorem dX3_init_19 : decode cX3_init 19 = .ok (.return_, 1) := by decide +kernel
theorem dX3_holds_0 : decode cX3_holds 0 = .ok (.aload_n 0, 1) := by decide +kernel
theorem dX3_holds_1 : decode cX3_holds 1 = .ok (.getfield 7, 3) := by decide +kernel
theorem dX3_holds_4 : decode cX3_holds 4 = .ok (.aload_n 1, 1) := by decide +kernel
theorem dX3_holds_5 : decode cX3_holds 5 = .ok (.if_acmp .ne 28, 3) := by decide +kernel
theorem dX3_holds_8 : decode cX3_holds 8 = .ok (.iload_n 2, 1) := by decide +kernel
theorem dX3_holds_9 : decode cX3_holds 9 = .ok (.aload_n 0, 1) := by decide +kernel
theorem dX3_holds_10 : decode cX3_holds 10 = .ok (.getfield 13, 3) := by decide +kernel
theorem dX3_holds_13 : decode cX3_holds 13 = .ok (.if_icmp .lt 20, 3) := by decide +kernel
theorem dX3_holds_16 : decode cX3_holds 16 = .ok (.iload_n 2, 1) := by decide +kernel
theorem dX3_holds_17 : decode cX3_holds 17 = .ok (.aload_n 0, 1) := by decide +kernel
theorem dX3_holds_18 : decode cX3_holds 18 = .ok (.getfield 13, 3) := by decide +kernel
theorem dX3_holds_21 : decode cX3_holds 21 = .ok (.aload_n 0, 1) := by decide +kernel
theorem dX3_holds_22 : decode cX3_holds 22 = .ok (.getfield 17, 3) := by decide +kernel
theorem dX3_holds_25 : decode cX3_holds 25 = .ok (.iadd, 1) := by decide +kernel
theorem dX3_holds_26 : decode cX3_holds 26 = .ok (.if_icmp .ge 7, 3) := by decide +kernel
theorem dX3_holds_29 : decode cX3_holds 29 = .ok (.iconst 1, 1) := by decide +kernel
theorem dX3_holds_30 : decode cX3_holds 30 = .ok (.goto 4, 3) := by decide +kernel
theorem dX3_holds_33 : decode cX3_holds 33 = .ok (.iconst 0, 1) := by decide +kernel
theorem dX3_holds_34 : decode cX3_holds 34 = .ok (.ireturn, 1) := by decide +kernel
theorem dX3_leafFor_0 : decode cX3_leafFor 0 = .ok (.aload_n 0, 1) := by decide +kernel
theorem dX3_leafFor_1 : decode cX3_leafFor 1 = .ok (.getfield 17, 3) := by decide +kernel
theorem dX3_leafFor_4 : decode cX3_leafFor 4 = .ok (.ifCond .gt 10, 3) := by decide +kernel
theorem dX3_leafFor_7 : decode cX3_leafFor 7 = .ok (.aload_n 0, 1) := by decide +kernel
theorem dX3_leafFor_8 : decode cX3_leafFor 8 = .ok (.getfield 13, 3) := by decide +kernel
theorem dX3_leafFor_11 : decode cX3_leafFor 11 = .ok (.goto 16, 3) := by decide +kernel
theorem dX3_leafFor_14 : decode cX3_leafFor 14 = .ok (.aload_n 0, 1) := by decide +kernel
theorem dX3_leafFor_15 : decode cX3_leafFor 15 = .ok (.getfield 13, 3) := by decide +kernel
theorem dX3_leafFor_18 : decode cX3_leafFor 18 = .ok (.iload_n 1, 1) := by decide +kernel
theorem dX3_leafFor_19 : decode cX3_leafFor 19 = .ok (.iload_n 2, 1) := by decide +kernel
theorem dX3_leafFor_20 : decode cX3_leafFor 20 = .ok (.iadd, 1) := by decide +kernel
theorem dX3_leafFor_21 : decode cX3_leafFor 21 = .ok (.aload_n 0, 1) := by decide +kernel
theorem dX3_leafFor_22 : decode cX3_leafFor 22 = .ok (.getfield 17, 3) := by decide +kernel
theorem dX3_leafFor_25 : decode cX3_leafFor 25 = .ok (.irem, 1) := by decide +kernel
theorem dX3_leafFor_26 : decode cX3_leafFor 26 = .ok (.iadd, 1) := by decide +kernel
theorem dX3_leafFor_27 : decode cX3_leafFor 27 = .ok (.ireturn, 1) := by decide +kernel
theorem dX3_pullBy_0 : decode cX3_pullBy 0 = .ok (.aload_n 0, 1) := by decide +kernel
theorem dX3_pullBy_1 : decode cX3_pullBy 1 = .ok (.getfield 7, 3) := by decide +kernel
theorem dX3_pullBy_4 : decode cX3_pullBy 4 = .ok (.getfield 20, 3) := by decide +kernel
theorem dX3_pullBy_7 : decode cX3_pullBy 7 = .ok (.aload_n 0, 1) := by decide +kernel
theorem dX3_pullBy_8 : decode cX3_pullBy 8 = .ok (.getfield 7, 3) := by decide +kernel
theorem dX3_pullBy_11 : decode cX3_pullBy 11 = .ok (.getfield 25, 3) := by decide +kernel
theorem dX3_pullBy_14 : decode cX3_pullBy 14 = .ok (.imul, 1) := by decide +kernel
theorem dX3_pullBy_15 : decode cX3_pullBy 15 = .ok (.iload_n 1, 1) := by decide +kernel
theorem dX3_pullBy_16 : decode cX3_pullBy 16 = .ok (.imul, 1) := by decide +kernel
theorem dX3_pullBy_17 : decode cX3_pullBy 17 = .ok (.ireturn, 1) := by decide +kernel
theorem dX4_init_0 : decode cX4_init 0 = .ok (.aload_n 0, 1) := by decide +kernel
theorem dX4_init_1 : decode cX4_init 1 = .ok (.invokespecial 3, 3) := by decide +kernel
theorem dX4_init_4 : decode cX4_init 4 = .ok (.aload_n 0, 1) := by decide +kernel
theorem dX4_init_5 : decode cX4_init 5 = .ok (.iload_n 1, 1) := by decide +kernel
theorem dX4_init_6 : decode cX4_init 6 = .ok (.putfield 9, 3) := by decide +kernel
theorem dX4_init_9 : decode cX4_init 9 = .ok (.aload_n 0, 1) := by decide +kernel
theorem dX4_init_10 : decode cX4_init 10 = .ok (.iload_n 2, 1) := by decide +kernel
theorem dX4_init_11 : decode cX4_init 11 = .ok (.putfield 15, 3) := by decide +kernel
theorem dX4_init_14 : decode cX4_init 14 = .ok (.aload_n 0, 1) := by decide +kernel
theorem dX4_init_15 : decode cX4_init 15 = .ok (.iload_n 3, 1) := by decide +kernel
theorem dX4_init_16 : decode cX4_init 16 = .ok (.putfield 18, 3) := by decide +kernel
theorem dX4_init_19 : decode cX4_init 19 = .ok (.aload_n 0, 1) := by decide +kernel
theorem dX4_init_20 : decode cX4_init 20 = .ok (.iload 4, 2) := by decide +kernel
theorem dX4_init_22 : decode cX4_init 22 = .ok (.putfield 22, 3) := by decide +kernel
theorem dX4_init_25 : decode cX4_init 25 = .ok (.return_, 1) := by decide +kernel
theorem dX4_surface_0 : decode cX4_surface 0 = .ok (.aload_n 0, 1) := by decide +kernel
theorem dX4_surface_1 : decode cX4_surface 1 = .ok (.getfield 9, 3) := by decide +kernel
theorem dX4_surface_4 : decode cX4_surface 4 = .ok (.aload_n 0, 1) := by decide +kernel
theorem dX4_surface_5 : decode cX4_surface 5 = .ok (.getfield 15, 3) := by decide +kernel
theorem dX4_surface_8 : decode cX4_surface 8 = .ok (.imul, 1) := by decide +kernel
theorem dX4_surface_9 : decode cX4_surface 9 = .ok (.ireturn, 1) := by decide +kernel
theorem dX4_cupAt_0 : decode cX4_cupAt 0 = .ok (.iload_n 1, 1) := by decide +kernel
theorem dX4_cupAt_1 : decode cX4_cupAt 1 = .ok (.aload_n 0, 1) := by decide +kernel
theorem dX4_cupAt_2 : decode cX4_cupAt 2 = .ok (.getfield 25, 3) := by decide +kernel
theorem dX4_cupAt_5 : decode cX4_cupAt 5 = .ok (.isub, 1) := by decide +kernel
theorem dX4_cupAt_6 : decode cX4_cupAt 6 = .ok (.istore_n 2, 1) := by decide +kernel
theorem dX4_cupAt_7 : decode cX4_cupAt 7 = .ok (.aload_n 0, 1) := by decide +kernel
theorem dX4_cupAt_8 : decode cX4_cupAt 8 = .ok (.getfield 28, 3) := by decide +kernel
theorem dX4_cupAt_11 : decode cX4_cupAt 11 = .ok (.iload_n 2, 1) := by decide +kernel
theorem dX4_cupAt_12 : decode cX4_cupAt 12 = .ok (.invokestatic 32, 3) := by decide +kernel
theorem dX4_cupAt_15 : decode cX4_cupAt 15 = .ok (.aload_n 0, 1) := by decide +kernel
theorem dX4_cupAt_16 : decode cX4_cupAt 16 = .ok (.getfield 36, 3) := by decide +kernel
theorem dX4_cupAt_19 : decode cX4_cupAt 19 = .ok (.iload_n 2, 1) := by decide +kernel
theorem dX4_cupAt_20 : decode cX4_cupAt 20 = .ok (.invokestatic 32, 3) := by decide +kernel
theorem dX4_cupAt_23 : decode cX4_cupAt 23 = .ok (.isub, 1) := by decide +kernel
theorem dX4_cupAt_24 : decode cX4_cupAt 24 = .ok (.istore_n 3, 1) := by decide +kernel
theorem dX4_cupAt_25 : decode cX4_cupAt 25 = .ok (.aload_n 0, 1) := by decide +kernel
theorem dX4_cupAt_26 : decode cX4_cupAt 26 = .ok (.getfield 22, 3) := by decide +kernel
theorem dX4_cupAt_29 : decode cX4_cupAt 29 = .ok (.aload_n 0, 1) := by decide +kernel
theorem dX4_cupAt_30 : decode cX4_cupAt 30 = .ok (.getfield 18, 3) := by decide +kernel
theorem dX4_cupAt_33 : decode cX4_cupAt 33 = .ok (.bipush 115, 2) := by decide +kernel
theorem dX4_cupAt_35 : decode cX4_cupAt 35 = .ok (.if_icmp .ne 7, 3) := by decide +kernel
theorem dX4_cupAt_38 : decode cX4_cupAt 38 = .ok (.iconst 1, 1) := by decide +kernel
theorem dX4_cupAt_39 : decode cX4_cupAt 39 = .ok (.goto 17, 3) := by decide +kernel
theorem dX4_cupAt_42 : decode cX4_cupAt 42 = .ok (.aload_n 0, 1) := by decide +kernel
theorem dX4_cupAt_43 : decode cX4_cupAt 43 = .ok (.getfield 18, 3) := by decide +kernel
theorem dX4_cupAt_46 : decode cX4_cupAt 46 = .ok (.bipush 99, 2) := by decide +kernel
theorem dX4_cupAt_48 : decode cX4_cupAt 48 = .ok (.if_icmp .ne 7, 3) := by decide +kernel
theorem dX4_cupAt_51 : decode cX4_cupAt 51 = .ok (.iconst 3, 1) := by decide +kernel
theorem dX4_cupAt_52 : decode cX4_cupAt 52 = .ok (.goto 4, 3) := by decide +kernel
theorem dX4_cupAt_55 : decode cX4_cupAt 55 = .ok (.iconst 2, 1) := by decide +kernel
theorem dX4_cupAt_56 : decode cX4_cupAt 56 = .ok (.imul, 1) := by decide +kernel
theorem dX4_cupAt_57 : decode cX4_cupAt 57 = .ok (.istore 4, 2) := by decide +kernel
theorem dX4_cupAt_59 : decode cX4_cupAt 59 = .ok (.iload 4, 2) := by decide +kernel
theorem dX4_cupAt_61 : decode cX4_cupAt 61 = .ok (.ifCond .gt 7, 3) := by decide +kernel
theorem dX4_cupAt_64 : decode cX4_cupAt 64 = .ok (.iconst 0, 1) := by decide +kernel
theorem dX4_cupAt_65 : decode cX4_cupAt 65 = .ok (.goto 10, 3) := by decide +kernel
theorem dX4_cupAt_68 : decode cX4_cupAt 68 = .ok (.bipush 10, 2) := by decide +kernel
theorem dX4_cupAt_70 : decode cX4_cupAt 70 = .ok (.iload_n 3, 1) := by decide +kernel
theorem dX4_cupAt_71 : decode cX4_cupAt 71 = .ok (.imul, 1) := by decide +kernel
theorem dX4_cupAt_72 : decode cX4_cupAt 72 = .ok (.iload 4, 2) := by decide +kernel
theorem dX4_cupAt_74 : decode cX4_cupAt 74 = .ok (.idiv, 1) := by decide +kernel
theorem dX4_cupAt_75 : decode cX4_cupAt 75 = .ok (.ireturn, 1) := by decide +kernel
theorem dX4_pullOf_0 : decode cX4_pullOf 0 = .ok (.aload_n 0, 1) := by decide +kernel
theorem dX4_pullOf_1 : decode cX4_pullOf 1 = .ok (.ifnonnull 7, 3) := by decide +kernel
theorem dX4_pullOf_4 : decode cX4_pullOf 4 = .ok (.iconst 0, 1) := by decide +kernel
theorem dX4_pullOf_5 : decode cX4_pullOf 5 = .ok (.goto 8, 3) := by decide +kernel
theorem dX4_pullOf_8 : decode cX4_pullOf 8 = .ok (.aload_n 0, 1) := by decide +kernel
theorem dX4_pullOf_9 : decode cX4_pullOf 9 = .ok (.iload_n 1, 1) := by decide +kernel
theorem dX4_pullOf_10 : decode cX4_pullOf 10 = .ok (.invokevirtual 39, 3) := by decide +kernel
theorem dX4_pullOf_13 : decode cX4_pullOf 13 = .ok (.ireturn, 1) := by decide +kernel
theorem dX4_isFlatAt_0 : decode cX4_isFlatAt 0 = .ok (.aload_n 0, 1) := by decide +kernel
theorem dX4_isFlatAt_1 : decode cX4_isFlatAt 1 = .ok (.iload_n 1, 1) := by decide +kernel
theorem dX4_isFlatAt_2 : decode cX4_isFlatAt 2 = .ok (.invokevirtual 45, 3) := by decide +kernel
theorem dX4_isFlatAt_5 : decode cX4_isFlatAt 5 = .ok (.bipush (-3), 2) := by decide +kernel
theorem dX4_isFlatAt_7 : decode cX4_isFlatAt 7 = .ok (.iconst 3, 1) := by decide +kernel
theorem dX4_isFlatAt_8 : decode cX4_isFlatAt 8 = .ok (.invokestatic 48, 3) := by decide +kernel
theorem dX4_isFlatAt_11 : decode cX4_isFlatAt 11 = .ok (.ireturn, 1) := by decide +kernel
theorem dX4_isWornThrough_0 : decode cX4_isWornThrough 0 = .ok (.aload_n 0, 1) := by decide +kernel
theorem dX4_isWornThrough_1 : decode cX4_isWornThrough 1 = .ok (.getfield 28, 3) := by decide +kernel
theorem dX4_isWornThrough_4 : decode cX4_isWornThrough 4 = .ok (.ifnull 16, 3) := by decide +kernel
theorem dX4_isWornThrough_7 : decode cX4_isWornThrough 7 = .ok (.aload_n 0, 1) := by decide +kernel
theorem dX4_isWornThrough_8 : decode cX4_isWornThrough 8 = .ok (.getfield 52, 3) := by decide +kernel
theorem dX4_isWornThrough_11 : decode cX4_isWornThrough 11 = .ok (.bipush 10, 2) := by decide +kernel
theorem dX4_isWornThrough_13 : decode cX4_isWornThrough 13 = .ok (.if_icmp .gt 7, 3) := by decide +kernel
theorem dX4_isWornThrough_16 : decode cX4_isWornThrough 16 = .ok (.iconst 1, 1) := by decide +kernel
theorem dX4_isWornThrough_17 : decode cX4_isWornThrough 17 = .ok (.goto 4, 3) := by decide +kernel
theorem dX4_isWornThrough_20 : decode cX4_isWornThrough 20 = .ok (.iconst 0, 1) := by decide +kernel
theorem dX4_isWornThrough_21 : decode cX4_isWornThrough 21 = .ok (.ireturn, 1) := by decide +kernel
theorem dX4_polish_0 : decode cX4_polish 0 = .ok (.iload_n 1, 1) := by decide +kernel
theorem dX4_polish_1 : decode cX4_polish 1 = .ok (.iconst 0, 1) := by decide +kernel
theorem dX4_polish_2 : decode cX4_polish 2 = .ok (.iconst 3, 1) := by decide +kernel
theorem dX4_polish_3 : decode cX4_polish 3 = .ok (.aload_n 0, 1) := by decide +kernel
theorem dX4_polish_4 : decode cX4_polish 4 = .ok (.getfield 55, 3) := by decide +kernel
theorem dX4_polish_7 : decode cX4_polish 7 = .ok (.isub, 1) := by decide +kernel
theorem dX4_polish_8 : decode cX4_polish 8 = .ok (.invokestatic 58, 3) := by decide +kernel
theorem dX4_polish_11 : decode cX4_polish 11 = .ok (.invokestatic 64, 3) := by decide +kernel
theorem dX4_polish_14 : decode cX4_polish 14 = .ok (.istore_n 2, 1) := by decide +kernel
theorem dX4_polish_15 : decode cX4_polish 15 = .ok (.aload_n 0, 1) := by decide +kernel
theorem dX4_polish_16 : decode cX4_polish 16 = .ok (.bipush 99, 2) := by decide +kernel
theorem dX4_polish_18 : decode cX4_polish 18 = .ok (.aload_n 0, 1) := by decide +kernel
theorem dX4_polish_19 : decode cX4_polish 19 = .ok (.getfield 67, 3) := by decide +kernel
theorem dX4_polish_22 : decode cX4_polish 22 = .ok (.iconst 2, 1) := by decide +kernel
theorem dX4_polish_23 : decode cX4_polish 23 = .ok (.iload_n 2, 1) := by decide +kernel
theorem dX4_polish_24 : decode cX4_polish 24 = .ok (.imul, 1) := by decide +kernel
theorem dX4_polish_25 : decode cX4_polish 25 = .ok (.iadd, 1) := by decide +kernel
theorem dX4_polish_26 : decode cX4_polish 26 = .ok (.invokestatic 64, 3) := by decide +kernel
theorem dX4_polish_29 : decode cX4_polish 29 = .ok (.putfield 67, 3) := by decide +kernel
theorem dX4_polish_32 : decode cX4_polish 32 = .ok (.aload_n 0, 1) := by decide +kernel
theorem dX4_polish_33 : decode cX4_polish 33 = .ok (.dup, 1) := by decide +kernel
theorem dX4_polish_34 : decode cX4_polish 34 = .ok (.getfield 70, 3) := by decide +kernel
theorem dX4_polish_37 : decode cX4_polish 37 = .ok (.iload_n 1, 1) := by decide +kernel
theorem dX4_polish_38 : decode cX4_polish 38 = .ok (.iload_n 2, 1) := by decide +kernel
theorem dX4_polish_39 : decode cX4_polish 39 = .ok (.isub, 1) := by decide +kernel
theorem dX4_polish_40 : decode cX4_polish 40 = .ok (.iadd, 1) := by decide +kernel
theorem dX4_polish_41 : decode cX4_polish 41 = .ok (.putfield 70, 3) := by decide +kernel
theorem dX4_polish_44 : decode cX4_polish 44 = .ok (.aload_n 0, 1) := by decide +kernel
theorem dX4_polish_45 : decode cX4_polish 45 = .ok (.dup, 1) := by decide +kernel
theorem dX4_polish_46 : decode cX4_polish 46 = .ok (.getfield 55, 3) := by decide +kernel
theorem dX4_polish_49 : decode cX4_polish 49 = .ok (.iload_n 1, 1) := by decide +kernel
theorem dX4_polish_50 : decode cX4_polish 50 = .ok (.iadd, 1) := by decide +kernel
theorem dX4_polish_51 : decode cX4_polish 51 = .ok (.putfield 55, 3) := by decide +kernel
theorem dX4_polish_54 : decode cX4_polish 54 = .ok (.return_, 1) := by decide +kernel
theorem dX4_worth_0 : decode cX4_worth 0 = .ok (.aload_n 0, 1) := by decide +kernel
theorem dX4_worth_1 : decode cX4_worth 1 = .ok (.getfield 73, 3) := by decide +kernel
theorem dX4_worth_4 : decode cX4_worth 4 = .ok (.ifCond .eq 7, 3) := by decide +kernel
theorem dX4_worth_7 : decode cX4_worth 7 = .ok (.iconst 5, 1) := by decide +kernel
theorem dX4_worth_8 : decode cX4_worth 8 = .ok (.goto 4, 3) := by decide +kernel
theorem dX4_worth_11 : decode cX4_worth 11 = .ok (.iconst 0, 1) := by decide +kernel
theorem dX4_worth_12 : decode cX4_worth 12 = .ok (.istore_n 1, 1) := by decide +kernel
theorem dX4_worth_13 : decode cX4_worth 13 = .ok (.aload_n 0, 1) := by decide +kernel
theorem dX4_worth_14 : decode cX4_worth 14 = .ok (.getfield 28, 3) := by decide +kernel
theorem dX4_worth_17 : decode cX4_worth 17 = .ok (.ifnull 23, 3) := by decide +kernel
theorem dX4_worth_20 : decode cX4_worth 20 = .ok (.iload_n 1, 1) := by decide +kernel
theorem dX4_worth_21 : decode cX4_worth 21 = .ok (.iconst 2, 1) := by decide +kernel
theorem dX4_worth_22 : decode cX4_worth 22 = .ok (.aload_n 0, 1) := by decide +kernel
theorem dX4_worth_23 : decode cX4_worth 23 = .ok (.getfield 28, 3) := by decide +kernel
theorem dX4_worth_26 : decode cX4_worth 26 = .ok (.getfield 77, 3) := by decide +kernel
theorem dX4_worth_29 : decode cX4_worth 29 = .ok (.imul, 1) := by decide +kernel
theorem dX4_worth_30 : decode cX4_worth 30 = .ok (.aload_n 0, 1) := by decide +kernel
theorem dX4_worth_31 : decode cX4_worth 31 = .ok (.invokevirtual 80, 3) := by decide +kernel
theorem dX4_worth_34 : decode cX4_worth 34 = .ok (.bipush 10, 2) := by decide +kernel
theorem dX4_worth_36 : decode cX4_worth 36 = .ok (.idiv, 1) := by decide +kernel
theorem dX4_worth_37 : decode cX4_worth 37 = .ok (.iadd, 1) := by decide +kernel
theorem dX4_worth_38 : decode cX4_worth 38 = .ok (.iadd, 1) := by decide +kernel
theorem dX4_worth_39 : decode cX4_worth 39 = .ok (.istore_n 1, 1) := by decide +kernel
theorem dX4_worth_40 : decode cX4_worth 40 = .ok (.aload_n 0, 1) := by decide +kernel
theorem dX4_worth_41 : decode cX4_worth 41 = .ok (.getfield 36, 3) := by decide +kernel
theorem dX4_worth_44 : decode cX4_worth 44 = .ok (.ifnull 15, 3) := by decide +kernel
theorem dX4_worth_47 : decode cX4_worth 47 = .ok (.iload_n 1, 1) := by decide +kernel
theorem dX4_worth_48 : decode cX4_worth 48 = .ok (.iconst 2, 1) := by decide +kernel
theorem dX4_worth_49 : decode cX4_worth 49 = .ok (.aload_n 0, 1) := by decide +kernel
theorem dX4_worth_50 : decode cX4_worth 50 = .ok (.getfield 36, 3) := by decide +kernel
theorem dX4_worth_53 : decode cX4_worth 53 = .ok (.getfield 77, 3) := by decide +kernel
theorem dX4_worth_56 : decode cX4_worth 56 = .ok (.imul, 1) := by decide +kernel
theorem dX4_worth_57 : decode cX4_worth 57 = .ok (.iadd, 1) := by decide +kernel
theorem dX4_worth_58 : decode cX4_worth 58 = .ok (.istore_n 1, 1) := by decide +kernel
theorem dX4_worth_59 : decode cX4_worth 59 = .ok (.iload_n 1, 1) := by decide +kernel
theorem dX4_worth_60 : decode cX4_worth 60 = .ok (.aload_n 0, 1) := by decide +kernel
theorem dX4_worth_61 : decode cX4_worth 61 = .ok (.getfield 67, 3) := by decide +kernel
theorem dX4_worth_64 : decode cX4_worth 64 = .ok (.iadd, 1) := by decide +kernel
theorem dX4_worth_65 : decode cX4_worth 65 = .ok (.iconst 3, 1) := by decide +kernel
theorem dX4_worth_66 : decode cX4_worth 66 = .ok (.aload_n 0, 1) := by decide +kernel
theorem dX4_worth_67 : decode cX4_worth 67 = .ok (.getfield 84, 3) := by decide +kernel
theorem dX4_worth_70 : decode cX4_worth 70 = .ok (.aload_n 0, 1) := by decide +kernel
theorem dX4_worth_71 : decode cX4_worth 71 = .ok (.getfield 70, 3) := by decide +kernel
theorem dX4_worth_74 : decode cX4_worth 74 = .ok (.iadd, 1) := by decide +kernel
theorem dX4_worth_75 : decode cX4_worth 75 = .ok (.imul, 1) := by decide +kernel
theorem dX4_worth_76 : decode cX4_worth 76 = .ok (.isub, 1) := by decide +kernel
theorem dX4_worth_77 : decode cX4_worth 77 = .ok (.ireturn, 1) := by decide +kernel
theorem dX5_init_0 : decode cX5_init 0 = .ok (.aload_n 0, 1) := by decide +kernel
theorem dX5_init_1 : decode cX5_init 1 = .ok (.invokespecial 3, 3) := by decide +kernel
theorem dX5_init_4 : decode cX5_init 4 = .ok (.aload_n 0, 1) := by decide +kernel
theorem dX5_init_5 : decode cX5_init 5 = .ok (.bipush 64, 2) := by decide +kernel
theorem dX5_init_7 : decode cX5_init 7 = .ok (.newarray .int, 2) := by decide +kernel
theorem dX5_init_9 : decode cX5_init 9 = .ok (.putfield 9, 3) := by decide +kernel
theorem dX5_init_12 : decode cX5_init 12 = .ok (.aload_n 0, 1) := by decide +kernel
theorem dX5_init_13 : decode cX5_init 13 = .ok (.bipush 8, 2) := by decide +kernel
theorem dX5_init_15 : decode cX5_init 15 = .ok (.newarray .int, 2) := by decide +kernel
theorem dX5_init_17 : decode cX5_init 17 = .ok (.putfield 15, 3) := by decide +kernel
theorem dX5_init_20 : decode cX5_init 20 = .ok (.aload_n 0, 1) := by decide +kernel
theorem dX5_init_21 : decode cX5_init 21 = .ok (.bipush 64, 2) := by decide +kernel
theorem dX5_init_23 : decode cX5_init 23 = .ok (.newarray .boolean, 2) := by decide +kernel
theorem dX5_init_25 : decode cX5_init 25 = .ok (.putfield 18, 3) := by decide +kernel
theorem dX5_init_28 : decode cX5_init 28 = .ok (.aload_n 0, 1) := by decide +kernel
theorem dX5_init_29 : decode cX5_init 29 = .ok (.bipush 64, 2) := by decide +kernel
theorem dX5_init_31 : decode cX5_init 31 = .ok (.newarray .int, 2) := by decide +kernel
theorem dX5_init_33 : decode cX5_init 33 = .ok (.putfield 22, 3) := by decide +kernel
theorem dX5_init_36 : decode cX5_init 36 = .ok (.aload_n 0, 1) := by decide +kernel
theorem dX5_init_37 : decode cX5_init 37 = .ok (.iconst 1, 1) := by decide +kernel
theorem dX5_init_38 : decode cX5_init 38 = .ok (.putfield 25, 3) := by decide +kernel
theorem dX5_init_41 : decode cX5_init 41 = .ok (.aload_n 0, 1) := by decide +kernel
theorem dX5_init_42 : decode cX5_init 42 = .ok (.bipush 64, 2) := by decide +kernel
theorem dX5_init_44 : decode cX5_init 44 = .ok (.putfield 29, 3) := by decide +kernel
theorem dX5_init_47 : decode cX5_init 47 = .ok (.return_, 1) := by decide +kernel
theorem dX5_fieldOf_0 : decode cX5_fieldOf 0 = .ok (.iload_n 1, 1) := by decide +kernel
theorem dX5_fieldOf_1 : decode cX5_fieldOf 1 = .ok (.ifCond .lt 18, 3) := by decide +kernel
theorem dX5_fieldOf_4 : decode cX5_fieldOf 4 = .ok (.iload_n 1, 1) := by decide +kernel
theorem dX5_fieldOf_5 : decode cX5_fieldOf 5 = .ok (.bipush 64, 2) := by decide +kernel
theorem dX5_fieldOf_7 : decode cX5_fieldOf 7 = .ok (.if_icmp .ge 12, 3) := by decide +kernel
theorem dX5_fieldOf_10 : decode cX5_fieldOf 10 = .ok (.aload_n 0, 1) := by decide +kernel
theorem dX5_fieldOf_11 : decode cX5_fieldOf 11 = .ok (.getfield 9, 3) := by decide +kernel
theorem dX5_fieldOf_14 : decode cX5_fieldOf 14 = .ok (.iload_n 1, 1) := by decide +kernel
theorem dX5_fieldOf_15 : decode cX5_fieldOf 15 = .ok (.iaload, 1) := by decide +kernel
theorem dX5_fieldOf_16 : decode cX5_fieldOf 16 = .ok (.goto 4, 3) := by decide +kernel
theorem dX5_fieldOf_19 : decode cX5_fieldOf 19 = .ok (.iconst 0, 1) := by decide +kernel
theorem dX5_fieldOf_20 : decode cX5_fieldOf 20 = .ok (.ireturn, 1) := by decide +kernel
theorem dX5_paint_0 : decode cX5_paint 0 = .ok (.iconst 0, 1) := by decide +kernel
theorem dX5_paint_1 : decode cX5_paint 1 = .ok (.istore 5, 2) := by decide +kernel
theorem dX5_paint_3 : decode cX5_paint 3 = .ok (.iload 5, 2) := by decide +kernel
theorem dX5_paint_5 : decode cX5_paint 5 = .ok (.iload_n 3, 1) := by decide +kernel
theorem dX5_paint_6 : decode cX5_paint 6 = .ok (.if_icmp .ge 41, 3) := by decide +kernel
theorem dX5_paint_9 : decode cX5_paint 9 = .ok (.iload_n 1, 1) := by decide +kernel
theorem dX5_paint_10 : decode cX5_paint 10 = .ok (.bipush 8, 2) := by decide +kernel
theorem dX5_paint_12 : decode cX5_paint 12 = .ok (.imul, 1) := by decide +kernel
theorem dX5_paint_13 : decode cX5_paint 13 = .ok (.iload_n 2, 1) := by decide +kernel
theorem dX5_paint_14 : decode cX5_paint 14 = .ok (.iadd, 1) := by decide +kernel
theorem dX5_paint_15 : decode cX5_paint 15 = .ok (.iload 5, 2) := by decide +kernel
theorem dX5_paint_17 : decode cX5_paint 17 = .ok (.iadd, 1) := by decide +kernel
theorem dX5_paint_18 : decode cX5_paint 18 = .ok (.istore 6, 2) := by decide +kernel
theorem dX5_paint_20 : decode cX5_paint 20 = .ok (.iload 6, 2) := by decide +kernel
theorem dX5_paint_22 : decode cX5_paint 22 = .ok (.ifCond .lt 19, 3) := by decide +kernel
theorem dX5_paint_25 : decode cX5_paint 25 = .ok (.iload 6, 2) := by decide +kernel
theorem dX5_paint_27 : decode cX5_paint 27 = .ok (.bipush 64, 2) := by decide +kernel
theorem dX5_paint_29 : decode cX5_paint 29 = .ok (.if_icmp .ge 12, 3) := by decide +kernel
theorem dX5_paint_32 : decode cX5_paint 32 = .ok (.aload_n 0, 1) := by decide +kernel
theorem dX5_paint_33 : decode cX5_paint 33 = .ok (.getfield 9, 3) := by decide +kernel
theorem dX5_paint_36 : decode cX5_paint 36 = .ok (.iload 6, 2) := by decide +kernel
theorem dX5_paint_38 : decode cX5_paint 38 = .ok (.iload 4, 2) := by decide +kernel
theorem dX5_paint_40 : decode cX5_paint 40 = .ok (.iastore, 1) := by decide +kernel
theorem dX5_paint_41 : decode cX5_paint 41 = .ok (.iinc 5 1, 3) := by decide +kernel
theorem dX5_paint_44 : decode cX5_paint 44 = .ok (.goto (-41), 3) := by decide +kernel
theorem dX5_paint_47 : decode cX5_paint 47 = .ok (.aload_n 0, 1) := by decide +kernel
theorem dX5_paint_48 : decode cX5_paint 48 = .ok (.invokevirtual 32, 3) := by decide +kernel
theorem dX5_paint_51 : decode cX5_paint 51 = .ok (.return_, 1) := by decide +kernel
theorem dX5_countPieces_0 : decode cX5_countPieces 0 = .ok (.iconst 0, 1) := by decide +kernel
theorem dX5_countPieces_1 : decode cX5_countPieces 1 = .ok (.istore_n 1, 1) := by decide +kernel
theorem dX5_countPieces_2 : decode cX5_countPieces 2 = .ok (.iload_n 1, 1) := by decide +kernel
theorem dX5_countPieces_3 : decode cX5_countPieces 3 = .ok (.bipush 64, 2) := by decide +kernel
theorem dX5_countPieces_5 : decode cX5_countPieces 5 = .ok (.if_icmp .ge 16, 3) := by decide +kernel
theorem dX5_countPieces_8 : decode cX5_countPieces 8 = .ok (.aload_n 0, 1) := by decide +kernel
theorem dX5_countPieces_9 : decode cX5_countPieces 9 = .ok (.getfield 18, 3) := by decide +kernel
theorem dX5_countPieces_12 : decode cX5_countPieces 12 = .ok (.iload_n 1, 1) := by decide +kernel
theorem dX5_countPieces_13 : decode cX5_countPieces 13 = .ok (.iconst 0, 1) := by decide +kernel
theorem dX5_countPieces_14 : decode cX5_countPieces 14 = .ok (.bastore, 1) := by decide +kernel
theorem dX5_countPieces_15 : decode cX5_countPieces 15 = .ok (.iinc 1 1, 3) := by decide +kernel
theorem dX5_countPieces_18 : decode cX5_countPieces 18 = .ok (.goto (-16), 3) := by decide +kernel
theorem dX5_countPieces_21 : decode cX5_countPieces 21 = .ok (.aload_n 0, 1) := by decide +kernel
theorem dX5_countPieces_22 : decode cX5_countPieces 22 = .ok (.iconst 0, 1) := by decide +kernel
theorem dX5_countPieces_23 : decode cX5_countPieces 23 = .ok (.putfield 25, 3) := by decide +kernel
theorem dX5_countPieces_26 : decode cX5_countPieces 26 = .ok (.aload_n 0, 1) := by decide +kernel
theorem dX5_countPieces_27 : decode cX5_countPieces 27 = .ok (.iconst 0, 1) := by decide +kernel
theorem dX5_countPieces_28 : decode cX5_countPieces 28 = .ok (.putfield 35, 3) := by decide +kernel
theorem dX5_countPieces_31 : decode cX5_countPieces 31 = .ok (.aload_n 0, 1) := by decide +kernel
theorem dX5_countPieces_32 : decode cX5_countPieces 32 = .ok (.iconst 0, 1) := by decide +kernel
theorem dX5_countPieces_33 : decode cX5_countPieces 33 = .ok (.putfield 29, 3) := by decide +kernel
theorem dX5_countPieces_36 : decode cX5_countPieces 36 = .ok (.iconst 0, 1) := by decide +kernel
theorem dX5_countPieces_37 : decode cX5_countPieces 37 = .ok (.istore_n 1, 1) := by decide +kernel
theorem dX5_countPieces_38 : decode cX5_countPieces 38 = .ok (.iload_n 1, 1) := by decide +kernel
theorem dX5_countPieces_39 : decode cX5_countPieces 39 = .ok (.bipush 64, 2) := by decide +kernel
theorem dX5_countPieces_41 : decode cX5_countPieces 41 = .ok (.if_icmp .ge 66, 3) := by decide +kernel
theorem dX5_countPieces_44 : decode cX5_countPieces 44 = .ok (.aload_n 0, 1) := by decide +kernel
theorem dX5_countPieces_45 : decode cX5_countPieces 45 = .ok (.getfield 18, 3) := by decide +kernel
theorem dX5_countPieces_48 : decode cX5_countPieces 48 = .ok (.iload_n 1, 1) := by decide +kernel
theorem dX5_countPieces_49 : decode cX5_countPieces 49 = .ok (.baload, 1) := by decide +kernel
theorem dX5_countPieces_50 : decode cX5_countPieces 50 = .ok (.ifCond .ne 51, 3) := by decide +kernel
theorem dX5_countPieces_53 : decode cX5_countPieces 53 = .ok (.aload_n 0, 1) := by decide +kernel
theorem dX5_countPieces_54 : decode cX5_countPieces 54 = .ok (.dup, 1) := by decide +kernel
theorem dX5_countPieces_55 : decode cX5_countPieces 55 = .ok (.getfield 25, 3) := by decide +kernel
theorem dX5_countPieces_58 : decode cX5_countPieces 58 = .ok (.iconst 1, 1) := by decide +kernel
theorem dX5_countPieces_59 : decode cX5_countPieces 59 = .ok (.iadd, 1) := by decide +kernel
theorem dX5_countPieces_60 : decode cX5_countPieces 60 = .ok (.putfield 25, 3) := by decide +kernel
theorem dX5_countPieces_63 : decode cX5_countPieces 63 = .ok (.aload_n 0, 1) := by decide +kernel
theorem dX5_countPieces_64 : decode cX5_countPieces 64 = .ok (.iload_n 1, 1) := by decide +kernel
theorem dX5_countPieces_65 : decode cX5_countPieces 65 = .ok (.invokevirtual 38, 3) := by decide +kernel
theorem dX5_countPieces_68 : decode cX5_countPieces 68 = .ok (.istore_n 2, 1) := by decide +kernel
theorem dX5_countPieces_69 : decode cX5_countPieces 69 = .ok (.aload_n 0, 1) := by decide +kernel
theorem dX5_countPieces_70 : decode cX5_countPieces 70 = .ok (.dup, 1) := by decide +kernel
theorem dX5_countPieces_71 : decode cX5_countPieces 71 = .ok (.getfield 29, 3) := by decide +kernel
theorem dX5_countPieces_74 : decode cX5_countPieces 74 = .ok (.iload_n 2, 1) := by decide +kernel
theorem dX5_countPieces_75 : decode cX5_countPieces 75 = .ok (.iadd, 1) := by decide +kernel
theorem dX5_countPieces_76 : decode cX5_countPieces 76 = .ok (.putfield 29, 3) := by decide +kernel
theorem dX5_countPieces_79 : decode cX5_countPieces 79 = .ok (.aload_n 0, 1) := by decide +kernel
theorem dX5_countPieces_80 : decode cX5_countPieces 80 = .ok (.dup, 1) := by decide +kernel
theorem dX5_countPieces_81 : decode cX5_countPieces 81 = .ok (.getfield 35, 3) := by decide +kernel
theorem dX5_countPieces_84 : decode cX5_countPieces 84 = .ok (.aload_n 0, 1) := by decide +kernel
theorem dX5_countPieces_85 : decode cX5_countPieces 85 = .ok (.iload_n 2, 1) := by decide +kernel
theorem dX5_countPieces_86 : decode cX5_countPieces 86 = .ok (.invokevirtual 42, 3) := by decide +kernel
theorem dX5_countPieces_89 : decode cX5_countPieces 89 = .ok (.ifCond .eq 7, 3) := by decide +kernel
theorem dX5_countPieces_92 : decode cX5_countPieces 92 = .ok (.iconst 1, 1) := by decide +kernel
theorem dX5_countPieces_93 : decode cX5_countPieces 93 = .ok (.goto 4, 3) := by decide +kernel
theorem dX5_countPieces_96 : decode cX5_countPieces 96 = .ok (.iconst 0, 1) := by decide +kernel
theorem dX5_countPieces_97 : decode cX5_countPieces 97 = .ok (.iadd, 1) := by decide +kernel
theorem dX5_countPieces_98 : decode cX5_countPieces 98 = .ok (.putfield 35, 3) := by decide +kernel
theorem dX5_countPieces_101 : decode cX5_countPieces 101 = .ok (.iinc 1 1, 3) := by decide +kernel
theorem dX5_countPieces_104 : decode cX5_countPieces 104 = .ok (.goto (-66), 3) := by decide +kernel
theorem dX5_countPieces_107 : decode cX5_countPieces 107 = .ok (.return_, 1) := by decide +kernel
theorem dX5_gatherPiece_0 : decode cX5_gatherPiece 0 = .ok (.aload_n 0, 1) := by decide +kernel
theorem dX5_gatherPiece_1 : decode cX5_gatherPiece 1 = .ok (.iload_n 1, 1) := by decide +kernel
theorem dX5_gatherPiece_2 : decode cX5_gatherPiece 2 = .ok (.iconst 0, 1) := by decide +kernel
theorem dX5_gatherPiece_3 : decode cX5_gatherPiece 3 = .ok (.invokevirtual 46, 3) := by decide +kernel
theorem dX5_gatherPiece_6 : decode cX5_gatherPiece 6 = .ok (.istore_n 2, 1) := by decide +kernel
theorem dX5_gatherPiece_7 : decode cX5_gatherPiece 7 = .ok (.iconst 0, 1) := by decide +kernel
theorem dX5_gatherPiece_8 : decode cX5_gatherPiece 8 = .ok (.istore_n 3, 1) := by decide +kernel
theorem dX5_gatherPiece_9 : decode cX5_gatherPiece 9 = .ok (.iload_n 3, 1) := by decide +kernel
theorem dX5_gatherPiece_10 : decode cX5_gatherPiece 10 = .ok (.iload_n 2, 1) := by decide +kernel
theorem dX5_gatherPiece_11 : decode cX5_gatherPiece 11 = .ok (.if_icmp .ge 70, 3) := by decide +kernel
theorem dX5_gatherPiece_14 : decode cX5_gatherPiece 14 = .ok (.iload_n 3, 1) := by decide +kernel
theorem dX5_gatherPiece_15 : decode cX5_gatherPiece 15 = .ok (.bipush 64, 2) := by decide +kernel
theorem dX5_gatherPiece_17 : decode cX5_gatherPiece 17 = .ok (.if_icmp .ge 64, 3) := by decide +kernel
theorem dX5_gatherPiece_20 : decode cX5_gatherPiece 20 = .ok (.iconst 0, 1) := by decide +kernel
theorem dX5_gatherPiece_21 : decode cX5_gatherPiece 21 = .ok (.istore 4, 2) := by decide +kernel
theorem dX5_gatherPiece_23 : decode cX5_gatherPiece 23 = .ok (.iload 4, 2) := by decide +kernel
theorem dX5_gatherPiece_25 : decode cX5_gatherPiece 25 = .ok (.iconst 4, 1) := by decide +kernel
theorem dX5_gatherPiece_26 : decode cX5_gatherPiece 26 = .ok (.if_icmp .ge 49, 3) := by decide +kernel
theorem dX5_gatherPiece_29 : decode cX5_gatherPiece 29 = .ok (.aload_n 0, 1) := by decide +kernel
theorem dX5_gatherPiece_30 : decode cX5_gatherPiece 30 = .ok (.getfield 22, 3) := by decide +kernel
theorem dX5_gatherPiece_33 : decode cX5_gatherPiece 33 = .ok (.iload_n 3, 1) := by decide +kernel
theorem dX5_gatherPiece_34 : decode cX5_gatherPiece 34 = .ok (.iaload, 1) := by decide +kernel
theorem dX5_gatherPiece_35 : decode cX5_gatherPiece 35 = .ok (.iload 4, 2) := by decide +kernel
theorem dX5_gatherPiece_37 : decode cX5_gatherPiece 37 = .ok (.invokestatic 50, 3) := by decide +kernel
theorem dX5_gatherPiece_40 : decode cX5_gatherPiece 40 = .ok (.istore 5, 2) := by decide +kernel
theorem dX5_gatherPiece_42 : decode cX5_gatherPiece 42 = .ok (.iload 5, 2) := by decide +kernel
theorem dX5_gatherPiece_44 : decode cX5_gatherPiece 44 = .ok (.ifCond .lt 25, 3) := by decide +kernel
theorem dX5_gatherPiece_47 : decode cX5_gatherPiece 47 = .ok (.aload_n 0, 1) := by decide +kernel
theorem dX5_gatherPiece_48 : decode cX5_gatherPiece 48 = .ok (.iload 5, 2) := by decide +kernel
theorem dX5_gatherPiece_50 : decode cX5_gatherPiece 50 = .ok (.invokevirtual 53, 3) := by decide +kernel
theorem dX5_gatherPiece_53 : decode cX5_gatherPiece 53 = .ok (.aload_n 0, 1) := by decide +kernel
theorem dX5_gatherPiece_54 : decode cX5_gatherPiece 54 = .ok (.iload_n 1, 1) := by decide +kernel
theorem dX5_gatherPiece_55 : decode cX5_gatherPiece 55 = .ok (.invokevirtual 53, 3) := by decide +kernel
theorem dX5_gatherPiece_58 : decode cX5_gatherPiece 58 = .ok (.if_icmp .ne 11, 3) := by decide +kernel
theorem dX5_gatherPiece_61 : decode cX5_gatherPiece 61 = .ok (.aload_n 0, 1) := by decide +kernel
theorem dX5_gatherPiece_62 : decode cX5_gatherPiece 62 = .ok (.iload 5, 2) := by decide +kernel
theorem dX5_gatherPiece_64 : decode cX5_gatherPiece 64 = .ok (.iload_n 2, 1) := by decide +kernel
theorem dX5_gatherPiece_65 : decode cX5_gatherPiece 65 = .ok (.invokevirtual 46, 3) := by decide +kernel
theorem dX5_gatherPiece_68 : decode cX5_gatherPiece 68 = .ok (.istore_n 2, 1) := by decide +kernel
theorem dX5_gatherPiece_69 : decode cX5_gatherPiece 69 = .ok (.iinc 4 1, 3) := by decide +kernel
theorem dX5_gatherPiece_72 : decode cX5_gatherPiece 72 = .ok (.goto (-49), 3) := by decide +kernel
theorem dX5_gatherPiece_75 : decode cX5_gatherPiece 75 = .ok (.iinc 3 1, 3) := by decide +kernel
theorem dX5_gatherPiece_78 : decode cX5_gatherPiece 78 = .ok (.goto (-69), 3) := by decide +kernel
theorem dX5_gatherPiece_81 : decode cX5_gatherPiece 81 = .ok (.iload_n 2, 1) := by decide +kernel
theorem dX5_gatherPiece_82 : decode cX5_gatherPiece 82 = .ok (.ireturn, 1) := by decide +kernel
theorem dX5_enqueue_0 : decode cX5_enqueue 0 = .ok (.iload_n 1, 1) := by decide +kernel
theorem dX5_enqueue_1 : decode cX5_enqueue 1 = .ok (.ifCond .lt 23, 3) := by decide +kernel
theorem dX5_enqueue_4 : decode cX5_enqueue 4 = .ok (.iload_n 1, 1) := by decide +kernel
theorem dX5_enqueue_5 : decode cX5_enqueue 5 = .ok (.bipush 64, 2) := by decide +kernel
theorem dX5_enqueue_7 : decode cX5_enqueue 7 = .ok (.if_icmp .ge 17, 3) := by decide +kernel
theorem dX5_enqueue_10 : decode cX5_enqueue 10 = .ok (.iload_n 2, 1) := by decide +kernel
theorem dX5_enqueue_11 : decode cX5_enqueue 11 = .ok (.ifCond .lt 13, 3) := by decide +kernel
theorem dX5_enqueue_14 : decode cX5_enqueue 14 = .ok (.iload_n 2, 1) := by decide +kernel
theorem dX5_enqueue_15 : decode cX5_enqueue 15 = .ok (.bipush 64, 2) := by decide +kernel
theorem dX5_enqueue_17 : decode cX5_enqueue 17 = .ok (.if_icmp .ge 7, 3) := by decide +kernel
theorem dX5_enqueue_20 : decode cX5_enqueue 20 = .ok (.iconst 1, 1) := by decide +kernel
theorem dX5_enqueue_21 : decode cX5_enqueue 21 = .ok (.goto 4, 3) := by decide +kernel
theorem dX5_enqueue_24 : decode cX5_enqueue 24 = .ok (.iconst 0, 1) := by decide +kernel
theorem dX5_enqueue_25 : decode cX5_enqueue 25 = .ok (.istore_n 3, 1) := by decide +kernel
theorem dX5_enqueue_26 : decode cX5_enqueue 26 = .ok (.iload_n 3, 1) := by decide +kernel
theorem dX5_enqueue_27 : decode cX5_enqueue 27 = .ok (.ifCond .eq 12, 3) := by decide +kernel
theorem dX5_enqueue_30 : decode cX5_enqueue 30 = .ok (.aload_n 0, 1) := by decide +kernel
theorem dX5_enqueue_31 : decode cX5_enqueue 31 = .ok (.getfield 18, 3) := by decide +kernel
theorem dX5_enqueue_34 : decode cX5_enqueue 34 = .ok (.iload_n 1, 1) := by decide +kernel
theorem dX5_enqueue_35 : decode cX5_enqueue 35 = .ok (.baload, 1) := by decide +kernel
theorem dX5_enqueue_36 : decode cX5_enqueue 36 = .ok (.ifCond .eq 5, 3) := by decide +kernel
theorem dX5_enqueue_39 : decode cX5_enqueue 39 = .ok (.iload_n 2, 1) := by decide +kernel
theorem dX5_enqueue_40 : decode cX5_enqueue 40 = .ok (.ireturn, 1) := by decide +kernel
theorem dX5_enqueue_41 : decode cX5_enqueue 41 = .ok (.aload_n 0, 1) := by decide +kernel
theorem dX5_enqueue_42 : decode cX5_enqueue 42 = .ok (.getfield 18, 3) := by decide +kernel
theorem dX5_enqueue_45 : decode cX5_enqueue 45 = .ok (.iload_n 1, 1) := by decide +kernel
theorem dX5_enqueue_46 : decode cX5_enqueue 46 = .ok (.iconst 1, 1) := by decide +kernel
theorem dX5_enqueue_47 : decode cX5_enqueue 47 = .ok (.bastore, 1) := by decide +kernel
theorem dX5_enqueue_48 : decode cX5_enqueue 48 = .ok (.aload_n 0, 1) := by decide +kernel
theorem dX5_enqueue_49 : decode cX5_enqueue 49 = .ok (.getfield 22, 3) := by decide +kernel
theorem dX5_enqueue_52 : decode cX5_enqueue 52 = .ok (.iload_n 2, 1) := by decide +kernel
theorem dX5_enqueue_53 : decode cX5_enqueue 53 = .ok (.iload_n 1, 1) := by decide +kernel
theorem dX5_enqueue_54 : decode cX5_enqueue 54 = .ok (.iastore, 1) := by decide +kernel
theorem dX5_enqueue_55 : decode cX5_enqueue 55 = .ok (.iload_n 2, 1) := by decide +kernel
theorem dX5_enqueue_56 : decode cX5_enqueue 56 = .ok (.iconst 1, 1) := by decide +kernel
theorem dX5_enqueue_57 : decode cX5_enqueue 57 = .ok (.iadd, 1) := by decide +kernel
theorem dX5_enqueue_58 : decode cX5_enqueue 58 = .ok (.ireturn, 1) := by decide +kernel
theorem dX5_isIsland_0 : decode cX5_isIsland 0 = .ok (.iconst (-1), 1) := by decide +kernel
theorem dX5_isIsland_1 : decode cX5_isIsland 1 = .ok (.istore_n 2, 1) := by decide +kernel
theorem dX5_isIsland_2 : decode cX5_isIsland 2 = .ok (.iconst 0, 1) := by decide +kernel
theorem dX5_isIsland_3 : decode cX5_isIsland 3 = .ok (.istore_n 3, 1) := by decide +kernel
theorem dX5_isIsland_4 : decode cX5_isIsland 4 = .ok (.iload_n 3, 1) := by decide +kernel
theorem dX5_isIsland_5 : decode cX5_isIsland 5 = .ok (.iload_n 1, 1) := by decide +kernel
theorem dX5_isIsland_6 : decode cX5_isIsland 6 = .ok (.if_icmp .ge 103, 3) := by decide +kernel
theorem dX5_isIsland_9 : decode cX5_isIsland 9 = .ok (.iload_n 3, 1) := by decide +kernel
theorem dX5_isIsland_10 : decode cX5_isIsland 10 = .ok (.bipush 64, 2) := by decide +kernel
theorem dX5_isIsland_12 : decode cX5_isIsland 12 = .ok (.if_icmp .ge 97, 3) := by decide +kernel
theorem dX5_isIsland_15 : decode cX5_isIsland 15 = .ok (.aload_n 0, 1) := by decide +kernel
theorem dX5_isIsland_16 : decode cX5_isIsland 16 = .ok (.aload_n 0, 1) := by decide +kernel
theorem dX5_isIsland_17 : decode cX5_isIsland 17 = .ok (.getfield 22, 3) := by decide +kernel
theorem dX5_isIsland_20 : decode cX5_isIsland 20 = .ok (.iload_n 3, 1) := by decide +kernel
theorem dX5_isIsland_21 : decode cX5_isIsland 21 = .ok (.iaload, 1) := by decide +kernel
theorem dX5_isIsland_22 : decode cX5_isIsland 22 = .ok (.invokevirtual 53, 3) := by decide +kernel
theorem dX5_isIsland_25 : decode cX5_isIsland 25 = .ok (.istore 4, 2) := by decide +kernel
theorem dX5_isIsland_27 : decode cX5_isIsland 27 = .ok (.iconst 0, 1) := by decide +kernel
theorem dX5_isIsland_28 : decode cX5_isIsland 28 = .ok (.istore 5, 2) := by decide +kernel
theorem dX5_isIsland_30 : decode cX5_isIsland 30 = .ok (.iload 5, 2) := by decide +kernel
theorem dX5_isIsland_32 : decode cX5_isIsland 32 = .ok (.iconst 4, 1) := by decide +kernel
theorem dX5_isIsland_33 : decode cX5_isIsland 33 = .ok (.if_icmp .ge 70, 3) := by decide +kernel
theorem dX5_isIsland_36 : decode cX5_isIsland 36 = .ok (.aload_n 0, 1) := by decide +kernel
theorem dX5_isIsland_37 : decode cX5_isIsland 37 = .ok (.getfield 22, 3) := by decide +kernel
theorem dX5_isIsland_40 : decode cX5_isIsland 40 = .ok (.iload_n 3, 1) := by decide +kernel
theorem dX5_isIsland_41 : decode cX5_isIsland 41 = .ok (.iaload, 1) := by decide +kernel
theorem dX5_isIsland_42 : decode cX5_isIsland 42 = .ok (.iload 5, 2) := by decide +kernel
theorem dX5_isIsland_44 : decode cX5_isIsland 44 = .ok (.invokestatic 50, 3) := by decide +kernel
theorem dX5_isIsland_47 : decode cX5_isIsland 47 = .ok (.istore 6, 2) := by decide +kernel
theorem dX5_isIsland_49 : decode cX5_isIsland 49 = .ok (.iload 6, 2) := by decide +kernel
theorem dX5_isIsland_51 : decode cX5_isIsland 51 = .ok (.ifCond .ge 5, 3) := by decide +kernel
theorem dX5_isIsland_54 : decode cX5_isIsland 54 = .ok (.iconst 0, 1) := by decide +kernel
theorem dX5_isIsland_55 : decode cX5_isIsland 55 = .ok (.ireturn, 1) := by decide +kernel
theorem dX5_isIsland_56 : decode cX5_isIsland 56 = .ok (.aload_n 0, 1) := by decide +kernel
theorem dX5_isIsland_57 : decode cX5_isIsland 57 = .ok (.iload 6, 2) := by decide +kernel
theorem dX5_isIsland_59 : decode cX5_isIsland 59 = .ok (.invokevirtual 53, 3) := by decide +kernel
theorem dX5_isIsland_62 : decode cX5_isIsland 62 = .ok (.istore 7, 2) := by decide +kernel
theorem dX5_isIsland_64 : decode cX5_isIsland 64 = .ok (.iload 7, 2) := by decide +kernel
theorem dX5_isIsland_66 : decode cX5_isIsland 66 = .ok (.iload 4, 2) := by decide +kernel
theorem dX5_isIsland_68 : decode cX5_isIsland 68 = .ok (.if_icmp .eq 15, 3) := by decide +kernel
theorem dX5_isIsland_71 : decode cX5_isIsland 71 = .ok (.iload_n 2, 1) := by decide +kernel
theorem dX5_isIsland_72 : decode cX5_isIsland 72 = .ok (.ifCond .lt 11, 3) := by decide +kernel
theorem dX5_isIsland_75 : decode cX5_isIsland 75 = .ok (.iload 7, 2) := by decide +kernel
theorem dX5_isIsland_77 : decode cX5_isIsland 77 = .ok (.iload_n 2, 1) := by decide +kernel
theorem dX5_isIsland_78 : decode cX5_isIsland 78 = .ok (.if_icmp .eq 5, 3) := by decide +kernel
theorem dX5_isIsland_81 : decode cX5_isIsland 81 = .ok (.iconst 0, 1) := by decide +kernel
theorem dX5_isIsland_82 : decode cX5_isIsland 82 = .ok (.ireturn, 1) := by decide +kernel
theorem dX5_isIsland_83 : decode cX5_isIsland 83 = .ok (.iload 7, 2) := by decide +kernel
theorem dX5_isIsland_85 : decode cX5_isIsland 85 = .ok (.iload 4, 2) := by decide +kernel
theorem dX5_isIsland_87 : decode cX5_isIsland 87 = .ok (.if_icmp .eq 8, 3) := by decide +kernel
theorem dX5_isIsland_90 : decode cX5_isIsland 90 = .ok (.iload 7, 2) := by decide +kernel
theorem dX5_isIsland_92 : decode cX5_isIsland 92 = .ok (.goto 4, 3) := by decide +kernel
theorem dX5_isIsland_95 : decode cX5_isIsland 95 = .ok (.iload_n 2, 1) := by decide +kernel
theorem dX5_isIsland_96 : decode cX5_isIsland 96 = .ok (.istore_n 2, 1) := by decide +kernel
theorem dX5_isIsland_97 : decode cX5_isIsland 97 = .ok (.iinc 5 1, 3) := by decide +kernel
theorem dX5_isIsland_100 : decode cX5_isIsland 100 = .ok (.goto (-70), 3) := by decide +kernel
theorem dX5_isIsland_103 : decode cX5_isIsland 103 = .ok (.iinc 3 1, 3) := by decide +kernel
theorem dX5_isIsland_106 : decode cX5_isIsland 106 = .ok (.goto (-102), 3) := by decide +kernel
theorem dX5_isIsland_109 : decode cX5_isIsland 109 = .ok (.iconst 1, 1) := by decide +kernel
theorem dX5_isIsland_110 : decode cX5_isIsland 110 = .ok (.ireturn, 1) := by decide +kernel
theorem dX5_darken_0 : decode cX5_darken 0 = .ok (.iload_n 1, 1) := by decide +kernel
theorem dX5_darken_1 : decode cX5_darken 1 = .ok (.ifCond .lt 9, 3) := by decide +kernel
theorem dX5_darken_4 : decode cX5_darken 4 = .ok (.iload_n 1, 1) := by decide +kernel
theorem dX5_darken_5 : decode cX5_darken 5 = .ok (.bipush 8, 2) := by decide +kernel
theorem dX5_darken_7 : decode cX5_darken 7 = .ok (.if_icmp .lt 5, 3) := by decide +kernel
theorem dX5_darken_10 : decode cX5_darken 10 = .ok (.iconst 0, 1) := by decide +kernel
theorem dX5_darken_11 : decode cX5_darken 11 = .ok (.ireturn, 1) := by decide +kernel
theorem dX5_darken_12 : decode cX5_darken 12 = .ok (.aload_n 0, 1) := by decide +kernel
theorem dX5_darken_13 : decode cX5_darken 13 = .ok (.getfield 15, 3) := by decide +kernel
theorem dX5_darken_16 : decode cX5_darken 16 = .ok (.iload_n 1, 1) := by decide +kernel
theorem dX5_darken_17 : decode cX5_darken 17 = .ok (.bipush 99, 2) := by decide +kernel
theorem dX5_darken_19 : decode cX5_darken 19 = .ok (.aload_n 0, 1) := by decide +kernel
theorem dX5_darken_20 : decode cX5_darken 20 = .ok (.getfield 15, 3) := by decide +kernel
theorem dX5_darken_23 : decode cX5_darken 23 = .ok (.iload_n 1, 1) := by decide +kernel
theorem dX5_darken_24 : decode cX5_darken 24 = .ok (.iaload, 1) := by decide +kernel
theorem dX5_darken_25 : decode cX5_darken 25 = .ok (.iload_n 2, 1) := by decide +kernel
theorem dX5_darken_26 : decode cX5_darken 26 = .ok (.iadd, 1) := by decide +kernel
theorem dX5_darken_27 : decode cX5_darken 27 = .ok (.invokestatic 56, 3) := by decide +kernel
theorem dX5_darken_30 : decode cX5_darken 30 = .ok (.iastore, 1) := by decide +kernel
theorem dX5_darken_31 : decode cX5_darken 31 = .ok (.aload_n 0, 1) := by decide +kernel
theorem dX5_darken_32 : decode cX5_darken 32 = .ok (.getfield 15, 3) := by decide +kernel
theorem dX5_darken_35 : decode cX5_darken 35 = .ok (.iload_n 1, 1) := by decide +kernel
theorem dX5_darken_36 : decode cX5_darken 36 = .ok (.iaload, 1) := by decide +kernel
theorem dX5_darken_37 : decode cX5_darken 37 = .ok (.ireturn, 1) := by decide +kernel
theorem dX5_countBurnt_0 : decode cX5_countBurnt 0 = .ok (.iconst 0, 1) := by decide +kernel
theorem dX5_countBurnt_1 : decode cX5_countBurnt 1 = .ok (.istore_n 1, 1) := by decide +kernel
theorem dX5_countBurnt_2 : decode cX5_countBurnt 2 = .ok (.iconst 0, 1) := by decide +kernel
theorem dX5_countBurnt_3 : decode cX5_countBurnt 3 = .ok (.istore_n 2, 1) := by decide +kernel
theorem dX5_countBurnt_4 : decode cX5_countBurnt 4 = .ok (.iload_n 2, 1) := by decide +kernel
theorem dX5_countBurnt_5 : decode cX5_countBurnt 5 = .ok (.bipush 8, 2) := by decide +kernel
theorem dX5_countBurnt_7 : decode cX5_countBurnt 7 = .ok (.if_icmp .ge 23, 3) := by decide +kernel
theorem dX5_countBurnt_10 : decode cX5_countBurnt 10 = .ok (.aload_n 0, 1) := by decide +kernel
theorem dX5_countBurnt_11 : decode cX5_countBurnt 11 = .ok (.getfield 15, 3) := by decide +kernel
theorem dX5_countBurnt_14 : decode cX5_countBurnt 14 = .ok (.iload_n 2, 1) := by decide +kernel
theorem dX5_countBurnt_15 : decode cX5_countBurnt 15 = .ok (.iaload, 1) := by decide +kernel
theorem dX5_countBurnt_16 : decode cX5_countBurnt 16 = .ok (.bipush 90, 2) := by decide +kernel
theorem dX5_countBurnt_18 : decode cX5_countBurnt 18 = .ok (.if_icmp .le 6, 3) := by decide +kernel
theorem dX5_countBurnt_21 : decode cX5_countBurnt 21 = .ok (.iinc 1 1, 3) := by decide +kernel
theorem dX5_countBurnt_24 : decode cX5_countBurnt 24 = .ok (.iinc 2 1, 3) := by decide +kernel
theorem dX5_countBurnt_27 : decode cX5_countBurnt 27 = .ok (.goto (-23), 3) := by decide +kernel
theorem dX5_countBurnt_30 : decode cX5_countBurnt 30 = .ok (.iload_n 1, 1) := by decide +kernel
theorem dX5_countBurnt_31 : decode cX5_countBurnt 31 = .ok (.ireturn, 1) := by decide +kernel
theorem dX6_init_0 : decode cX6_init 0 = .ok (.aload_n 0, 1) := by decide +kernel
theorem dX6_init_1 : decode cX6_init 1 = .ok (.invokespecial 1, 3) := by decide +kernel
theorem dX6_init_4 : decode cX6_init 4 = .ok (.aload_n 0, 1) := by decide +kernel
theorem dX6_init_5 : decode cX6_init 5 = .ok (.new 7, 3) := by decide +kernel
theorem dX6_init_8 : decode cX6_init 8 = .ok (.dup, 1) := by decide +kernel
theorem dX6_init_9 : decode cX6_init 9 = .ok (.invokespecial 9, 3) := by decide +kernel
theorem dX6_init_12 : decode cX6_init 12 = .ok (.putfield 10, 3) := by decide +kernel
theorem dX6_init_15 : decode cX6_init 15 = .ok (.aload_n 0, 1) := by decide +kernel
theorem dX6_init_16 : decode cX6_init 16 = .ok (.new 7, 3) := by decide +kernel
theorem dX6_init_19 : decode cX6_init 19 = .ok (.dup, 1) := by decide +kernel
theorem dX6_init_20 : decode cX6_init 20 = .ok (.invokespecial 9, 3) := by decide +kernel
theorem dX6_init_23 : decode cX6_init 23 = .ok (.putfield 16, 3) := by decide +kernel
theorem dX6_init_26 : decode cX6_init 26 = .ok (.aload_n 0, 1) := by decide +kernel
theorem dX6_init_27 : decode cX6_init 27 = .ok (.new 7, 3) := by decide +kernel
theorem dX6_init_30 : decode cX6_init 30 = .ok (.dup, 1) := by decide +kernel
theorem dX6_init_31 : decode cX6_init 31 = .ok (.invokespecial 9, 3) := by decide +kernel
theorem dX6_init_34 : decode cX6_init 34 = .ok (.putfield 19, 3) := by decide +kernel
theorem dX6_init_37 : decode cX6_init 37 = .ok (.aload_n 0, 1) := by decide +kernel
theorem dX6_init_38 : decode cX6_init 38 = .ok (.new 7, 3) := by decide +kernel
theorem dX6_init_41 : decode cX6_init 41 = .ok (.dup, 1) := by decide +kernel
theorem dX6_init_42 : decode cX6_init 42 = .ok (.invokespecial 9, 3) := by decide +kernel
theorem dX6_init_45 : decode cX6_init 45 = .ok (.putfield 22, 3) := by decide +kernel
theorem dX6_init_48 : decode cX6_init 48 = .ok (.aload_n 0, 1) := by decide +kernel
theorem dX6_init_49 : decode cX6_init 49 = .ok (.new 7, 3) := by decide +kernel
theorem dX6_init_52 : decode cX6_init 52 = .ok (.dup, 1) := by decide +kernel
theorem dX6_init_53 : decode cX6_init 53 = .ok (.invokespecial 9, 3) := by decide +kernel
theorem dX6_init_56 : decode cX6_init 56 = .ok (.putfield 25, 3) := by decide +kernel
theorem dX6_init_59 : decode cX6_init 59 = .ok (.aload_n 0, 1) := by decide +kernel
theorem dX6_init_60 : decode cX6_init 60 = .ok (.bipush 8, 2) := by decide +kernel
theorem dX6_init_62 : decode cX6_init 62 = .ok (.putfield 28, 3) := by decide +kernel
theorem dX6_init_65 : decode cX6_init 65 = .ok (.return_, 1) := by decide +kernel
theorem dX6_log_0 : decode cX6_log 0 = .ok (.ldc 32, 2) := by decide +kernel
theorem dX6_log_2 : decode cX6_log 2 = .ok (.iload_n 1, 1) := by decide +kernel
theorem dX6_log_3 : decode cX6_log 3 = .ok (.invokestatic 34, 3) := by decide +kernel
theorem dX6_log_6 : decode cX6_log 6 = .ok (.ifCond .eq 17, 3) := by decide +kernel
theorem dX6_log_9 : decode cX6_log 9 = .ok (.ldc 38, 2) := by decide +kernel
theorem dX6_log_11 : decode cX6_log 11 = .ok (.iload 4, 2) := by decide +kernel
theorem dX6_log_13 : decode cX6_log 13 = .ok (.invokestatic 34, 3) := by decide +kernel
theorem dX6_log_16 : decode cX6_log 16 = .ok (.ifCond .eq 7, 3) := by decide +kernel
theorem dX6_log_19 : decode cX6_log 19 = .ok (.iconst 1, 1) := by decide +kernel
theorem dX6_log_20 : decode cX6_log 20 = .ok (.goto 4, 3) := by decide +kernel
theorem dX6_log_23 : decode cX6_log 23 = .ok (.iconst 0, 1) := by decide +kernel
theorem dX6_log_24 : decode cX6_log 24 = .ok (.istore 5, 2) := by decide +kernel
theorem dX6_log_26 : decode cX6_log 26 = .ok (.iload 5, 2) := by decide +kernel
theorem dX6_log_28 : decode cX6_log 28 = .ok (.ifCond .eq 25, 3) := by decide +kernel
theorem dX6_log_31 : decode cX6_log 31 = .ok (.iload_n 2, 1) := by decide +kernel
theorem dX6_log_32 : decode cX6_log 32 = .ok (.bipush 100, 2) := by decide +kernel
theorem dX6_log_34 : decode cX6_log 34 = .ok (.sipush 999, 3) := by decide +kernel
theorem dX6_log_37 : decode cX6_log 37 = .ok (.invokestatic 40, 3) := by decide +kernel
theorem dX6_log_40 : decode cX6_log 40 = .ok (.ifCond .eq 13, 3) := by decide +kernel
theorem dX6_log_43 : decode cX6_log 43 = .ok (.iload_n 3, 1) := by decide +kernel
theorem dX6_log_44 : decode cX6_log 44 = .ok (.iconst 1, 1) := by decide +kernel
theorem dX6_log_45 : decode cX6_log 45 = .ok (.bipush 40, 2) := by decide +kernel
theorem dX6_log_47 : decode cX6_log 47 = .ok (.invokestatic 40, 3) := by decide +kernel
theorem dX6_log_50 : decode cX6_log 50 = .ok (.ifCond .ne 11, 3) := by decide +kernel
theorem dX6_log_53 : decode cX6_log 53 = .ok (.new 44, 3) := by decide +kernel
theorem dX6_log_56 : decode cX6_log 56 = .ok (.dup, 1) := by decide +kernel
theorem dX6_log_57 : decode cX6_log 57 = .ok (.invokespecial 46, 3) := by decide +kernel
theorem dX6_log_60 : decode cX6_log 60 = .ok (.athrow, 1) := by decide +kernel
theorem dX6_log_61 : decode cX6_log 61 = .ok (.aload_n 0, 1) := by decide +kernel
theorem dX6_log_62 : decode cX6_log 62 = .ok (.getfield 10, 3) := by decide +kernel
theorem dX6_log_65 : decode cX6_log 65 = .ok (.invokevirtual 47, 3) := by decide +kernel
theorem dX6_log_68 : decode cX6_log 68 = .ok (.bipush 8, 2) := by decide +kernel
theorem dX6_log_70 : decode cX6_log 70 = .ok (.if_icmp .lt 11, 3) := by decide +kernel
theorem dX6_log_73 : decode cX6_log 73 = .ok (.new 51, 3) := by decide +kernel
theorem dX6_log_76 : decode cX6_log 76 = .ok (.dup, 1) := by decide +kernel
theorem dX6_log_77 : decode cX6_log 77 = .ok (.invokespecial 53, 3) := by decide +kernel
theorem dX6_log_80 : decode cX6_log 80 = .ok (.athrow, 1) := by decide +kernel
theorem dX6_log_81 : decode cX6_log 81 = .ok (.aload_n 0, 1) := by decide +kernel
theorem dX6_log_82 : decode cX6_log 82 = .ok (.getfield 10, 3) := by decide +kernel
theorem dX6_log_85 : decode cX6_log 85 = .ok (.new 54, 3) := by decide +kernel
theorem dX6_log_88 : decode cX6_log 88 = .ok (.dup, 1) := by decide +kernel
theorem dX6_log_89 : decode cX6_log 89 = .ok (.iload_n 1, 1) := by decide +kernel
theorem dX6_log_90 : decode cX6_log 90 = .ok (.iload_n 2, 1) := by decide +kernel
theorem dX6_log_91 : decode cX6_log 91 = .ok (.iload_n 3, 1) := by decide +kernel
theorem dX6_log_92 : decode cX6_log 92 = .ok (.iload 4, 2) := by decide +kernel
theorem dX6_log_94 : decode cX6_log 94 = .ok (.invokespecial 56, 3) := by decide +kernel
theorem dX6_log_97 : decode cX6_log 97 = .ok (.invokevirtual 59, 3) := by decide +kernel
theorem dX6_log_100 : decode cX6_log 100 = .ok (.pop, 1) := by decide +kernel
theorem dX6_log_101 : decode cX6_log 101 = .ok (.aload_n 0, 1) := by decide +kernel
theorem dX6_log_102 : decode cX6_log 102 = .ok (.getfield 10, 3) := by decide +kernel
theorem dX6_log_105 : decode cX6_log 105 = .ok (.invokevirtual 47, 3) := by decide +kernel
theorem dX6_log_108 : decode cX6_log 108 = .ok (.iconst 1, 1) := by decide +kernel
theorem dX6_log_109 : decode cX6_log 109 = .ok (.isub, 1) := by decide +kernel
theorem dX6_log_110 : decode cX6_log 110 = .ok (.ireturn, 1) := by decide +kernel
theorem dX6_slice_0 : decode cX6_slice 0 = .ok (.aload_n 0, 1) := by decide +kernel
theorem dX6_slice_1 : decode cX6_slice 1 = .ok (.iload_n 1, 1) := by decide +kernel
theorem dX6_slice_2 : decode cX6_slice 2 = .ok (.invokevirtual 63, 3) := by decide +kernel
theorem dX6_slice_5 : decode cX6_slice 5 = .ok (.astore 4, 2) := by decide +kernel
theorem dX6_slice_7 : decode cX6_slice 7 = .ok (.ldc 67, 2) := by decide +kernel
theorem dX6_slice_9 : decode cX6_slice 9 = .ok (.iload_n 2, 1) := by decide +kernel
theorem dX6_slice_10 : decode cX6_slice 10 = .ok (.invokestatic 34, 3) := by decide +kernel
theorem dX6_slice_13 : decode cX6_slice 13 = .ok (.ifCond .eq 13, 3) := by decide +kernel
theorem dX6_slice_16 : decode cX6_slice 16 = .ok (.iload_n 3, 1) := by decide +kernel
theorem dX6_slice_17 : decode cX6_slice 17 = .ok (.iconst 5, 1) := by decide +kernel
theorem dX6_slice_18 : decode cX6_slice 18 = .ok (.bipush 30, 2) := by decide +kernel
theorem dX6_slice_20 : decode cX6_slice 20 = .ok (.invokestatic 40, 3) := by decide +kernel
theorem dX6_slice_23 : decode cX6_slice 23 = .ok (.ifCond .ne 11, 3) := by decide +kernel
theorem dX6_slice_26 : decode cX6_slice 26 = .ok (.new 44, 3) := by decide +kernel
theorem dX6_slice_29 : decode cX6_slice 29 = .ok (.dup, 1) := by decide +kernel
theorem dX6_slice_30 : decode cX6_slice 30 = .ok (.invokespecial 46, 3) := by decide +kernel
theorem dX6_slice_33 : decode cX6_slice 33 = .ok (.athrow, 1) := by decide +kernel
theorem dX6_slice_34 : decode cX6_slice 34 = .ok (.aload 4, 2) := by decide +kernel
theorem dX6_slice_36 : decode cX6_slice 36 = .ok (.getfield 69, 3) := by decide +kernel
theorem dX6_slice_39 : decode cX6_slice 39 = .ok (.ifCond .eq 11, 3) := by decide +kernel
theorem dX6_slice_42 : decode cX6_slice 42 = .ok (.new 73, 3) := by decide +kernel
theorem dX6_slice_45 : decode cX6_slice 45 = .ok (.dup, 1) := by decide +kernel
theorem dX6_slice_46 : decode cX6_slice 46 = .ok (.invokespecial 75, 3) := by decide +kernel
theorem dX6_slice_49 : decode cX6_slice 49 = .ok (.athrow, 1) := by decide +kernel
theorem dX6_slice_50 : decode cX6_slice 50 = .ok (.aload 4, 2) := by decide +kernel
theorem dX6_slice_52 : decode cX6_slice 52 = .ok (.iconst 1, 1) := by decide +kernel
theorem dX6_slice_53 : decode cX6_slice 53 = .ok (.putfield 69, 3) := by decide +kernel
theorem dX6_slice_56 : decode cX6_slice 56 = .ok (.aload_n 0, 1) := by decide +kernel
theorem dX6_slice_57 : decode cX6_slice 57 = .ok (.getfield 16, 3) := by decide +kernel
theorem dX6_slice_60 : decode cX6_slice 60 = .ok (.new 76, 3) := by decide +kernel
theorem dX6_slice_63 : decode cX6_slice 63 = .ok (.dup, 1) := by decide +kernel
theorem dX6_slice_64 : decode cX6_slice 64 = .ok (.aload 4, 2) := by decide +kernel
theorem dX6_slice_66 : decode cX6_slice 66 = .ok (.iload_n 2, 1) := by decide +kernel
theorem dX6_slice_67 : decode cX6_slice 67 = .ok (.iload_n 3, 1) := by decide +kernel
theorem dX6_slice_68 : decode cX6_slice 68 = .ok (.invokespecial 78, 3) := by decide +kernel
theorem dX6_slice_71 : decode cX6_slice 71 = .ok (.invokevirtual 59, 3) := by decide +kernel
theorem dX6_slice_74 : decode cX6_slice 74 = .ok (.pop, 1) := by decide +kernel
theorem dX6_slice_75 : decode cX6_slice 75 = .ok (.aload_n 0, 1) := by decide +kernel
theorem dX6_slice_76 : decode cX6_slice 76 = .ok (.getfield 16, 3) := by decide +kernel
theorem dX6_slice_79 : decode cX6_slice 79 = .ok (.invokevirtual 47, 3) := by decide +kernel
theorem dX6_slice_82 : decode cX6_slice 82 = .ok (.iconst 1, 1) := by decide +kernel
theorem dX6_slice_83 : decode cX6_slice 83 = .ok (.isub, 1) := by decide +kernel
theorem dX6_slice_84 : decode cX6_slice 84 = .ok (.ireturn, 1) := by decide +kernel
theorem dX6_leaves_0 : decode cX6_leaves 0 = .ok (.aload_n 0, 1) := by decide +kernel
theorem dX6_leaves_1 : decode cX6_leaves 1 = .ok (.iload_n 1, 1) := by decide +kernel
theorem dX6_leaves_2 : decode cX6_leaves 2 = .ok (.invokevirtual 81, 3) := by decide +kernel
theorem dX6_leaves_5 : decode cX6_leaves 5 = .ok (.getfield 85, 3) := by decide +kernel
theorem dX6_leaves_8 : decode cX6_leaves 8 = .ok (.ireturn, 1) := by decide +kernel
theorem dX6_width_0 : decode cX6_width 0 = .ok (.aload_n 0, 1) := by decide +kernel
theorem dX6_width_1 : decode cX6_width 1 = .ok (.iload_n 1, 1) := by decide +kernel
theorem dX6_width_2 : decode cX6_width 2 = .ok (.iload_n 2, 1) := by decide +kernel
theorem dX6_width_3 : decode cX6_width 3 = .ok (.invokevirtual 88, 3) := by decide +kernel
theorem dX6_width_6 : decode cX6_width 6 = .ok (.iload_n 2, 1) := by decide +kernel
theorem dX6_width_7 : decode cX6_width 7 = .ok (.invokevirtual 92, 3) := by decide +kernel
theorem dX6_width_10 : decode cX6_width 10 = .ok (.ireturn, 1) := by decide +kernel
theorem dX6_area_0 : decode cX6_area 0 = .ok (.aload_n 0, 1) := by decide +kernel
theorem dX6_area_1 : decode cX6_area 1 = .ok (.iload_n 1, 1) := by decide +kernel
theorem dX6_area_2 : decode cX6_area 2 = .ok (.iload_n 2, 1) := by decide +kernel
theorem dX6_area_3 : decode cX6_area 3 = .ok (.invokevirtual 88, 3) := by decide +kernel
theorem dX6_area_6 : decode cX6_area 6 = .ok (.iload_n 2, 1) := by decide +kernel
theorem dX6_area_7 : decode cX6_area 7 = .ok (.invokevirtual 96, 3) := by decide +kernel
theorem dX6_area_10 : decode cX6_area 10 = .ok (.ireturn, 1) := by decide +kernel
theorem dX6_figure_0 : decode cX6_figure 0 = .ok (.aload_n 0, 1) := by decide +kernel
theorem dX6_figure_1 : decode cX6_figure 1 = .ok (.iload_n 1, 1) := by decide +kernel
theorem dX6_figure_2 : decode cX6_figure 2 = .ok (.iload_n 2, 1) := by decide +kernel
theorem dX6_figure_3 : decode cX6_figure 3 = .ok (.invokevirtual 88, 3) := by decide +kernel
theorem dX6_figure_6 : decode cX6_figure 6 = .ok (.iload_n 2, 1) := by decide +kernel
theorem dX6_figure_7 : decode cX6_figure 7 = .ok (.invokevirtual 99, 3) := by decide +kernel
theorem dX6_figure_10 : decode cX6_figure 10 = .ok (.ireturn, 1) := by decide +kernel
theorem dX6_isUsed_0 : decode cX6_isUsed 0 = .ok (.aload_n 0, 1) := by decide +kernel
theorem dX6_isUsed_1 : decode cX6_isUsed 1 = .ok (.iload_n 1, 1) := by decide +kernel
theorem dX6_isUsed_2 : decode cX6_isUsed 2 = .ok (.iload_n 2, 1) := by decide +kernel
theorem dX6_isUsed_3 : decode cX6_isUsed 3 = .ok (.invokevirtual 88, 3) := by decide +kernel
theorem dX6_isUsed_6 : decode cX6_isUsed 6 = .ok (.iload_n 2, 1) := by decide +kernel
theorem dX6_isUsed_7 : decode cX6_isUsed 7 = .ok (.invokevirtual 102, 3) := by decide +kernel
theorem dX6_isUsed_10 : decode cX6_isUsed 10 = .ok (.ireturn, 1) := by decide +kernel
theorem dX6_panel_0 : decode cX6_panel 0 = .ok (.iload_n 1, 1) := by decide +kernel
theorem dX6_panel_1 : decode cX6_panel 1 = .ok (.bipush 100, 2) := by decide +kernel
theorem dX6_panel_3 : decode cX6_panel 3 = .ok (.sipush 2000, 3) := by decide +kernel
theorem dX6_panel_6 : decode cX6_panel 6 = .ok (.invokestatic 40, 3) := by decide +kernel
theorem dX6_panel_9 : decode cX6_panel 9 = .ok (.ifCond .eq 28, 3) := by decide +kernel
theorem dX6_panel_12 : decode cX6_panel 12 = .ok (.iload_n 2, 1) := by decide +kernel
theorem dX6_panel_13 : decode cX6_panel 13 = .ok (.iconst 1, 1) := by decide +kernel
theorem dX6_panel_14 : decode cX6_panel 14 = .ok (.bipush 20, 2) := by decide +kernel
theorem dX6_panel_16 : decode cX6_panel 16 = .ok (.invokestatic 40, 3) := by decide +kernel
theorem dX6_panel_19 : decode cX6_panel 19 = .ok (.ifCond .eq 18, 3) := by decide +kernel
theorem dX6_panel_22 : decode cX6_panel 22 = .ok (.iload 4, 2) := by decide +kernel
theorem dX6_panel_24 : decode cX6_panel 24 = .ok (.iconst 5, 1) := by decide +kernel
theorem dX6_panel_25 : decode cX6_panel 25 = .ok (.bipush 40, 2) := by decide +kernel
theorem dX6_panel_27 : decode cX6_panel 27 = .ok (.invokestatic 40, 3) := by decide +kernel
theorem dX6_panel_30 : decode cX6_panel 30 = .ok (.ifCond .eq 7, 3) := by decide +kernel
theorem dX6_panel_33 : decode cX6_panel 33 = .ok (.iconst 1, 1) := by decide +kernel
theorem dX6_panel_34 : decode cX6_panel 34 = .ok (.goto 4, 3) := by decide +kernel
theorem dX6_panel_37 : decode cX6_panel 37 = .ok (.iconst 0, 1) := by decide +kernel
theorem dX6_panel_38 : decode cX6_panel 38 = .ok (.istore 5, 2) := by decide +kernel
theorem dX6_panel_40 : decode cX6_panel 40 = .ok (.iload 5, 2) := by decide +kernel
theorem dX6_panel_42 : decode cX6_panel 42 = .ok (.ifCond .eq 12, 3) := by decide +kernel
theorem dX6_panel_45 : decode cX6_panel 45 = .ok (.ldc 106, 2) := by decide +kernel
theorem dX6_panel_47 : decode cX6_panel 47 = .ok (.iload_n 3, 1) := by decide +kernel
theorem dX6_panel_48 : decode cX6_panel 48 = .ok (.invokestatic 34, 3) := by decide +kernel
theorem dX6_panel_51 : decode cX6_panel 51 = .ok (.ifCond .ne 11, 3) := by decide +kernel
theorem dX6_panel_54 : decode cX6_panel 54 = .ok (.new 44, 3) := by decide +kernel
theorem dX6_panel_57 : decode cX6_panel 57 = .ok (.dup, 1) := by decide +kernel
theorem dX6_panel_58 : decode cX6_panel 58 = .ok (.invokespecial 46, 3) := by decide +kernel
theorem dX6_panel_61 : decode cX6_panel 61 = .ok (.athrow, 1) := by decide +kernel
theorem dX6_panel_62 : decode cX6_panel 62 = .ok (.aload_n 0, 1) := by decide +kernel
theorem dX6_panel_63 : decode cX6_panel 63 = .ok (.getfield 19, 3) := by decide +kernel
theorem dX6_panel_66 : decode cX6_panel 66 = .ok (.invokevirtual 47, 3) := by decide +kernel
theorem dX6_panel_69 : decode cX6_panel 69 = .ok (.bipush 8, 2) := by decide +kernel
theorem dX6_panel_71 : decode cX6_panel 71 = .ok (.if_icmp .lt 11, 3) := by decide +kernel
theorem dX6_panel_74 : decode cX6_panel 74 = .ok (.new 51, 3) := by decide +kernel
theorem dX6_panel_77 : decode cX6_panel 77 = .ok (.dup, 1) := by decide +kernel
theorem dX6_panel_78 : decode cX6_panel 78 = .ok (.invokespecial 53, 3) := by decide +kernel
theorem dX6_panel_81 : decode cX6_panel 81 = .ok (.athrow, 1) := by decide +kernel
theorem dX6_panel_82 : decode cX6_panel 82 = .ok (.aload_n 0, 1) := by decide +kernel
theorem dX6_panel_83 : decode cX6_panel 83 = .ok (.getfield 19, 3) := by decide +kernel
theorem dX6_panel_86 : decode cX6_panel 86 = .ok (.new 108, 3) := by decide +kernel
theorem dX6_panel_89 : decode cX6_panel 89 = .ok (.dup, 1) := by decide +kernel
theorem dX6_panel_90 : decode cX6_panel 90 = .ok (.iload_n 1, 1) := by decide +kernel
theorem dX6_panel_91 : decode cX6_panel 91 = .ok (.iload_n 2, 1) := by decide +kernel
theorem dX6_panel_92 : decode cX6_panel 92 = .ok (.iload_n 3, 1) := by decide +kernel
theorem dX6_panel_93 : decode cX6_panel 93 = .ok (.iload 4, 2) := by decide +kernel
theorem dX6_panel_95 : decode cX6_panel 95 = .ok (.invokespecial 110, 3) := by decide +kernel
theorem dX6_panel_98 : decode cX6_panel 98 = .ok (.invokevirtual 59, 3) := by decide +kernel
theorem dX6_panel_101 : decode cX6_panel 101 = .ok (.pop, 1) := by decide +kernel
theorem dX6_panel_102 : decode cX6_panel 102 = .ok (.aload_n 0, 1) := by decide +kernel
theorem dX6_panel_103 : decode cX6_panel 103 = .ok (.getfield 19, 3) := by decide +kernel
theorem dX6_panel_106 : decode cX6_panel 106 = .ok (.invokevirtual 47, 3) := by decide +kernel
theorem dX6_panel_109 : decode cX6_panel 109 = .ok (.iconst 1, 1) := by decide +kernel
theorem dX6_panel_110 : decode cX6_panel 110 = .ok (.isub, 1) := by decide +kernel
theorem dX6_panel_111 : decode cX6_panel 111 = .ok (.ireturn, 1) := by decide +kernel
theorem dX6_face_0 : decode cX6_face 0 = .ok (.aload_n 0, 1) := by decide +kernel
theorem dX6_face_1 : decode cX6_face 1 = .ok (.iload_n 1, 1) := by decide +kernel
theorem dX6_face_2 : decode cX6_face 2 = .ok (.invokevirtual 113, 3) := by decide +kernel
theorem dX6_face_5 : decode cX6_face 5 = .ok (.astore 6, 2) := by decide +kernel
theorem dX6_face_7 : decode cX6_face 7 = .ok (.aload_n 0, 1) := by decide +kernel
theorem dX6_face_8 : decode cX6_face 8 = .ok (.iload_n 2, 1) := by decide +kernel
theorem dX6_face_9 : decode cX6_face 9 = .ok (.iload_n 3, 1) := by decide +kernel
theorem dX6_face_10 : decode cX6_face 10 = .ok (.iload 4, 2) := by decide +kernel
theorem dX6_face_12 : decode cX6_face 12 = .ok (.invokevirtual 117, 3) := by decide +kernel
theorem dX6_face_15 : decode cX6_face 15 = .ok (.astore 7, 2) := by decide +kernel
theorem dX6_face_17 : decode cX6_face 17 = .ok (.ldc 121, 2) := by decide +kernel
theorem dX6_face_19 : decode cX6_face 19 = .ok (.iload 5, 2) := by decide +kernel
theorem dX6_face_21 : decode cX6_face 21 = .ok (.invokestatic 34, 3) := by decide +kernel
theorem dX6_face_24 : decode cX6_face 24 = .ok (.ifCond .eq 14, 3) := by decide +kernel
theorem dX6_face_27 : decode cX6_face 27 = .ok (.iload 4, 2) := by decide +kernel
theorem dX6_face_29 : decode cX6_face 29 = .ok (.iconst 1, 1) := by decide +kernel
theorem dX6_face_30 : decode cX6_face 30 = .ok (.bipush 8, 2) := by decide +kernel
theorem dX6_face_32 : decode cX6_face 32 = .ok (.invokestatic 40, 3) := by decide +kernel
theorem dX6_face_35 : decode cX6_face 35 = .ok (.ifCond .ne 11, 3) := by decide +kernel
theorem dX6_face_38 : decode cX6_face 38 = .ok (.new 44, 3) := by decide +kernel
theorem dX6_face_41 : decode cX6_face 41 = .ok (.dup, 1) := by decide +kernel
theorem dX6_face_42 : decode cX6_face 42 = .ok (.invokespecial 46, 3) := by decide +kernel
theorem dX6_face_45 : decode cX6_face 45 = .ok (.athrow, 1) := by decide +kernel
theorem dX6_face_46 : decode cX6_face 46 = .ok (.aload 6, 2) := by decide +kernel
theorem dX6_face_48 : decode cX6_face 48 = .ok (.getfield 123, 3) := by decide +kernel
theorem dX6_face_51 : decode cX6_face 51 = .ok (.ifnonnull 16, 3) := by decide +kernel
theorem dX6_face_54 : decode cX6_face 54 = .ok (.aload 6, 2) := by decide +kernel
theorem dX6_face_56 : decode cX6_face 56 = .ok (.aload 7, 2) := by decide +kernel
theorem dX6_face_58 : decode cX6_face 58 = .ok (.iload_n 3, 1) := by decide +kernel
theorem dX6_face_59 : decode cX6_face 59 = .ok (.iload 4, 2) := by decide +kernel
theorem dX6_face_61 : decode cX6_face 61 = .ok (.invokestatic 127, 3) := by decide +kernel
theorem dX6_face_64 : decode cX6_face 64 = .ok (.ifCond .ne 11, 3) := by decide +kernel
theorem dX6_face_67 : decode cX6_face 67 = .ok (.new 73, 3) := by decide +kernel
theorem dX6_face_70 : decode cX6_face 70 = .ok (.dup, 1) := by decide +kernel
theorem dX6_face_71 : decode cX6_face 71 = .ok (.invokespecial 75, 3) := by decide +kernel
theorem dX6_face_74 : decode cX6_face 74 = .ok (.athrow, 1) := by decide +kernel
theorem dX6_face_75 : decode cX6_face 75 = .ok (.aload 6, 2) := by decide +kernel
theorem dX6_face_77 : decode cX6_face 77 = .ok (.new 131, 3) := by decide +kernel
theorem dX6_face_80 : decode cX6_face 80 = .ok (.dup, 1) := by decide +kernel
theorem dX6_face_81 : decode cX6_face 81 = .ok (.aload 7, 2) := by decide +kernel
theorem dX6_face_83 : decode cX6_face 83 = .ok (.iload_n 3, 1) := by decide +kernel
theorem dX6_face_84 : decode cX6_face 84 = .ok (.iload 4, 2) := by decide +kernel
theorem dX6_face_86 : decode cX6_face 86 = .ok (.invokespecial 133, 3) := by decide +kernel
theorem dX6_face_89 : decode cX6_face 89 = .ok (.putfield 123, 3) := by decide +kernel
theorem dX6_face_92 : decode cX6_face 92 = .ok (.aload 6, 2) := by decide +kernel
theorem dX6_face_94 : decode cX6_face 94 = .ok (.aload 7, 2) := by decide +kernel
theorem dX6_face_96 : decode cX6_face 96 = .ok (.iload_n 3, 1) := by decide +kernel
theorem dX6_face_97 : decode cX6_face 97 = .ok (.iload 4, 2) := by decide +kernel
theorem dX6_face_99 : decode cX6_face 99 = .ok (.iload 5, 2) := by decide +kernel
theorem dX6_face_101 : decode cX6_face 101 = .ok (.invokestatic 136, 3) := by decide +kernel
theorem dX6_face_104 : decode cX6_face 104 = .ok (.putfield 140, 3) := by decide +kernel
theorem dX6_face_107 : decode cX6_face 107 = .ok (.aload 6, 2) := by decide +kernel
theorem dX6_face_109 : decode cX6_face 109 = .ok (.bipush 10, 2) := by decide +kernel
theorem dX6_face_111 : decode cX6_face 111 = .ok (.aload 7, 2) := by decide +kernel
theorem dX6_face_113 : decode cX6_face 113 = .ok (.getfield 143, 3) := by decide +kernel
theorem dX6_face_116 : decode cX6_face 116 = .ok (.imul, 1) := by decide +kernel
theorem dX6_face_117 : decode cX6_face 117 = .ok (.putfield 146, 3) := by decide +kernel
theorem dX6_face_120 : decode cX6_face 120 = .ok (.aload_n 0, 1) := by decide +kernel
theorem dX6_face_121 : decode cX6_face 121 = .ok (.dup, 1) := by decide +kernel
theorem dX6_face_122 : decode cX6_face 122 = .ok (.getfield 149, 3) := by decide +kernel
theorem dX6_face_125 : decode cX6_face 125 = .ok (.aload 6, 2) := by decide +kernel
theorem dX6_face_127 : decode cX6_face 127 = .ok (.invokevirtual 152, 3) := by decide +kernel
theorem dX6_face_130 : decode cX6_face 130 = .ok (.iadd, 1) := by decide +kernel
theorem dX6_face_131 : decode cX6_face 131 = .ok (.putfield 149, 3) := by decide +kernel
theorem dX6_face_134 : decode cX6_face 134 = .ok (.aload_n 0, 1) := by decide +kernel
theorem dX6_face_135 : decode cX6_face 135 = .ok (.aload 6, 2) := by decide +kernel
theorem dX6_face_137 : decode cX6_face 137 = .ok (.aload 6, 2) := by decide +kernel
theorem dX6_face_139 : decode cX6_face 139 = .ok (.getfield 123, 3) := by decide +kernel
theorem dX6_face_142 : decode cX6_face 142 = .ok (.invokevirtual 155, 3) := by decide +kernel
theorem dX6_face_145 : decode cX6_face 145 = .ok (.pop, 1) := by decide +kernel
theorem dX6_face_146 : decode cX6_face 146 = .ok (.aload 6, 2) := by decide +kernel
theorem dX6_face_148 : decode cX6_face 148 = .ok (.getfield 140, 3) := by decide +kernel
theorem dX6_face_151 : decode cX6_face 151 = .ok (.ireturn, 1) := by decide +kernel
theorem dX6_back_0 : decode cX6_back 0 = .ok (.aload_n 0, 1) := by decide +kernel
theorem dX6_back_1 : decode cX6_back 1 = .ok (.iload_n 1, 1) := by decide +kernel
theorem dX6_back_2 : decode cX6_back 2 = .ok (.invokevirtual 113, 3) := by decide +kernel
theorem dX6_back_5 : decode cX6_back 5 = .ok (.astore 5, 2) := by decide +kernel
theorem dX6_back_7 : decode cX6_back 7 = .ok (.aload_n 0, 1) := by decide +kernel
theorem dX6_back_8 : decode cX6_back 8 = .ok (.iload_n 2, 1) := by decide +kernel
theorem dX6_back_9 : decode cX6_back 9 = .ok (.iload_n 3, 1) := by decide +kernel
theorem dX6_back_10 : decode cX6_back 10 = .ok (.iload 4, 2) := by decide +kernel
theorem dX6_back_12 : decode cX6_back 12 = .ok (.invokevirtual 117, 3) := by decide +kernel
theorem dX6_back_15 : decode cX6_back 15 = .ok (.astore 6, 2) := by decide +kernel
theorem dX6_back_17 : decode cX6_back 17 = .ok (.iload 4, 2) := by decide +kernel
theorem dX6_back_19 : decode cX6_back 19 = .ok (.iconst 1, 1) := by decide +kernel
theorem dX6_back_20 : decode cX6_back 20 = .ok (.bipush 8, 2) := by decide +kernel
theorem dX6_back_22 : decode cX6_back 22 = .ok (.invokestatic 40, 3) := by decide +kernel
theorem dX6_back_25 : decode cX6_back 25 = .ok (.ifCond .ne 11, 3) := by decide +kernel
theorem dX6_back_28 : decode cX6_back 28 = .ok (.new 44, 3) := by decide +kernel
theorem dX6_back_31 : decode cX6_back 31 = .ok (.dup, 1) := by decide +kernel
theorem dX6_back_32 : decode cX6_back 32 = .ok (.invokespecial 46, 3) := by decide +kernel
theorem dX6_back_35 : decode cX6_back 35 = .ok (.athrow, 1) := by decide +kernel
theorem dX6_back_36 : decode cX6_back 36 = .ok (.aload 5, 2) := by decide +kernel
theorem dX6_back_38 : decode cX6_back 38 = .ok (.getfield 159, 3) := by decide +kernel
theorem dX6_back_41 : decode cX6_back 41 = .ok (.ifnonnull 24, 3) := by decide +kernel
theorem dX6_back_44 : decode cX6_back 44 = .ok (.aload 5, 2) := by decide +kernel
theorem dX6_back_46 : decode cX6_back 46 = .ok (.getfield 162, 3) := by decide +kernel
theorem dX6_back_49 : decode cX6_back 49 = .ok (.ifCond .ne 16, 3) := by decide +kernel
theorem dX6_back_52 : decode cX6_back 52 = .ok (.aload 5, 2) := by decide +kernel
theorem dX6_back_54 : decode cX6_back 54 = .ok (.aload 6, 2) := by decide +kernel
theorem dX6_back_56 : decode cX6_back 56 = .ok (.iload_n 3, 1) := by decide +kernel
theorem dX6_back_57 : decode cX6_back 57 = .ok (.iload 4, 2) := by decide +kernel
theorem dX6_back_59 : decode cX6_back 59 = .ok (.invokestatic 127, 3) := by decide +kernel
theorem dX6_back_62 : decode cX6_back 62 = .ok (.ifCond .ne 11, 3) := by decide +kernel
theorem dX6_back_65 : decode cX6_back 65 = .ok (.new 73, 3) := by decide +kernel
theorem dX6_back_68 : decode cX6_back 68 = .ok (.dup, 1) := by decide +kernel
theorem dX6_back_69 : decode cX6_back 69 = .ok (.invokespecial 75, 3) := by decide +kernel
theorem dX6_back_72 : decode cX6_back 72 = .ok (.athrow, 1) := by decide +kernel
theorem dX6_back_73 : decode cX6_back 73 = .ok (.aload 5, 2) := by decide +kernel
theorem dX6_back_75 : decode cX6_back 75 = .ok (.new 131, 3) := by decide +kernel
theorem dX6_back_78 : decode cX6_back 78 = .ok (.dup, 1) := by decide +kernel
theorem dX6_back_79 : decode cX6_back 79 = .ok (.aload 6, 2) := by decide +kernel
theorem dX6_back_81 : decode cX6_back 81 = .ok (.iload_n 3, 1) := by decide +kernel
theorem dX6_back_82 : decode cX6_back 82 = .ok (.iload 4, 2) := by decide +kernel
theorem dX6_back_84 : decode cX6_back 84 = .ok (.invokespecial 133, 3) := by decide +kernel
theorem dX6_back_87 : decode cX6_back 87 = .ok (.putfield 159, 3) := by decide +kernel
theorem dX6_back_90 : decode cX6_back 90 = .ok (.aload_n 0, 1) := by decide +kernel
theorem dX6_back_91 : decode cX6_back 91 = .ok (.dup, 1) := by decide +kernel
theorem dX6_back_92 : decode cX6_back 92 = .ok (.getfield 165, 3) := by decide +kernel
theorem dX6_back_95 : decode cX6_back 95 = .ok (.aload 5, 2) := by decide +kernel
theorem dX6_back_97 : decode cX6_back 97 = .ok (.invokevirtual 152, 3) := by decide +kernel
theorem dX6_back_100 : decode cX6_back 100 = .ok (.iadd, 1) := by decide +kernel
theorem dX6_back_101 : decode cX6_back 101 = .ok (.putfield 165, 3) := by decide +kernel
theorem dX6_back_104 : decode cX6_back 104 = .ok (.aload_n 0, 1) := by decide +kernel
theorem dX6_back_105 : decode cX6_back 105 = .ok (.aload 5, 2) := by decide +kernel
theorem dX6_back_107 : decode cX6_back 107 = .ok (.aload 5, 2) := by decide +kernel
theorem dX6_back_109 : decode cX6_back 109 = .ok (.getfield 159, 3) := by decide +kernel
theorem dX6_back_112 : decode cX6_back 112 = .ok (.invokevirtual 155, 3) := by decide +kernel
theorem dX6_back_115 : decode cX6_back 115 = .ok (.ireturn, 1) := by decide +kernel
theorem dX6_jump_0 : decode cX6_jump 0 = .ok (.aload_n 0, 1) := by decide +kernel
theorem dX6_jump_1 : decode cX6_jump 1 = .ok (.iload_n 1, 1) := by decide +kernel
theorem dX6_jump_2 : decode cX6_jump 2 = .ok (.invokevirtual 113, 3) := by decide +kernel
theorem dX6_jump_5 : decode cX6_jump 5 = .ok (.astore_n 2, 1) := by decide +kernel
theorem dX6_jump_6 : decode cX6_jump 6 = .ok (.aload_n 2, 1) := by decide +kernel
theorem dX6_jump_7 : decode cX6_jump 7 = .ok (.getfield 123, 3) := by decide +kernel
theorem dX6_jump_10 : decode cX6_jump 10 = .ok (.ifnonnull 11, 3) := by decide +kernel
theorem dX6_jump_13 : decode cX6_jump 13 = .ok (.new 168, 3) := by decide +kernel
theorem dX6_jump_16 : decode cX6_jump 16 = .ok (.dup, 1) := by decide +kernel
theorem dX6_jump_17 : decode cX6_jump 17 = .ok (.invokespecial 170, 3) := by decide +kernel
theorem dX6_jump_20 : decode cX6_jump 20 = .ok (.athrow, 1) := by decide +kernel
theorem dX6_jump_21 : decode cX6_jump 21 = .ok (.aload_n 2, 1) := by decide +kernel
theorem dX6_jump_22 : decode cX6_jump 22 = .ok (.getfield 140, 3) := by decide +kernel
theorem dX6_jump_25 : decode cX6_jump 25 = .ok (.ireturn, 1) := by decide +kernel
theorem dX6_bestFirst_0 : decode cX6_bestFirst 0 = .ok (.aload_n 0, 1) := by decide +kernel
theorem dX6_bestFirst_1 : decode cX6_bestFirst 1 = .ok (.iload_n 1, 1) := by decide +kernel
theorem dX6_bestFirst_2 : decode cX6_bestFirst 2 = .ok (.invokevirtual 113, 3) := by decide +kernel
theorem dX6_bestFirst_5 : decode cX6_bestFirst 5 = .ok (.astore 5, 2) := by decide +kernel
theorem dX6_bestFirst_7 : decode cX6_bestFirst 7 = .ok (.aload_n 0, 1) := by decide +kernel
theorem dX6_bestFirst_8 : decode cX6_bestFirst 8 = .ok (.iload_n 2, 1) := by decide +kernel
theorem dX6_bestFirst_9 : decode cX6_bestFirst 9 = .ok (.invokevirtual 81, 3) := by decide +kernel
theorem dX6_bestFirst_12 : decode cX6_bestFirst 12 = .ok (.astore 6, 2) := by decide +kernel
theorem dX6_bestFirst_14 : decode cX6_bestFirst 14 = .ok (.ldc 121, 2) := by decide +kernel
theorem dX6_bestFirst_16 : decode cX6_bestFirst 16 = .ok (.iload 4, 2) := by decide +kernel
theorem dX6_bestFirst_18 : decode cX6_bestFirst 18 = .ok (.invokestatic 34, 3) := by decide +kernel
theorem dX6_bestFirst_21 : decode cX6_bestFirst 21 = .ok (.ifCond .eq 13, 3) := by decide +kernel
theorem dX6_bestFirst_24 : decode cX6_bestFirst 24 = .ok (.iload_n 3, 1) := by decide +kernel
theorem dX6_bestFirst_25 : decode cX6_bestFirst 25 = .ok (.iconst 1, 1) := by decide +kernel
theorem dX6_bestFirst_26 : decode cX6_bestFirst 26 = .ok (.bipush 8, 2) := by decide +kernel
theorem dX6_bestFirst_28 : decode cX6_bestFirst 28 = .ok (.invokestatic 40, 3) := by decide +kernel
theorem dX6_bestFirst_31 : decode cX6_bestFirst 31 = .ok (.ifCond .ne 11, 3) := by decide +kernel
theorem dX6_bestFirst_34 : decode cX6_bestFirst 34 = .ok (.new 44, 3) := by decide +kernel
theorem dX6_bestFirst_37 : decode cX6_bestFirst 37 = .ok (.dup, 1) := by decide +kernel
theorem dX6_bestFirst_38 : decode cX6_bestFirst 38 = .ok (.invokespecial 46, 3) := by decide +kernel
theorem dX6_bestFirst_41 : decode cX6_bestFirst 41 = .ok (.athrow, 1) := by decide +kernel
theorem dX6_bestFirst_42 : decode cX6_bestFirst 42 = .ok (.iconst (-1), 1) := by decide +kernel
theorem dX6_bestFirst_43 : decode cX6_bestFirst 43 = .ok (.istore 7, 2) := by decide +kernel
theorem dX6_bestFirst_45 : decode cX6_bestFirst 45 = .ok (.iconst 0, 1) := by decide +kernel
theorem dX6_bestFirst_46 : decode cX6_bestFirst 46 = .ok (.istore 8, 2) := by decide +kernel
theorem dX6_bestFirst_48 : decode cX6_bestFirst 48 = .ok (.iconst 0, 1) := by decide +kernel
theorem dX6_bestFirst_49 : decode cX6_bestFirst 49 = .ok (.istore 9, 2) := by decide +kernel
theorem dX6_bestFirst_51 : decode cX6_bestFirst 51 = .ok (.iload 9, 2) := by decide +kernel
theorem dX6_bestFirst_53 : decode cX6_bestFirst 53 = .ok (.aload 6, 2) := by decide +kernel
theorem dX6_bestFirst_55 : decode cX6_bestFirst 55 = .ok (.getfield 85, 3) := by decide +kernel
theorem dX6_bestFirst_58 : decode cX6_bestFirst 58 = .ok (.iload_n 3, 1) := by decide +kernel
theorem dX6_bestFirst_59 : decode cX6_bestFirst 59 = .ok (.isub, 1) := by decide +kernel
theorem dX6_bestFirst_60 : decode cX6_bestFirst 60 = .ok (.if_icmp .gt 54, 3) := by decide +kernel
theorem dX6_bestFirst_63 : decode cX6_bestFirst 63 = .ok (.aload 5, 2) := by decide +kernel
theorem dX6_bestFirst_65 : decode cX6_bestFirst 65 = .ok (.aload 6, 2) := by decide +kernel
theorem dX6_bestFirst_67 : decode cX6_bestFirst 67 = .ok (.iload 9, 2) := by decide +kernel
theorem dX6_bestFirst_69 : decode cX6_bestFirst 69 = .ok (.iload_n 3, 1) := by decide +kernel
theorem dX6_bestFirst_70 : decode cX6_bestFirst 70 = .ok (.invokestatic 127, 3) := by decide +kernel
theorem dX6_bestFirst_73 : decode cX6_bestFirst 73 = .ok (.ifCond .eq 35, 3) := by decide +kernel
theorem dX6_bestFirst_76 : decode cX6_bestFirst 76 = .ok (.aload 6, 2) := by decide +kernel
theorem dX6_bestFirst_78 : decode cX6_bestFirst 78 = .ok (.iload 9, 2) := by decide +kernel
theorem dX6_bestFirst_80 : decode cX6_bestFirst 80 = .ok (.iload_n 3, 1) := by decide +kernel
theorem dX6_bestFirst_81 : decode cX6_bestFirst 81 = .ok (.iload 4, 2) := by decide +kernel
theorem dX6_bestFirst_83 : decode cX6_bestFirst 83 = .ok (.invokestatic 136, 3) := by decide +kernel
theorem dX6_bestFirst_86 : decode cX6_bestFirst 86 = .ok (.istore 10, 2) := by decide +kernel
theorem dX6_bestFirst_88 : decode cX6_bestFirst 88 = .ok (.iload 7, 2) := by decide +kernel
theorem dX6_bestFirst_90 : decode cX6_bestFirst 90 = .ok (.ifCond .lt 10, 3) := by decide +kernel
theorem dX6_bestFirst_93 : decode cX6_bestFirst 93 = .ok (.iload 10, 2) := by decide +kernel
theorem dX6_bestFirst_95 : decode cX6_bestFirst 95 = .ok (.iload 8, 2) := by decide +kernel
theorem dX6_bestFirst_97 : decode cX6_bestFirst 97 = .ok (.if_icmp .ge 11, 3) := by decide +kernel
theorem dX6_bestFirst_100 : decode cX6_bestFirst 100 = .ok (.iload 9, 2) := by decide +kernel
theorem dX6_bestFirst_102 : decode cX6_bestFirst 102 = .ok (.istore 7, 2) := by decide +kernel
theorem dX6_bestFirst_104 : decode cX6_bestFirst 104 = .ok (.iload 10, 2) := by decide +kernel
theorem dX6_bestFirst_106 : decode cX6_bestFirst 106 = .ok (.istore 8, 2) := by decide +kernel
theorem dX6_bestFirst_108 : decode cX6_bestFirst 108 = .ok (.iinc 9 1, 3) := by decide +kernel
theorem dX6_bestFirst_111 : decode cX6_bestFirst 111 = .ok (.goto (-60), 3) := by decide +kernel
theorem dX6_bestFirst_114 : decode cX6_bestFirst 114 = .ok (.iload 7, 2) := by decide +kernel
theorem dX6_bestFirst_116 : decode cX6_bestFirst 116 = .ok (.ifCond .ge 11, 3) := by decide +kernel
theorem dX6_bestFirst_119 : decode cX6_bestFirst 119 = .ok (.new 168, 3) := by decide +kernel
theorem dX6_bestFirst_122 : decode cX6_bestFirst 122 = .ok (.dup, 1) := by decide +kernel
theorem dX6_bestFirst_123 : decode cX6_bestFirst 123 = .ok (.invokespecial 170, 3) := by decide +kernel
theorem dX6_bestFirst_126 : decode cX6_bestFirst 126 = .ok (.athrow, 1) := by decide +kernel
theorem dX6_bestFirst_127 : decode cX6_bestFirst 127 = .ok (.iload 7, 2) := by decide +kernel
theorem dX6_bestFirst_129 : decode cX6_bestFirst 129 = .ok (.ireturn, 1) := by decide +kernel
theorem dX6_press_0 : decode cX6_press 0 = .ok (.aload_n 0, 1) := by decide +kernel
theorem dX6_press_1 : decode cX6_press 1 = .ok (.iload_n 1, 1) := by decide +kernel
theorem dX6_press_2 : decode cX6_press 2 = .ok (.invokevirtual 113, 3) := by decide +kernel
theorem dX6_press_5 : decode cX6_press 5 = .ok (.astore 5, 2) := by decide +kernel
theorem dX6_press_7 : decode cX6_press 7 = .ok (.iload_n 2, 1) := by decide +kernel
theorem dX6_press_8 : decode cX6_press 8 = .ok (.iconst 0, 1) := by decide +kernel
theorem dX6_press_9 : decode cX6_press 9 = .ok (.bipush 60, 2) := by decide +kernel
theorem dX6_press_11 : decode cX6_press 11 = .ok (.invokestatic 40, 3) := by decide +kernel
theorem dX6_press_14 : decode cX6_press 14 = .ok (.ifCond .eq 24, 3) := by decide +kernel
theorem dX6_press_17 : decode cX6_press 17 = .ok (.iload_n 3, 1) := by decide +kernel
theorem dX6_press_18 : decode cX6_press 18 = .ok (.iconst 1, 1) := by decide +kernel
theorem dX6_press_19 : decode cX6_press 19 = .ok (.bipush 99, 2) := by decide +kernel
theorem dX6_press_21 : decode cX6_press 21 = .ok (.invokestatic 40, 3) := by decide +kernel
theorem dX6_press_24 : decode cX6_press 24 = .ok (.ifCond .eq 14, 3) := by decide +kernel
theorem dX6_press_27 : decode cX6_press 27 = .ok (.iload 4, 2) := by decide +kernel
theorem dX6_press_29 : decode cX6_press 29 = .ok (.iconst 0, 1) := by decide +kernel
theorem dX6_press_30 : decode cX6_press 30 = .ok (.bipush 60, 2) := by decide +kernel
theorem dX6_press_32 : decode cX6_press 32 = .ok (.invokestatic 40, 3) := by decide +kernel
theorem dX6_press_35 : decode cX6_press 35 = .ok (.ifCond .ne 11, 3) := by decide +kernel
theorem dX6_press_38 : decode cX6_press 38 = .ok (.new 44, 3) := by decide +kernel
theorem dX6_press_41 : decode cX6_press 41 = .ok (.dup, 1) := by decide +kernel
theorem dX6_press_42 : decode cX6_press 42 = .ok (.invokespecial 46, 3) := by decide +kernel
theorem dX6_press_45 : decode cX6_press 45 = .ok (.athrow, 1) := by decide +kernel
theorem dX6_press_46 : decode cX6_press 46 = .ok (.aload 5, 2) := by decide +kernel
theorem dX6_press_48 : decode cX6_press 48 = .ok (.getfield 123, 3) := by decide +kernel
theorem dX6_press_51 : decode cX6_press 51 = .ok (.astore 6, 2) := by decide +kernel
theorem dX6_press_53 : decode cX6_press 53 = .ok (.aload 6, 2) := by decide +kernel
theorem dX6_press_55 : decode cX6_press 55 = .ok (.ifnull 11, 3) := by decide +kernel
theorem dX6_press_58 : decode cX6_press 58 = .ok (.aload 5, 2) := by decide +kernel
theorem dX6_press_60 : decode cX6_press 60 = .ok (.getfield 162, 3) := by decide +kernel
theorem dX6_press_63 : decode cX6_press 63 = .ok (.ifCond .eq 11, 3) := by decide +kernel
theorem dX6_press_66 : decode cX6_press 66 = .ok (.new 73, 3) := by decide +kernel
theorem dX6_press_69 : decode cX6_press 69 = .ok (.dup, 1) := by decide +kernel
theorem dX6_press_70 : decode cX6_press 70 = .ok (.invokespecial 75, 3) := by decide +kernel
theorem dX6_press_73 : decode cX6_press 73 = .ok (.athrow, 1) := by decide +kernel
theorem dX6_press_74 : decode cX6_press 74 = .ok (.aload 5, 2) := by decide +kernel
theorem dX6_press_76 : decode cX6_press 76 = .ok (.iconst 1, 1) := by decide +kernel
theorem dX6_press_77 : decode cX6_press 77 = .ok (.putfield 162, 3) := by decide +kernel
theorem dX6_press_80 : decode cX6_press 80 = .ok (.aload 5, 2) := by decide +kernel
theorem dX6_press_82 : decode cX6_press 82 = .ok (.aload_n 0, 1) := by decide +kernel
theorem dX6_press_83 : decode cX6_press 83 = .ok (.getfield 28, 3) := by decide +kernel
theorem dX6_press_86 : decode cX6_press 86 = .ok (.putfield 171, 3) := by decide +kernel
theorem dX6_press_89 : decode cX6_press 89 = .ok (.iload 4, 2) := by decide +kernel
theorem dX6_press_91 : decode cX6_press 91 = .ok (.iconst 4, 1) := by decide +kernel
theorem dX6_press_92 : decode cX6_press 92 = .ok (.iload_n 2, 1) := by decide +kernel
theorem dX6_press_93 : decode cX6_press 93 = .ok (.iconst 3, 1) := by decide +kernel
theorem dX6_press_94 : decode cX6_press 94 = .ok (.idiv, 1) := by decide +kernel
theorem dX6_press_95 : decode cX6_press 95 = .ok (.iadd, 1) := by decide +kernel
theorem dX6_press_96 : decode cX6_press 96 = .ok (.if_icmp .le 20, 3) := by decide +kernel
theorem dX6_press_99 : decode cX6_press 99 = .ok (.aload 5, 2) := by decide +kernel
theorem dX6_press_101 : decode cX6_press 101 = .ok (.dup, 1) := by decide +kernel
theorem dX6_press_102 : decode cX6_press 102 = .ok (.getfield 174, 3) := by decide +kernel
theorem dX6_press_105 : decode cX6_press 105 = .ok (.iconst 2, 1) := by decide +kernel
theorem dX6_press_106 : decode cX6_press 106 = .ok (.aload 6, 2) := by decide +kernel
theorem dX6_press_108 : decode cX6_press 108 = .ok (.getfield 177, 3) := by decide +kernel
theorem dX6_press_111 : decode cX6_press 111 = .ok (.imul, 1) := by decide +kernel
theorem dX6_press_112 : decode cX6_press 112 = .ok (.iadd, 1) := by decide +kernel
theorem dX6_press_113 : decode cX6_press 113 = .ok (.putfield 174, 3) := by decide +kernel
theorem dX6_press_116 : decode cX6_press 116 = .ok (.iload_n 3, 1) := by decide +kernel
theorem dX6_press_117 : decode cX6_press 117 = .ok (.bipush 20, 2) := by decide +kernel
theorem dX6_press_119 : decode cX6_press 119 = .ok (.aload 5, 2) := by decide +kernel
theorem dX6_press_121 : decode cX6_press 121 = .ok (.getfield 180, 3) := by decide +kernel
theorem dX6_press_124 : decode cX6_press 124 = .ok (.iconst 4, 1) := by decide +kernel
theorem dX6_press_125 : decode cX6_press 125 = .ok (.idiv, 1) := by decide +kernel
theorem dX6_press_126 : decode cX6_press 126 = .ok (.iadd, 1) := by decide +kernel
theorem dX6_press_127 : decode cX6_press 127 = .ok (.iload_n 2, 1) := by decide +kernel
theorem dX6_press_128 : decode cX6_press 128 = .ok (.iconst 3, 1) := by decide +kernel
theorem dX6_press_129 : decode cX6_press 129 = .ok (.idiv, 1) := by decide +kernel
theorem dX6_press_130 : decode cX6_press 130 = .ok (.isub, 1) := by decide +kernel
theorem dX6_press_131 : decode cX6_press 131 = .ok (.if_icmp .ge 18, 3) := by decide +kernel
theorem dX6_press_134 : decode cX6_press 134 = .ok (.aload 5, 2) := by decide +kernel
theorem dX6_press_136 : decode cX6_press 136 = .ok (.dup, 1) := by decide +kernel
theorem dX6_press_137 : decode cX6_press 137 = .ok (.getfield 174, 3) := by decide +kernel
theorem dX6_press_140 : decode cX6_press 140 = .ok (.aload 6, 2) := by decide +kernel
theorem dX6_press_142 : decode cX6_press 142 = .ok (.getfield 177, 3) := by decide +kernel
theorem dX6_press_145 : decode cX6_press 145 = .ok (.iadd, 1) := by decide +kernel
theorem dX6_press_146 : decode cX6_press 146 = .ok (.putfield 174, 3) := by decide +kernel
theorem dX6_press_149 : decode cX6_press 149 = .ok (.aload 5, 2) := by decide +kernel
theorem dX6_press_151 : decode cX6_press 151 = .ok (.getfield 174, 3) := by decide +kernel
theorem dX6_press_154 : decode cX6_press 154 = .ok (.ireturn, 1) := by decide +kernel
theorem dX6_slit_0 : decode cX6_slit 0 = .ok (.aload_n 0, 1) := by decide +kernel
theorem dX6_slit_1 : decode cX6_slit 1 = .ok (.iload_n 1, 1) := by decide +kernel
theorem dX6_slit_2 : decode cX6_slit 2 = .ok (.invokevirtual 113, 3) := by decide +kernel
theorem dX6_slit_5 : decode cX6_slit 5 = .ok (.astore_n 2, 1) := by decide +kernel
theorem dX6_slit_6 : decode cX6_slit 6 = .ok (.aload_n 2, 1) := by decide +kernel
theorem dX6_slit_7 : decode cX6_slit 7 = .ok (.getfield 174, 3) := by decide +kernel
theorem dX6_slit_10 : decode cX6_slit 10 = .ok (.ifCond .gt 11, 3) := by decide +kernel
theorem dX6_slit_13 : decode cX6_slit 13 = .ok (.new 168, 3) := by decide +kernel
theorem dX6_slit_16 : decode cX6_slit 16 = .ok (.dup, 1) := by decide +kernel
theorem dX6_slit_17 : decode cX6_slit 17 = .ok (.invokespecial 170, 3) := by decide +kernel
theorem dX6_slit_20 : decode cX6_slit 20 = .ok (.athrow, 1) := by decide +kernel
theorem dX6_slit_21 : decode cX6_slit 21 = .ok (.aload_n 2, 1) := by decide +kernel
theorem dX6_slit_22 : decode cX6_slit 22 = .ok (.dup, 1) := by decide +kernel
theorem dX6_slit_23 : decode cX6_slit 23 = .ok (.getfield 174, 3) := by decide +kernel
theorem dX6_slit_26 : decode cX6_slit 26 = .ok (.iconst 1, 1) := by decide +kernel
theorem dX6_slit_27 : decode cX6_slit 27 = .ok (.isub, 1) := by decide +kernel
theorem dX6_slit_28 : decode cX6_slit 28 = .ok (.putfield 174, 3) := by decide +kernel
theorem dX6_slit_31 : decode cX6_slit 31 = .ok (.aload_n 2, 1) := by decide +kernel
theorem dX6_slit_32 : decode cX6_slit 32 = .ok (.getfield 174, 3) := by decide +kernel
theorem dX6_slit_35 : decode cX6_slit 35 = .ok (.ireturn, 1) := by decide +kernel
theorem dX6_air_0 : decode cX6_air 0 = .ok (.iload_n 1, 1) := by decide +kernel
theorem dX6_air_1 : decode cX6_air 1 = .ok (.iconst 4, 1) := by decide +kernel
theorem dX6_air_2 : decode cX6_air 2 = .ok (.bipush 20, 2) := by decide +kernel
theorem dX6_air_4 : decode cX6_air 4 = .ok (.invokestatic 40, 3) := by decide +kernel
theorem dX6_air_7 : decode cX6_air 7 = .ok (.ifCond .ne 11, 3) := by decide +kernel
theorem dX6_air_10 : decode cX6_air 10 = .ok (.new 44, 3) := by decide +kernel
theorem dX6_air_13 : decode cX6_air 13 = .ok (.dup, 1) := by decide +kernel
theorem dX6_air_14 : decode cX6_air 14 = .ok (.invokespecial 46, 3) := by decide +kernel
theorem dX6_air_17 : decode cX6_air 17 = .ok (.athrow, 1) := by decide +kernel
theorem dX6_air_18 : decode cX6_air 18 = .ok (.aload_n 0, 1) := by decide +kernel
theorem dX6_air_19 : decode cX6_air 19 = .ok (.getfield 28, 3) := by decide +kernel
theorem dX6_air_22 : decode cX6_air 22 = .ok (.istore_n 2, 1) := by decide +kernel
theorem dX6_air_23 : decode cX6_air 23 = .ok (.aload_n 0, 1) := by decide +kernel
theorem dX6_air_24 : decode cX6_air 24 = .ok (.iload_n 1, 1) := by decide +kernel
theorem dX6_air_25 : decode cX6_air 25 = .ok (.putfield 28, 3) := by decide +kernel
theorem dX6_air_28 : decode cX6_air 28 = .ok (.iload_n 2, 1) := by decide +kernel
theorem dX6_air_29 : decode cX6_air 29 = .ok (.ireturn, 1) := by decide +kernel
theorem dX6_cup_0 : decode cX6_cup 0 = .ok (.aload_n 0, 1) := by decide +kernel
theorem dX6_cup_1 : decode cX6_cup 1 = .ok (.iload_n 1, 1) := by decide +kernel
theorem dX6_cup_2 : decode cX6_cup 2 = .ok (.invokevirtual 113, 3) := by decide +kernel
theorem dX6_cup_5 : decode cX6_cup 5 = .ok (.astore_n 3, 1) := by decide +kernel
theorem dX6_cup_6 : decode cX6_cup 6 = .ok (.iload_n 2, 1) := by decide +kernel
theorem dX6_cup_7 : decode cX6_cup 7 = .ok (.iconst 4, 1) := by decide +kernel
theorem dX6_cup_8 : decode cX6_cup 8 = .ok (.bipush 20, 2) := by decide +kernel
theorem dX6_cup_10 : decode cX6_cup 10 = .ok (.invokestatic 40, 3) := by decide +kernel
theorem dX6_cup_13 : decode cX6_cup 13 = .ok (.ifCond .ne 11, 3) := by decide +kernel
theorem dX6_cup_16 : decode cX6_cup 16 = .ok (.new 44, 3) := by decide +kernel
theorem dX6_cup_19 : decode cX6_cup 19 = .ok (.dup, 1) := by decide +kernel
theorem dX6_cup_20 : decode cX6_cup 20 = .ok (.invokespecial 46, 3) := by decide +kernel
theorem dX6_cup_23 : decode cX6_cup 23 = .ok (.athrow, 1) := by decide +kernel
theorem dX6_cup_24 : decode cX6_cup 24 = .ok (.aload_n 3, 1) := by decide +kernel
theorem dX6_cup_25 : decode cX6_cup 25 = .ok (.invokestatic 181, 3) := by decide +kernel
theorem dX6_cup_28 : decode cX6_cup 28 = .ok (.iload_n 2, 1) := by decide +kernel
theorem dX6_cup_29 : decode cX6_cup 29 = .ok (.invokevirtual 185, 3) := by decide +kernel
theorem dX6_cup_32 : decode cX6_cup 32 = .ok (.ireturn, 1) := by decide +kernel
theorem dX6_isFlat_0 : decode cX6_isFlat 0 = .ok (.aload_n 0, 1) := by decide +kernel
theorem dX6_isFlat_1 : decode cX6_isFlat 1 = .ok (.iload_n 1, 1) := by decide +kernel
theorem dX6_isFlat_2 : decode cX6_isFlat 2 = .ok (.invokevirtual 113, 3) := by decide +kernel
theorem dX6_isFlat_5 : decode cX6_isFlat 5 = .ok (.invokestatic 181, 3) := by decide +kernel
theorem dX6_isFlat_8 : decode cX6_isFlat 8 = .ok (.aload_n 0, 1) := by decide +kernel
theorem dX6_isFlat_9 : decode cX6_isFlat 9 = .ok (.getfield 28, 3) := by decide +kernel
theorem dX6_isFlat_12 : decode cX6_isFlat 12 = .ok (.invokevirtual 188, 3) := by decide +kernel
theorem dX6_isFlat_15 : decode cX6_isFlat 15 = .ok (.ireturn, 1) := by decide +kernel
theorem dX6_cupMonth_0 : decode cX6_cupMonth 0 = .ok (.aload_n 0, 1) := by decide +kernel
theorem dX6_cupMonth_1 : decode cX6_cupMonth 1 = .ok (.iload_n 1, 1) := by decide +kernel
theorem dX6_cupMonth_2 : decode cX6_cupMonth 2 = .ok (.invokevirtual 113, 3) := by decide +kernel
theorem dX6_cupMonth_5 : decode cX6_cupMonth 5 = .ok (.invokestatic 181, 3) := by decide +kernel
theorem dX6_cupMonth_8 : decode cX6_cupMonth 8 = .ok (.astore_n 2, 1) := by decide +kernel
theorem dX6_cupMonth_9 : decode cX6_cupMonth 9 = .ok (.iconst 0, 1) := by decide +kernel
theorem dX6_cupMonth_10 : decode cX6_cupMonth 10 = .ok (.istore_n 3, 1) := by decide +kernel
theorem dX6_cupMonth_11 : decode cX6_cupMonth 11 = .ok (.iload_n 3, 1) := by decide +kernel
theorem dX6_cupMonth_12 : decode cX6_cupMonth 12 = .ok (.getstatic 191, 3) := by decide +kernel
theorem dX6_cupMonth_15 : decode cX6_cupMonth 15 = .ok (.arraylength, 1) := by decide +kernel
theorem dX6_cupMonth_16 : decode cX6_cupMonth 16 = .ok (.if_icmp .ge 34, 3) := by decide +kernel
theorem dX6_cupMonth_19 : decode cX6_cupMonth 19 = .ok (.aload_n 2, 1) := by decide +kernel
theorem dX6_cupMonth_20 : decode cX6_cupMonth 20 = .ok (.aload_n 0, 1) := by decide +kernel
theorem dX6_cupMonth_21 : decode cX6_cupMonth 21 = .ok (.getfield 28, 3) := by decide +kernel
theorem dX6_cupMonth_24 : decode cX6_cupMonth 24 = .ok (.getstatic 191, 3) := by decide +kernel
theorem dX6_cupMonth_27 : decode cX6_cupMonth 27 = .ok (.iload_n 3, 1) := by decide +kernel
theorem dX6_cupMonth_28 : decode cX6_cupMonth 28 = .ok (.iaload, 1) := by decide +kernel
theorem dX6_cupMonth_29 : decode cX6_cupMonth 29 = .ok (.iadd, 1) := by decide +kernel
theorem dX6_cupMonth_30 : decode cX6_cupMonth 30 = .ok (.iconst 4, 1) := by decide +kernel
theorem dX6_cupMonth_31 : decode cX6_cupMonth 31 = .ok (.bipush 20, 2) := by decide +kernel
theorem dX6_cupMonth_33 : decode cX6_cupMonth 33 = .ok (.invokestatic 195, 3) := by decide +kernel
theorem dX6_cupMonth_36 : decode cX6_cupMonth 36 = .ok (.invokevirtual 188, 3) := by decide +kernel
theorem dX6_cupMonth_39 : decode cX6_cupMonth 39 = .ok (.ifCond .ne 5, 3) := by decide +kernel
theorem dX6_cupMonth_42 : decode cX6_cupMonth 42 = .ok (.iload_n 3, 1) := by decide +kernel
theorem dX6_cupMonth_43 : decode cX6_cupMonth 43 = .ok (.ireturn, 1) := by decide +kernel
theorem dX6_cupMonth_44 : decode cX6_cupMonth 44 = .ok (.iinc 3 1, 3) := by decide +kernel
theorem dX6_cupMonth_47 : decode cX6_cupMonth 47 = .ok (.goto (-36), 3) := by decide +kernel
theorem dX6_cupMonth_50 : decode cX6_cupMonth 50 = .ok (.new 168, 3) := by decide +kernel
theorem dX6_cupMonth_53 : decode cX6_cupMonth 53 = .ok (.dup, 1) := by decide +kernel
theorem dX6_cupMonth_54 : decode cX6_cupMonth 54 = .ok (.invokespecial 170, 3) := by decide +kernel
theorem dX6_cupMonth_57 : decode cX6_cupMonth 57 = .ok (.athrow, 1) := by decide +kernel
theorem dX6_scrape_0 : decode cX6_scrape 0 = .ok (.aload_n 0, 1) := by decide +kernel
theorem dX6_scrape_1 : decode cX6_scrape 1 = .ok (.iload_n 1, 1) := by decide +kernel
theorem dX6_scrape_2 : decode cX6_scrape 2 = .ok (.invokevirtual 113, 3) := by decide +kernel
theorem dX6_scrape_5 : decode cX6_scrape 5 = .ok (.astore_n 3, 1) := by decide +kernel
theorem dX6_scrape_6 : decode cX6_scrape 6 = .ok (.iload_n 2, 1) := by decide +kernel
theorem dX6_scrape_7 : decode cX6_scrape 7 = .ok (.iconst 1, 1) := by decide +kernel
theorem dX6_scrape_8 : decode cX6_scrape 8 = .ok (.bipush 99, 2) := by decide +kernel
theorem dX6_scrape_10 : decode cX6_scrape 10 = .ok (.invokestatic 40, 3) := by decide +kernel
theorem dX6_scrape_13 : decode cX6_scrape 13 = .ok (.ifCond .ne 11, 3) := by decide +kernel
theorem dX6_scrape_16 : decode cX6_scrape 16 = .ok (.new 44, 3) := by decide +kernel
theorem dX6_scrape_19 : decode cX6_scrape 19 = .ok (.dup, 1) := by decide +kernel
theorem dX6_scrape_20 : decode cX6_scrape 20 = .ok (.invokespecial 46, 3) := by decide +kernel
theorem dX6_scrape_23 : decode cX6_scrape 23 = .ok (.athrow, 1) := by decide +kernel
theorem dX6_scrape_24 : decode cX6_scrape 24 = .ok (.aload_n 3, 1) := by decide +kernel
theorem dX6_scrape_25 : decode cX6_scrape 25 = .ok (.getfield 162, 3) := by decide +kernel
theorem dX6_scrape_28 : decode cX6_scrape 28 = .ok (.ifCond .eq 10, 3) := by decide +kernel
theorem dX6_scrape_31 : decode cX6_scrape 31 = .ok (.aload_n 3, 1) := by decide +kernel
theorem dX6_scrape_32 : decode cX6_scrape 32 = .ok (.invokevirtual 199, 3) := by decide +kernel
theorem dX6_scrape_35 : decode cX6_scrape 35 = .ok (.ifCond .eq 11, 3) := by decide +kernel
theorem dX6_scrape_38 : decode cX6_scrape 38 = .ok (.new 73, 3) := by decide +kernel
theorem dX6_scrape_41 : decode cX6_scrape 41 = .ok (.dup, 1) := by decide +kernel
theorem dX6_scrape_42 : decode cX6_scrape 42 = .ok (.invokespecial 75, 3) := by decide +kernel
theorem dX6_scrape_45 : decode cX6_scrape 45 = .ok (.athrow, 1) := by decide +kernel
theorem dX6_scrape_46 : decode cX6_scrape 46 = .ok (.aload_n 3, 1) := by decide +kernel
theorem dX6_scrape_47 : decode cX6_scrape 47 = .ok (.iconst 0, 1) := by decide +kernel
theorem dX6_scrape_48 : decode cX6_scrape 48 = .ok (.aload_n 3, 1) := by decide +kernel
theorem dX6_scrape_49 : decode cX6_scrape 49 = .ok (.getfield 146, 3) := by decide +kernel
theorem dX6_scrape_52 : decode cX6_scrape 52 = .ok (.iload_n 2, 1) := by decide +kernel
theorem dX6_scrape_53 : decode cX6_scrape 53 = .ok (.isub, 1) := by decide +kernel
theorem dX6_scrape_54 : decode cX6_scrape 54 = .ok (.invokestatic 203, 3) := by decide +kernel
theorem dX6_scrape_57 : decode cX6_scrape 57 = .ok (.putfield 146, 3) := by decide +kernel
theorem dX6_scrape_60 : decode cX6_scrape 60 = .ok (.aload_n 3, 1) := by decide +kernel
theorem dX6_scrape_61 : decode cX6_scrape 61 = .ok (.getfield 146, 3) := by decide +kernel
theorem dX6_scrape_64 : decode cX6_scrape 64 = .ok (.ireturn, 1) := by decide +kernel
theorem dX6_isThrough_0 : decode cX6_isThrough 0 = .ok (.aload_n 0, 1) := by decide +kernel
theorem dX6_isThrough_1 : decode cX6_isThrough 1 = .ok (.iload_n 1, 1) := by decide +kernel
theorem dX6_isThrough_2 : decode cX6_isThrough 2 = .ok (.invokevirtual 113, 3) := by decide +kernel
theorem dX6_isThrough_5 : decode cX6_isThrough 5 = .ok (.invokevirtual 199, 3) := by decide +kernel
theorem dX6_isThrough_8 : decode cX6_isThrough 8 = .ok (.ireturn, 1) := by decide +kernel
theorem dX6_pad_0 : decode cX6_pad 0 = .ok (.aload_n 0, 1) := by decide +kernel
theorem dX6_pad_1 : decode cX6_pad 1 = .ok (.iload_n 1, 1) := by decide +kernel
theorem dX6_pad_2 : decode cX6_pad 2 = .ok (.invokevirtual 113, 3) := by decide +kernel
theorem dX6_pad_5 : decode cX6_pad 5 = .ok (.astore_n 3, 1) := by decide +kernel
theorem dX6_pad_6 : decode cX6_pad 6 = .ok (.iload_n 2, 1) := by decide +kernel
theorem dX6_pad_7 : decode cX6_pad 7 = .ok (.iconst 1, 1) := by decide +kernel
theorem dX6_pad_8 : decode cX6_pad 8 = .ok (.bipush 9, 2) := by decide +kernel
theorem dX6_pad_10 : decode cX6_pad 10 = .ok (.invokestatic 40, 3) := by decide +kernel
theorem dX6_pad_13 : decode cX6_pad 13 = .ok (.ifCond .ne 11, 3) := by decide +kernel
theorem dX6_pad_16 : decode cX6_pad 16 = .ok (.new 44, 3) := by decide +kernel
theorem dX6_pad_19 : decode cX6_pad 19 = .ok (.dup, 1) := by decide +kernel
theorem dX6_pad_20 : decode cX6_pad 20 = .ok (.invokespecial 46, 3) := by decide +kernel
theorem dX6_pad_23 : decode cX6_pad 23 = .ok (.athrow, 1) := by decide +kernel
theorem dX6_pad_24 : decode cX6_pad 24 = .ok (.aload_n 3, 1) := by decide +kernel
theorem dX6_pad_25 : decode cX6_pad 25 = .ok (.invokestatic 181, 3) := by decide +kernel
theorem dX6_pad_28 : decode cX6_pad 28 = .ok (.iload_n 2, 1) := by decide +kernel
theorem dX6_pad_29 : decode cX6_pad 29 = .ok (.invokevirtual 209, 3) := by decide +kernel
theorem dX6_pad_32 : decode cX6_pad 32 = .ok (.aload_n 3, 1) := by decide +kernel
theorem dX6_pad_33 : decode cX6_pad 33 = .ok (.getfield 213, 3) := by decide +kernel
theorem dX6_pad_36 : decode cX6_pad 36 = .ok (.ireturn, 1) := by decide +kernel
theorem dX6_rest_0 : decode cX6_rest 0 = .ok (.iconst 0, 1) := by decide +kernel
theorem dX6_rest_1 : decode cX6_rest 1 = .ok (.istore_n 1, 1) := by decide +kernel
theorem dX6_rest_2 : decode cX6_rest 2 = .ok (.iconst 0, 1) := by decide +kernel
theorem dX6_rest_3 : decode cX6_rest 3 = .ok (.istore_n 2, 1) := by decide +kernel
theorem dX6_rest_4 : decode cX6_rest 4 = .ok (.iload_n 2, 1) := by decide +kernel
theorem dX6_rest_5 : decode cX6_rest 5 = .ok (.aload_n 0, 1) := by decide +kernel
theorem dX6_rest_6 : decode cX6_rest 6 = .ok (.getfield 19, 3) := by decide +kernel
theorem dX6_rest_9 : decode cX6_rest 9 = .ok (.invokevirtual 47, 3) := by decide +kernel
theorem dX6_rest_12 : decode cX6_rest 12 = .ok (.if_icmp .ge 36, 3) := by decide +kernel
theorem dX6_rest_15 : decode cX6_rest 15 = .ok (.aload_n 0, 1) := by decide +kernel
theorem dX6_rest_16 : decode cX6_rest 16 = .ok (.getfield 19, 3) := by decide +kernel
theorem dX6_rest_19 : decode cX6_rest 19 = .ok (.iload_n 2, 1) := by decide +kernel
theorem dX6_rest_20 : decode cX6_rest 20 = .ok (.invokevirtual 216, 3) := by decide +kernel
theorem dX6_rest_23 : decode cX6_rest 23 = .ok (.checkcast 108, 3) := by decide +kernel
theorem dX6_rest_26 : decode cX6_rest 26 = .ok (.astore_n 3, 1) := by decide +kernel
theorem dX6_rest_27 : decode cX6_rest 27 = .ok (.aload_n 3, 1) := by decide +kernel
theorem dX6_rest_28 : decode cX6_rest 28 = .ok (.getfield 220, 3) := by decide +kernel
theorem dX6_rest_31 : decode cX6_rest 31 = .ok (.ifCond .le 6, 3) := by decide +kernel
theorem dX6_rest_34 : decode cX6_rest 34 = .ok (.iinc 1 1, 3) := by decide +kernel
theorem dX6_rest_37 : decode cX6_rest 37 = .ok (.aload_n 3, 1) := by decide +kernel
theorem dX6_rest_38 : decode cX6_rest 38 = .ok (.iconst 0, 1) := by decide +kernel
theorem dX6_rest_39 : decode cX6_rest 39 = .ok (.putfield 220, 3) := by decide +kernel
theorem dX6_rest_42 : decode cX6_rest 42 = .ok (.iinc 2 1, 3) := by decide +kernel
theorem dX6_rest_45 : decode cX6_rest 45 = .ok (.goto (-41), 3) := by decide +kernel
theorem dX6_rest_48 : decode cX6_rest 48 = .ok (.iload_n 1, 1) := by decide +kernel
theorem dX6_rest_49 : decode cX6_rest 49 = .ok (.ireturn, 1) := by decide +kernel
theorem dX6_ghosts_0 : decode cX6_ghosts 0 = .ok (.aload_n 0, 1) := by decide +kernel
theorem dX6_ghosts_1 : decode cX6_ghosts 1 = .ok (.iload_n 1, 1) := by decide +kernel
theorem dX6_ghosts_2 : decode cX6_ghosts 2 = .ok (.invokevirtual 113, 3) := by decide +kernel
theorem dX6_ghosts_5 : decode cX6_ghosts 5 = .ok (.getfield 223, 3) := by decide +kernel
theorem dX6_ghosts_8 : decode cX6_ghosts 8 = .ok (.ireturn, 1) := by decide +kernel
theorem dX6_picture_0 : decode cX6_picture 0 = .ok (.aload_n 0, 1) := by decide +kernel
theorem dX6_picture_1 : decode cX6_picture 1 = .ok (.getfield 22, 3) := by decide +kernel
theorem dX6_picture_4 : decode cX6_picture 4 = .ok (.invokevirtual 47, 3) := by decide +kernel
theorem dX6_picture_7 : decode cX6_picture 7 = .ok (.iconst 4, 1) := by decide +kernel
theorem dX6_picture_8 : decode cX6_picture 8 = .ok (.if_icmp .lt 11, 3) := by decide +kernel
theorem dX6_picture_11 : decode cX6_picture 11 = .ok (.new 51, 3) := by decide +kernel
theorem dX6_picture_14 : decode cX6_picture 14 = .ok (.dup, 1) := by decide +kernel
theorem dX6_picture_15 : decode cX6_picture 15 = .ok (.invokespecial 53, 3) := by decide +kernel
theorem dX6_picture_18 : decode cX6_picture 18 = .ok (.athrow, 1) := by decide +kernel
theorem dX6_picture_19 : decode cX6_picture 19 = .ok (.aload_n 0, 1) := by decide +kernel
theorem dX6_picture_20 : decode cX6_picture 20 = .ok (.getfield 22, 3) := by decide +kernel
theorem dX6_picture_23 : decode cX6_picture 23 = .ok (.new 226, 3) := by decide +kernel
theorem dX6_picture_26 : decode cX6_picture 26 = .ok (.dup, 1) := by decide +kernel
theorem dX6_picture_27 : decode cX6_picture 27 = .ok (.invokespecial 228, 3) := by decide +kernel
theorem dX6_picture_30 : decode cX6_picture 30 = .ok (.invokevirtual 59, 3) := by decide +kernel
theorem dX6_picture_33 : decode cX6_picture 33 = .ok (.pop, 1) := by decide +kernel
theorem dX6_picture_34 : decode cX6_picture 34 = .ok (.aload_n 0, 1) := by decide +kernel
theorem dX6_picture_35 : decode cX6_picture 35 = .ok (.getfield 22, 3) := by decide +kernel
theorem dX6_picture_38 : decode cX6_picture 38 = .ok (.invokevirtual 47, 3) := by decide +kernel
theorem dX6_picture_41 : decode cX6_picture 41 = .ok (.iconst 1, 1) := by decide +kernel
theorem dX6_picture_42 : decode cX6_picture 42 = .ok (.isub, 1) := by decide +kernel
theorem dX6_picture_43 : decode cX6_picture 43 = .ok (.ireturn, 1) := by decide +kernel
theorem dX6_draw_0 : decode cX6_draw 0 = .ok (.aload_n 0, 1) := by decide +kernel
theorem dX6_draw_1 : decode cX6_draw 1 = .ok (.iload_n 1, 1) := by decide +kernel
theorem dX6_draw_2 : decode cX6_draw 2 = .ok (.invokevirtual 229, 3) := by decide +kernel
theorem dX6_draw_5 : decode cX6_draw 5 = .ok (.astore 6, 2) := by decide +kernel
theorem dX6_draw_7 : decode cX6_draw 7 = .ok (.iload_n 2, 1) := by decide +kernel
theorem dX6_draw_8 : decode cX6_draw 8 = .ok (.iload_n 3, 1) := by decide +kernel
theorem dX6_draw_9 : decode cX6_draw 9 = .ok (.invokestatic 233, 3) := by decide +kernel
theorem dX6_draw_12 : decode cX6_draw 12 = .ok (.ifCond .eq 27, 3) := by decide +kernel
theorem dX6_draw_15 : decode cX6_draw 15 = .ok (.iload 4, 2) := by decide +kernel
theorem dX6_draw_17 : decode cX6_draw 17 = .ok (.iconst 1, 1) := by decide +kernel
theorem dX6_draw_18 : decode cX6_draw 18 = .ok (.bipush 8, 2) := by decide +kernel
theorem dX6_draw_20 : decode cX6_draw 20 = .ok (.invokestatic 40, 3) := by decide +kernel
theorem dX6_draw_23 : decode cX6_draw 23 = .ok (.ifCond .eq 16, 3) := by decide +kernel
theorem dX6_draw_26 : decode cX6_draw 26 = .ok (.iload_n 3, 1) := by decide +kernel
theorem dX6_draw_27 : decode cX6_draw 27 = .ok (.iload 4, 2) := by decide +kernel
theorem dX6_draw_29 : decode cX6_draw 29 = .ok (.iadd, 1) := by decide +kernel
theorem dX6_draw_30 : decode cX6_draw 30 = .ok (.bipush 8, 2) := by decide +kernel
theorem dX6_draw_32 : decode cX6_draw 32 = .ok (.if_icmp .gt 7, 3) := by decide +kernel
theorem dX6_draw_35 : decode cX6_draw 35 = .ok (.iconst 1, 1) := by decide +kernel
theorem dX6_draw_36 : decode cX6_draw 36 = .ok (.goto 4, 3) := by decide +kernel
theorem dX6_draw_39 : decode cX6_draw 39 = .ok (.iconst 0, 1) := by decide +kernel
theorem dX6_draw_40 : decode cX6_draw 40 = .ok (.istore 7, 2) := by decide +kernel
theorem dX6_draw_42 : decode cX6_draw 42 = .ok (.iload 7, 2) := by decide +kernel
theorem dX6_draw_44 : decode cX6_draw 44 = .ok (.ifCond .eq 11, 3) := by decide +kernel
theorem dX6_draw_47 : decode cX6_draw 47 = .ok (.iload 5, 2) := by decide +kernel
theorem dX6_draw_49 : decode cX6_draw 49 = .ok (.invokestatic 237, 3) := by decide +kernel
theorem dX6_draw_52 : decode cX6_draw 52 = .ok (.ifCond .ne 11, 3) := by decide +kernel
theorem dX6_draw_55 : decode cX6_draw 55 = .ok (.new 44, 3) := by decide +kernel
theorem dX6_draw_58 : decode cX6_draw 58 = .ok (.dup, 1) := by decide +kernel
theorem dX6_draw_59 : decode cX6_draw 59 = .ok (.invokespecial 46, 3) := by decide +kernel
theorem dX6_draw_62 : decode cX6_draw 62 = .ok (.athrow, 1) := by decide +kernel
theorem dX6_draw_63 : decode cX6_draw 63 = .ok (.aload 6, 2) := by decide +kernel
theorem dX6_draw_65 : decode cX6_draw 65 = .ok (.getfield 241, 3) := by decide +kernel
theorem dX6_draw_68 : decode cX6_draw 68 = .ok (.ifnull 11, 3) := by decide +kernel
theorem dX6_draw_71 : decode cX6_draw 71 = .ok (.new 73, 3) := by decide +kernel
theorem dX6_draw_74 : decode cX6_draw 74 = .ok (.dup, 1) := by decide +kernel
theorem dX6_draw_75 : decode cX6_draw 75 = .ok (.invokespecial 75, 3) := by decide +kernel
theorem dX6_draw_78 : decode cX6_draw 78 = .ok (.athrow, 1) := by decide +kernel
theorem dX6_draw_79 : decode cX6_draw 79 = .ok (.aload 6, 2) := by decide +kernel
theorem dX6_draw_81 : decode cX6_draw 81 = .ok (.iload_n 2, 1) := by decide +kernel
theorem dX6_draw_82 : decode cX6_draw 82 = .ok (.iload_n 3, 1) := by decide +kernel
theorem dX6_draw_83 : decode cX6_draw 83 = .ok (.iload 4, 2) := by decide +kernel
theorem dX6_draw_85 : decode cX6_draw 85 = .ok (.iload 5, 2) := by decide +kernel
theorem dX6_draw_87 : decode cX6_draw 87 = .ok (.bipush 97, 2) := by decide +kernel
theorem dX6_draw_89 : decode cX6_draw 89 = .ok (.isub, 1) := by decide +kernel
theorem dX6_draw_90 : decode cX6_draw 90 = .ok (.invokevirtual 244, 3) := by decide +kernel
theorem dX6_draw_93 : decode cX6_draw 93 = .ok (.aload 6, 2) := by decide +kernel
theorem dX6_draw_95 : decode cX6_draw 95 = .ok (.getfield 248, 3) := by decide +kernel
theorem dX6_draw_98 : decode cX6_draw 98 = .ok (.ireturn, 1) := by decide +kernel
theorem dX6_fieldAt_0 : decode cX6_fieldAt 0 = .ok (.bipush 97, 2) := by decide +kernel
theorem dX6_fieldAt_2 : decode cX6_fieldAt 2 = .ok (.aload_n 0, 1) := by decide +kernel
theorem dX6_fieldAt_3 : decode cX6_fieldAt 3 = .ok (.iload_n 1, 1) := by decide +kernel
theorem dX6_fieldAt_4 : decode cX6_fieldAt 4 = .ok (.iload_n 2, 1) := by decide +kernel
theorem dX6_fieldAt_5 : decode cX6_fieldAt 5 = .ok (.iload_n 3, 1) := by decide +kernel
theorem dX6_fieldAt_6 : decode cX6_fieldAt 6 = .ok (.invokevirtual 251, 3) := by decide +kernel
theorem dX6_fieldAt_9 : decode cX6_fieldAt 9 = .ok (.iload_n 2, 1) := by decide +kernel
theorem dX6_fieldAt_10 : decode cX6_fieldAt 10 = .ok (.bipush 8, 2) := by decide +kernel
theorem dX6_fieldAt_12 : decode cX6_fieldAt 12 = .ok (.imul, 1) := by decide +kernel
theorem dX6_fieldAt_13 : decode cX6_fieldAt 13 = .ok (.iload_n 3, 1) := by decide +kernel
theorem dX6_fieldAt_14 : decode cX6_fieldAt 14 = .ok (.iadd, 1) := by decide +kernel
theorem dX6_fieldAt_15 : decode cX6_fieldAt 15 = .ok (.invokevirtual 255, 3) := by decide +kernel
theorem dX6_fieldAt_18 : decode cX6_fieldAt 18 = .ok (.iadd, 1) := by decide +kernel
theorem dX6_fieldAt_19 : decode cX6_fieldAt 19 = .ok (.i2c, 1) := by decide +kernel
theorem dX6_fieldAt_20 : decode cX6_fieldAt 20 = .ok (.ireturn, 1) := by decide +kernel
theorem dX6_pieces_0 : decode cX6_pieces 0 = .ok (.aload_n 0, 1) := by decide +kernel
theorem dX6_pieces_1 : decode cX6_pieces 1 = .ok (.iload_n 1, 1) := by decide +kernel
theorem dX6_pieces_2 : decode cX6_pieces 2 = .ok (.invokevirtual 229, 3) := by decide +kernel
theorem dX6_pieces_5 : decode cX6_pieces 5 = .ok (.getfield 248, 3) := by decide +kernel
theorem dX6_pieces_8 : decode cX6_pieces 8 = .ok (.ireturn, 1) := by decide +kernel
theorem dX6_islands_0 : decode cX6_islands 0 = .ok (.aload_n 0, 1) := by decide +kernel
theorem dX6_islands_1 : decode cX6_islands 1 = .ok (.iload_n 1, 1) := by decide +kernel
theorem dX6_islands_2 : decode cX6_islands 2 = .ok (.invokevirtual 229, 3) := by decide +kernel
theorem dX6_islands_5 : decode cX6_islands 5 = .ok (.getfield 258, 3) := by decide +kernel
theorem dX6_islands_8 : decode cX6_islands 8 = .ok (.ireturn, 1) := by decide +kernel
theorem dX6_saw_0 : decode cX6_saw 0 = .ok (.aload_n 0, 1) := by decide +kernel
theorem dX6_saw_1 : decode cX6_saw 1 = .ok (.iload_n 1, 1) := by decide +kernel
theorem dX6_saw_2 : decode cX6_saw 2 = .ok (.invokevirtual 229, 3) := by decide +kernel
theorem dX6_saw_5 : decode cX6_saw 5 = .ok (.astore 5, 2) := by decide +kernel
theorem dX6_saw_7 : decode cX6_saw 7 = .ok (.aload_n 0, 1) := by decide +kernel
theorem dX6_saw_8 : decode cX6_saw 8 = .ok (.iload_n 2, 1) := by decide +kernel
theorem dX6_saw_9 : decode cX6_saw 9 = .ok (.iload_n 3, 1) := by decide +kernel
theorem dX6_saw_10 : decode cX6_saw 10 = .ok (.iload 4, 2) := by decide +kernel
theorem dX6_saw_12 : decode cX6_saw 12 = .ok (.invokevirtual 117, 3) := by decide +kernel
theorem dX6_saw_15 : decode cX6_saw 15 = .ok (.astore 6, 2) := by decide +kernel
theorem dX6_saw_17 : decode cX6_saw 17 = .ok (.iload 4, 2) := by decide +kernel
theorem dX6_saw_19 : decode cX6_saw 19 = .ok (.iconst 2, 1) := by decide +kernel
theorem dX6_saw_20 : decode cX6_saw 20 = .ok (.bipush 8, 2) := by decide +kernel
theorem dX6_saw_22 : decode cX6_saw 22 = .ok (.invokestatic 40, 3) := by decide +kernel
theorem dX6_saw_25 : decode cX6_saw 25 = .ok (.ifCond .ne 11, 3) := by decide +kernel
theorem dX6_saw_28 : decode cX6_saw 28 = .ok (.new 44, 3) := by decide +kernel
theorem dX6_saw_31 : decode cX6_saw 31 = .ok (.dup, 1) := by decide +kernel
theorem dX6_saw_32 : decode cX6_saw 32 = .ok (.invokespecial 46, 3) := by decide +kernel
theorem dX6_saw_35 : decode cX6_saw 35 = .ok (.athrow, 1) := by decide +kernel
theorem dX6_saw_36 : decode cX6_saw 36 = .ok (.aload 5, 2) := by decide +kernel
theorem dX6_saw_38 : decode cX6_saw 38 = .ok (.getfield 241, 3) := by decide +kernel
theorem dX6_saw_41 : decode cX6_saw 41 = .ok (.ifnonnull 16, 3) := by decide +kernel
theorem dX6_saw_44 : decode cX6_saw 44 = .ok (.aload 6, 2) := by decide +kernel
theorem dX6_saw_46 : decode cX6_saw 46 = .ok (.iload_n 3, 1) := by decide +kernel
theorem dX6_saw_47 : decode cX6_saw 47 = .ok (.iload 4, 2) := by decide +kernel
theorem dX6_saw_49 : decode cX6_saw 49 = .ok (.bipush 80, 2) := by decide +kernel
theorem dX6_saw_51 : decode cX6_saw 51 = .ok (.invokevirtual 261, 3) := by decide +kernel
theorem dX6_saw_54 : decode cX6_saw 54 = .ok (.ifCond .ne 11, 3) := by decide +kernel
theorem dX6_saw_57 : decode cX6_saw 57 = .ok (.new 73, 3) := by decide +kernel
theorem dX6_saw_60 : decode cX6_saw 60 = .ok (.dup, 1) := by decide +kernel
theorem dX6_saw_61 : decode cX6_saw 61 = .ok (.invokespecial 75, 3) := by decide +kernel
theorem dX6_saw_64 : decode cX6_saw 64 = .ok (.athrow, 1) := by decide +kernel
theorem dX6_saw_65 : decode cX6_saw 65 = .ok (.aload 5, 2) := by decide +kernel
theorem dX6_saw_67 : decode cX6_saw 67 = .ok (.new 131, 3) := by decide +kernel
theorem dX6_saw_70 : decode cX6_saw 70 = .ok (.dup, 1) := by decide +kernel
theorem dX6_saw_71 : decode cX6_saw 71 = .ok (.aload 6, 2) := by decide +kernel
theorem dX6_saw_73 : decode cX6_saw 73 = .ok (.iload_n 3, 1) := by decide +kernel
theorem dX6_saw_74 : decode cX6_saw 74 = .ok (.iload 4, 2) := by decide +kernel
theorem dX6_saw_76 : decode cX6_saw 76 = .ok (.invokespecial 133, 3) := by decide +kernel
theorem dX6_saw_79 : decode cX6_saw 79 = .ok (.putfield 241, 3) := by decide +kernel
theorem dX6_saw_82 : decode cX6_saw 82 = .ok (.bipush 64, 2) := by decide +kernel
theorem dX6_saw_84 : decode cX6_saw 84 = .ok (.iload 4, 2) := by decide +kernel
theorem dX6_saw_86 : decode cX6_saw 86 = .ok (.imul, 1) := by decide +kernel
theorem dX6_saw_87 : decode cX6_saw 87 = .ok (.istore 7, 2) := by decide +kernel
theorem dX6_saw_89 : decode cX6_saw 89 = .ok (.aload 6, 2) := by decide +kernel
theorem dX6_saw_91 : decode cX6_saw 91 = .ok (.iload_n 3, 1) := by decide +kernel
theorem dX6_saw_92 : decode cX6_saw 92 = .ok (.iload 4, 2) := by decide +kernel
theorem dX6_saw_94 : decode cX6_saw 94 = .ok (.invokevirtual 264, 3) := by decide +kernel
theorem dX6_saw_97 : decode cX6_saw 97 = .ok (.iload 7, 2) := by decide +kernel
theorem dX6_saw_99 : decode cX6_saw 99 = .ok (.isub, 1) := by decide +kernel
theorem dX6_saw_100 : decode cX6_saw 100 = .ok (.istore 8, 2) := by decide +kernel
theorem dX6_saw_102 : decode cX6_saw 102 = .ok (.aload_n 0, 1) := by decide +kernel
theorem dX6_saw_103 : decode cX6_saw 103 = .ok (.dup, 1) := by decide +kernel
theorem dX6_saw_104 : decode cX6_saw 104 = .ok (.getfield 267, 3) := by decide +kernel
theorem dX6_saw_107 : decode cX6_saw 107 = .ok (.iload 7, 2) := by decide +kernel
theorem dX6_saw_109 : decode cX6_saw 109 = .ok (.iadd, 1) := by decide +kernel
theorem dX6_saw_110 : decode cX6_saw 110 = .ok (.putfield 267, 3) := by decide +kernel
theorem dX6_saw_113 : decode cX6_saw 113 = .ok (.aload_n 0, 1) := by decide +kernel
theorem dX6_saw_114 : decode cX6_saw 114 = .ok (.dup, 1) := by decide +kernel
theorem dX6_saw_115 : decode cX6_saw 115 = .ok (.getfield 270, 3) := by decide +kernel
theorem dX6_saw_118 : decode cX6_saw 118 = .ok (.iload 8, 2) := by decide +kernel
theorem dX6_saw_120 : decode cX6_saw 120 = .ok (.iadd, 1) := by decide +kernel
theorem dX6_saw_121 : decode cX6_saw 121 = .ok (.putfield 270, 3) := by decide +kernel
theorem dX6_saw_124 : decode cX6_saw 124 = .ok (.iload 8, 2) := by decide +kernel
theorem dX6_saw_126 : decode cX6_saw 126 = .ok (.ireturn, 1) := by decide +kernel
theorem dX6_leafAt_0 : decode cX6_leafAt 0 = .ok (.aload_n 0, 1) := by decide +kernel
theorem dX6_leafAt_1 : decode cX6_leafAt 1 = .ok (.iload_n 1, 1) := by decide +kernel
theorem dX6_leafAt_2 : decode cX6_leafAt 2 = .ok (.iload_n 3, 1) := by decide +kernel
theorem dX6_leafAt_3 : decode cX6_leafAt 3 = .ok (.iload 4, 2) := by decide +kernel
theorem dX6_leafAt_5 : decode cX6_leafAt 5 = .ok (.invokevirtual 251, 3) := by decide +kernel
theorem dX6_leafAt_8 : decode cX6_leafAt 8 = .ok (.astore 5, 2) := by decide +kernel
theorem dX6_leafAt_10 : decode cX6_leafAt 10 = .ok (.aload 5, 2) := by decide +kernel
theorem dX6_leafAt_12 : decode cX6_leafAt 12 = .ok (.iload_n 2, 1) := by decide +kernel
theorem dX6_leafAt_13 : decode cX6_leafAt 13 = .ok (.invokestatic 273, 3) := by decide +kernel
theorem dX6_leafAt_16 : decode cX6_leafAt 16 = .ok (.astore 6, 2) := by decide +kernel
theorem dX6_leafAt_18 : decode cX6_leafAt 18 = .ok (.aload 6, 2) := by decide +kernel
theorem dX6_leafAt_20 : decode cX6_leafAt 20 = .ok (.aload 5, 2) := by decide +kernel
theorem dX6_leafAt_22 : decode cX6_leafAt 22 = .ok (.iload_n 3, 1) := by decide +kernel
theorem dX6_leafAt_23 : decode cX6_leafAt 23 = .ok (.bipush 8, 2) := by decide +kernel
theorem dX6_leafAt_25 : decode cX6_leafAt 25 = .ok (.imul, 1) := by decide +kernel
theorem dX6_leafAt_26 : decode cX6_leafAt 26 = .ok (.iload 4, 2) := by decide +kernel
theorem dX6_leafAt_28 : decode cX6_leafAt 28 = .ok (.iadd, 1) := by decide +kernel
theorem dX6_leafAt_29 : decode cX6_leafAt 29 = .ok (.invokevirtual 255, 3) := by decide +kernel
theorem dX6_leafAt_32 : decode cX6_leafAt 32 = .ok (.iload_n 2, 1) := by decide +kernel
theorem dX6_leafAt_33 : decode cX6_leafAt 33 = .ok (.invokevirtual 277, 3) := by decide +kernel
theorem dX6_leafAt_36 : decode cX6_leafAt 36 = .ok (.ireturn, 1) := by decide +kernel
theorem dX6_contrast_0 : decode cX6_contrast 0 = .ok (.aload_n 0, 1) := by decide +kernel
theorem dX6_contrast_1 : decode cX6_contrast 1 = .ok (.iload_n 1, 1) := by decide +kernel
theorem dX6_contrast_2 : decode cX6_contrast 2 = .ok (.invokevirtual 229, 3) := by decide +kernel
theorem dX6_contrast_5 : decode cX6_contrast 5 = .ok (.astore_n 3, 1) := by decide +kernel
theorem dX6_contrast_6 : decode cX6_contrast 6 = .ok (.aload_n 3, 1) := by decide +kernel
theorem dX6_contrast_7 : decode cX6_contrast 7 = .ok (.iload_n 2, 1) := by decide +kernel
theorem dX6_contrast_8 : decode cX6_contrast 8 = .ok (.invokestatic 273, 3) := by decide +kernel
theorem dX6_contrast_11 : decode cX6_contrast 11 = .ok (.astore 4, 2) := by decide +kernel
theorem dX6_contrast_13 : decode cX6_contrast 13 = .ok (.iconst 0, 1) := by decide +kernel
theorem dX6_contrast_14 : decode cX6_contrast 14 = .ok (.istore 5, 2) := by decide +kernel
theorem dX6_contrast_16 : decode cX6_contrast 16 = .ok (.iconst 0, 1) := by decide +kernel
theorem dX6_contrast_17 : decode cX6_contrast 17 = .ok (.istore 6, 2) := by decide +kernel
theorem dX6_contrast_19 : decode cX6_contrast 19 = .ok (.iload 6, 2) := by decide +kernel
theorem dX6_contrast_21 : decode cX6_contrast 21 = .ok (.bipush 64, 2) := by decide +kernel
theorem dX6_contrast_23 : decode cX6_contrast 23 = .ok (.if_icmp .ge 49, 3) := by decide +kernel
theorem dX6_contrast_26 : decode cX6_contrast 26 = .ok (.iload 5, 2) := by decide +kernel
theorem dX6_contrast_28 : decode cX6_contrast 28 = .ok (.aload_n 3, 1) := by decide +kernel
theorem dX6_contrast_29 : decode cX6_contrast 29 = .ok (.aload 4, 2) := by decide +kernel
theorem dX6_contrast_31 : decode cX6_contrast 31 = .ok (.iload_n 2, 1) := by decide +kernel
theorem dX6_contrast_32 : decode cX6_contrast 32 = .ok (.iload 6, 2) := by decide +kernel
theorem dX6_contrast_34 : decode cX6_contrast 34 = .ok (.iload 6, 2) := by decide +kernel
theorem dX6_contrast_36 : decode cX6_contrast 36 = .ok (.iconst 0, 1) := by decide +kernel
theorem dX6_contrast_37 : decode cX6_contrast 37 = .ok (.invokestatic 280, 3) := by decide +kernel
theorem dX6_contrast_40 : decode cX6_contrast 40 = .ok (.invokestatic 283, 3) := by decide +kernel
theorem dX6_contrast_43 : decode cX6_contrast 43 = .ok (.iadd, 1) := by decide +kernel
theorem dX6_contrast_44 : decode cX6_contrast 44 = .ok (.istore 5, 2) := by decide +kernel
theorem dX6_contrast_46 : decode cX6_contrast 46 = .ok (.iload 5, 2) := by decide +kernel
theorem dX6_contrast_48 : decode cX6_contrast 48 = .ok (.aload_n 3, 1) := by decide +kernel
theorem dX6_contrast_49 : decode cX6_contrast 49 = .ok (.aload 4, 2) := by decide +kernel
theorem dX6_contrast_51 : decode cX6_contrast 51 = .ok (.iload_n 2, 1) := by decide +kernel
theorem dX6_contrast_52 : decode cX6_contrast 52 = .ok (.iload 6, 2) := by decide +kernel
theorem dX6_contrast_54 : decode cX6_contrast 54 = .ok (.iload 6, 2) := by decide +kernel
theorem dX6_contrast_56 : decode cX6_contrast 56 = .ok (.iconst 1, 1) := by decide +kernel
theorem dX6_contrast_57 : decode cX6_contrast 57 = .ok (.invokestatic 280, 3) := by decide +kernel
theorem dX6_contrast_60 : decode cX6_contrast 60 = .ok (.invokestatic 283, 3) := by decide +kernel
theorem dX6_contrast_63 : decode cX6_contrast 63 = .ok (.iadd, 1) := by decide +kernel
theorem dX6_contrast_64 : decode cX6_contrast 64 = .ok (.istore 5, 2) := by decide +kernel
theorem dX6_contrast_66 : decode cX6_contrast 66 = .ok (.iinc 6 1, 3) := by decide +kernel
theorem dX6_contrast_69 : decode cX6_contrast 69 = .ok (.goto (-50), 3) := by decide +kernel
theorem dX6_contrast_72 : decode cX6_contrast 72 = .ok (.iload 5, 2) := by decide +kernel
theorem dX6_contrast_74 : decode cX6_contrast 74 = .ok (.ireturn, 1) := by decide +kernel
theorem dX6_sand_0 : decode cX6_sand 0 = .ok (.aload_n 0, 1) := by decide +kernel
theorem dX6_sand_1 : decode cX6_sand 1 = .ok (.iload_n 1, 1) := by decide +kernel
theorem dX6_sand_2 : decode cX6_sand 2 = .ok (.invokevirtual 229, 3) := by decide +kernel
theorem dX6_sand_5 : decode cX6_sand 5 = .ok (.astore 5, 2) := by decide +kernel
theorem dX6_sand_7 : decode cX6_sand 7 = .ok (.iload_n 2, 1) := by decide +kernel
theorem dX6_sand_8 : decode cX6_sand 8 = .ok (.invokestatic 237, 3) := by decide +kernel
theorem dX6_sand_11 : decode cX6_sand 11 = .ok (.ifCond .eq 26, 3) := by decide +kernel
theorem dX6_sand_14 : decode cX6_sand 14 = .ok (.iload_n 3, 1) := by decide +kernel
theorem dX6_sand_15 : decode cX6_sand 15 = .ok (.bipush 100, 2) := by decide +kernel
theorem dX6_sand_17 : decode cX6_sand 17 = .ok (.sipush 300, 3) := by decide +kernel
theorem dX6_sand_20 : decode cX6_sand 20 = .ok (.invokestatic 40, 3) := by decide +kernel
theorem dX6_sand_23 : decode cX6_sand 23 = .ok (.ifCond .eq 14, 3) := by decide +kernel
theorem dX6_sand_26 : decode cX6_sand 26 = .ok (.iload 4, 2) := by decide +kernel
theorem dX6_sand_28 : decode cX6_sand 28 = .ok (.iconst 1, 1) := by decide +kernel
theorem dX6_sand_29 : decode cX6_sand 29 = .ok (.bipush 60, 2) := by decide +kernel
theorem dX6_sand_31 : decode cX6_sand 31 = .ok (.invokestatic 40, 3) := by decide +kernel
theorem dX6_sand_34 : decode cX6_sand 34 = .ok (.ifCond .ne 11, 3) := by decide +kernel
theorem dX6_sand_37 : decode cX6_sand 37 = .ok (.new 44, 3) := by decide +kernel
theorem dX6_sand_40 : decode cX6_sand 40 = .ok (.dup, 1) := by decide +kernel
theorem dX6_sand_41 : decode cX6_sand 41 = .ok (.invokespecial 46, 3) := by decide +kernel
theorem dX6_sand_44 : decode cX6_sand 44 = .ok (.athrow, 1) := by decide +kernel
theorem dX6_sand_45 : decode cX6_sand 45 = .ok (.aload 5, 2) := by decide +kernel
theorem dX6_sand_47 : decode cX6_sand 47 = .ok (.getfield 241, 3) := by decide +kernel
theorem dX6_sand_50 : decode cX6_sand 50 = .ok (.ifnonnull 11, 3) := by decide +kernel
theorem dX6_sand_53 : decode cX6_sand 53 = .ok (.new 73, 3) := by decide +kernel
theorem dX6_sand_56 : decode cX6_sand 56 = .ok (.dup, 1) := by decide +kernel
theorem dX6_sand_57 : decode cX6_sand 57 = .ok (.invokespecial 75, 3) := by decide +kernel
theorem dX6_sand_60 : decode cX6_sand 60 = .ok (.athrow, 1) := by decide +kernel
theorem dX6_sand_61 : decode cX6_sand 61 = .ok (.aload 5, 2) := by decide +kernel
theorem dX6_sand_63 : decode cX6_sand 63 = .ok (.iload_n 2, 1) := by decide +kernel
theorem dX6_sand_64 : decode cX6_sand 64 = .ok (.bipush 97, 2) := by decide +kernel
theorem dX6_sand_66 : decode cX6_sand 66 = .ok (.isub, 1) := by decide +kernel
theorem dX6_sand_67 : decode cX6_sand 67 = .ok (.iload_n 3, 1) := by decide +kernel
theorem dX6_sand_68 : decode cX6_sand 68 = .ok (.bipush 100, 2) := by decide +kernel
theorem dX6_sand_70 : decode cX6_sand 70 = .ok (.isub, 1) := by decide +kernel
theorem dX6_sand_71 : decode cX6_sand 71 = .ok (.iload 4, 2) := by decide +kernel
theorem dX6_sand_73 : decode cX6_sand 73 = .ok (.imul, 1) := by decide +kernel
theorem dX6_sand_74 : decode cX6_sand 74 = .ok (.bipush 50, 2) := by decide +kernel
theorem dX6_sand_76 : decode cX6_sand 76 = .ok (.idiv, 1) := by decide +kernel
theorem dX6_sand_77 : decode cX6_sand 77 = .ok (.invokevirtual 287, 3) := by decide +kernel
theorem dX6_sand_80 : decode cX6_sand 80 = .ok (.ireturn, 1) := by decide +kernel
theorem dX6_burnt_0 : decode cX6_burnt 0 = .ok (.aload_n 0, 1) := by decide +kernel
theorem dX6_burnt_1 : decode cX6_burnt 1 = .ok (.iload_n 1, 1) := by decide +kernel
theorem dX6_burnt_2 : decode cX6_burnt 2 = .ok (.invokevirtual 229, 3) := by decide +kernel
theorem dX6_burnt_5 : decode cX6_burnt 5 = .ok (.invokevirtual 290, 3) := by decide +kernel
theorem dX6_burnt_8 : decode cX6_burnt 8 = .ok (.ireturn, 1) := by decide +kernel
theorem dX6_gap_0 : decode cX6_gap 0 = .ok (.iload_n 1, 1) := by decide +kernel
theorem dX6_gap_1 : decode cX6_gap 1 = .ok (.iconst 1, 1) := by decide +kernel
theorem dX6_gap_2 : decode cX6_gap 2 = .ok (.bipush 99, 2) := by decide +kernel
theorem dX6_gap_4 : decode cX6_gap 4 = .ok (.invokestatic 40, 3) := by decide +kernel
theorem dX6_gap_7 : decode cX6_gap 7 = .ok (.ifCond .eq 17, 3) := by decide +kernel
theorem dX6_gap_10 : decode cX6_gap 10 = .ok (.iload_n 2, 1) := by decide +kernel
theorem dX6_gap_11 : decode cX6_gap 11 = .ok (.iconst 5, 1) := by decide +kernel
theorem dX6_gap_12 : decode cX6_gap 12 = .ok (.bipush 30, 2) := by decide +kernel
theorem dX6_gap_14 : decode cX6_gap 14 = .ok (.invokestatic 40, 3) := by decide +kernel
theorem dX6_gap_17 : decode cX6_gap 17 = .ok (.ifCond .eq 7, 3) := by decide +kernel
theorem dX6_gap_20 : decode cX6_gap 20 = .ok (.iconst 1, 1) := by decide +kernel
theorem dX6_gap_21 : decode cX6_gap 21 = .ok (.goto 4, 3) := by decide +kernel
theorem dX6_gap_24 : decode cX6_gap 24 = .ok (.iconst 0, 1) := by decide +kernel
theorem dX6_gap_25 : decode cX6_gap 25 = .ok (.istore 4, 2) := by decide +kernel
theorem dX6_gap_27 : decode cX6_gap 27 = .ok (.iload 4, 2) := by decide +kernel
theorem dX6_gap_29 : decode cX6_gap 29 = .ok (.ifCond .eq 17, 3) := by decide +kernel
theorem dX6_gap_32 : decode cX6_gap 32 = .ok (.iload_n 3, 1) := by decide +kernel
theorem dX6_gap_33 : decode cX6_gap 33 = .ok (.iconst 0, 1) := by decide +kernel
theorem dX6_gap_34 : decode cX6_gap 34 = .ok (.getstatic 293, 3) := by decide +kernel
theorem dX6_gap_37 : decode cX6_gap 37 = .ok (.arraylength, 1) := by decide +kernel
theorem dX6_gap_38 : decode cX6_gap 38 = .ok (.iconst 1, 1) := by decide +kernel
theorem dX6_gap_39 : decode cX6_gap 39 = .ok (.isub, 1) := by decide +kernel
theorem dX6_gap_40 : decode cX6_gap 40 = .ok (.invokestatic 40, 3) := by decide +kernel
theorem dX6_gap_43 : decode cX6_gap 43 = .ok (.ifCond .ne 11, 3) := by decide +kernel
theorem dX6_gap_46 : decode cX6_gap 46 = .ok (.new 44, 3) := by decide +kernel
theorem dX6_gap_49 : decode cX6_gap 49 = .ok (.dup, 1) := by decide +kernel
theorem dX6_gap_50 : decode cX6_gap 50 = .ok (.invokespecial 46, 3) := by decide +kernel
theorem dX6_gap_53 : decode cX6_gap 53 = .ok (.athrow, 1) := by decide +kernel
theorem dX6_gap_54 : decode cX6_gap 54 = .ok (.iconst 0, 1) := by decide +kernel
theorem dX6_gap_55 : decode cX6_gap 55 = .ok (.iload_n 1, 1) := by decide +kernel
theorem dX6_gap_56 : decode cX6_gap 56 = .ok (.bipush 10, 2) := by decide +kernel
theorem dX6_gap_58 : decode cX6_gap 58 = .ok (.iload_n 2, 1) := by decide +kernel
theorem dX6_gap_59 : decode cX6_gap 59 = .ok (.imul, 1) := by decide +kernel
theorem dX6_gap_60 : decode cX6_gap 60 = .ok (.getstatic 293, 3) := by decide +kernel
theorem dX6_gap_63 : decode cX6_gap 63 = .ok (.iload_n 3, 1) := by decide +kernel
theorem dX6_gap_64 : decode cX6_gap 64 = .ok (.iaload, 1) := by decide +kernel
theorem dX6_gap_65 : decode cX6_gap 65 = .ok (.imul, 1) := by decide +kernel
theorem dX6_gap_66 : decode cX6_gap 66 = .ok (.sipush 1000, 3) := by decide +kernel
theorem dX6_gap_69 : decode cX6_gap 69 = .ok (.idiv, 1) := by decide +kernel
theorem dX6_gap_70 : decode cX6_gap 70 = .ok (.isub, 1) := by decide +kernel
theorem dX6_gap_71 : decode cX6_gap 71 = .ok (.invokestatic 203, 3) := by decide +kernel
theorem dX6_gap_74 : decode cX6_gap 74 = .ok (.ireturn, 1) := by decide +kernel
theorem dX6_offcuts_0 : decode cX6_offcuts 0 = .ok (.iconst 0, 1) := by decide +kernel
theorem dX6_offcuts_1 : decode cX6_offcuts 1 = .ok (.istore_n 2, 1) := by decide +kernel
theorem dX6_offcuts_2 : decode cX6_offcuts 2 = .ok (.iconst 0, 1) := by decide +kernel
theorem dX6_offcuts_3 : decode cX6_offcuts 3 = .ok (.istore_n 3, 1) := by decide +kernel
theorem dX6_offcuts_4 : decode cX6_offcuts 4 = .ok (.iload_n 3, 1) := by decide +kernel
theorem dX6_offcuts_5 : decode cX6_offcuts 5 = .ok (.aload_n 0, 1) := by decide +kernel
theorem dX6_offcuts_6 : decode cX6_offcuts 6 = .ok (.getfield 25, 3) := by decide +kernel
theorem dX6_offcuts_9 : decode cX6_offcuts 9 = .ok (.invokevirtual 47, 3) := by decide +kernel
theorem dX6_offcuts_12 : decode cX6_offcuts 12 = .ok (.if_icmp .ge 30, 3) := by decide +kernel
theorem dX6_offcuts_15 : decode cX6_offcuts 15 = .ok (.aload_n 0, 1) := by decide +kernel
theorem dX6_offcuts_16 : decode cX6_offcuts 16 = .ok (.getfield 25, 3) := by decide +kernel
theorem dX6_offcuts_19 : decode cX6_offcuts 19 = .ok (.iload_n 3, 1) := by decide +kernel
theorem dX6_offcuts_20 : decode cX6_offcuts 20 = .ok (.invokevirtual 216, 3) := by decide +kernel
theorem dX6_offcuts_23 : decode cX6_offcuts 23 = .ok (.checkcast 296, 3) := by decide +kernel
theorem dX6_offcuts_26 : decode cX6_offcuts 26 = .ok (.getfield 298, 3) := by decide +kernel
theorem dX6_offcuts_29 : decode cX6_offcuts 29 = .ok (.iload_n 1, 1) := by decide +kernel
theorem dX6_offcuts_30 : decode cX6_offcuts 30 = .ok (.if_icmp .ne 6, 3) := by decide +kernel
theorem dX6_offcuts_33 : decode cX6_offcuts 33 = .ok (.iinc 2 1, 3) := by decide +kernel
theorem dX6_offcuts_36 : decode cX6_offcuts 36 = .ok (.iinc 3 1, 3) := by decide +kernel
theorem dX6_offcuts_39 : decode cX6_offcuts 39 = .ok (.goto (-35), 3) := by decide +kernel
theorem dX6_offcuts_42 : decode cX6_offcuts 42 = .ok (.iload_n 2, 1) := by decide +kernel
theorem dX6_offcuts_43 : decode cX6_offcuts 43 = .ok (.ireturn, 1) := by decide +kernel
theorem dX6_takeOffcut_0 : decode cX6_takeOffcut 0 = .ok (.iload_n 1, 1) := by decide +kernel
theorem dX6_takeOffcut_1 : decode cX6_takeOffcut 1 = .ok (.bipush 50, 2) := by decide +kernel
theorem dX6_takeOffcut_3 : decode cX6_takeOffcut 3 = .ok (.sipush 4000, 3) := by decide +kernel
theorem dX6_takeOffcut_6 : decode cX6_takeOffcut 6 = .ok (.invokestatic 40, 3) := by decide +kernel
theorem dX6_takeOffcut_9 : decode cX6_takeOffcut 9 = .ok (.ifCond .eq 13, 3) := by decide +kernel
theorem dX6_takeOffcut_12 : decode cX6_takeOffcut 12 = .ok (.iload_n 2, 1) := by decide +kernel
theorem dX6_takeOffcut_13 : decode cX6_takeOffcut 13 = .ok (.iconst 1, 1) := by decide +kernel
theorem dX6_takeOffcut_14 : decode cX6_takeOffcut 14 = .ok (.bipush 20, 2) := by decide +kernel
theorem dX6_takeOffcut_16 : decode cX6_takeOffcut 16 = .ok (.invokestatic 40, 3) := by decide +kernel
theorem dX6_takeOffcut_19 : decode cX6_takeOffcut 19 = .ok (.ifCond .ne 11, 3) := by decide +kernel
theorem dX6_takeOffcut_22 : decode cX6_takeOffcut 22 = .ok (.new 44, 3) := by decide +kernel
theorem dX6_takeOffcut_25 : decode cX6_takeOffcut 25 = .ok (.dup, 1) := by decide +kernel
theorem dX6_takeOffcut_26 : decode cX6_takeOffcut 26 = .ok (.invokespecial 46, 3) := by decide +kernel
theorem dX6_takeOffcut_29 : decode cX6_takeOffcut 29 = .ok (.athrow, 1) := by decide +kernel
theorem dX6_takeOffcut_30 : decode cX6_takeOffcut 30 = .ok (.iconst (-1), 1) := by decide +kernel
theorem dX6_takeOffcut_31 : decode cX6_takeOffcut 31 = .ok (.istore_n 3, 1) := by decide +kernel
theorem dX6_takeOffcut_32 : decode cX6_takeOffcut 32 = .ok (.aconst_null, 1) := by decide +kernel
theorem dX6_takeOffcut_33 : decode cX6_takeOffcut 33 = .ok (.astore 4, 2) := by decide +kernel
theorem dX6_takeOffcut_35 : decode cX6_takeOffcut 35 = .ok (.iconst 0, 1) := by decide +kernel
theorem dX6_takeOffcut_36 : decode cX6_takeOffcut 36 = .ok (.istore 5, 2) := by decide +kernel
theorem dX6_takeOffcut_38 : decode cX6_takeOffcut 38 = .ok (.iload 5, 2) := by decide +kernel
theorem dX6_takeOffcut_40 : decode cX6_takeOffcut 40 = .ok (.aload_n 0, 1) := by decide +kernel
theorem dX6_takeOffcut_41 : decode cX6_takeOffcut 41 = .ok (.getfield 25, 3) := by decide +kernel
theorem dX6_takeOffcut_44 : decode cX6_takeOffcut 44 = .ok (.invokevirtual 47, 3) := by decide +kernel
theorem dX6_takeOffcut_47 : decode cX6_takeOffcut 47 = .ok (.if_icmp .ge 75, 3) := by decide +kernel
theorem dX6_takeOffcut_50 : decode cX6_takeOffcut 50 = .ok (.aload_n 0, 1) := by decide +kernel
theorem dX6_takeOffcut_51 : decode cX6_takeOffcut 51 = .ok (.getfield 25, 3) := by decide +kernel
theorem dX6_takeOffcut_54 : decode cX6_takeOffcut 54 = .ok (.iload 5, 2) := by decide +kernel
theorem dX6_takeOffcut_56 : decode cX6_takeOffcut 56 = .ok (.invokevirtual 216, 3) := by decide +kernel
theorem dX6_takeOffcut_59 : decode cX6_takeOffcut 59 = .ok (.checkcast 296, 3) := by decide +kernel
theorem dX6_takeOffcut_62 : decode cX6_takeOffcut 62 = .ok (.astore 6, 2) := by decide +kernel
theorem dX6_takeOffcut_64 : decode cX6_takeOffcut 64 = .ok (.aload 6, 2) := by decide +kernel
theorem dX6_takeOffcut_66 : decode cX6_takeOffcut 66 = .ok (.getfield 298, 3) := by decide +kernel
theorem dX6_takeOffcut_69 : decode cX6_takeOffcut 69 = .ok (.iload_n 1, 1) := by decide +kernel
theorem dX6_takeOffcut_70 : decode cX6_takeOffcut 70 = .ok (.if_icmp .lt 16, 3) := by decide +kernel
theorem dX6_takeOffcut_73 : decode cX6_takeOffcut 73 = .ok (.aload 6, 2) := by decide +kernel
theorem dX6_takeOffcut_75 : decode cX6_takeOffcut 75 = .ok (.getfield 301, 3) := by decide +kernel
theorem dX6_takeOffcut_78 : decode cX6_takeOffcut 78 = .ok (.iload_n 2, 1) := by decide +kernel
theorem dX6_takeOffcut_79 : decode cX6_takeOffcut 79 = .ok (.if_icmp .lt 7, 3) := by decide +kernel
theorem dX6_takeOffcut_82 : decode cX6_takeOffcut 82 = .ok (.iconst 1, 1) := by decide +kernel
theorem dX6_takeOffcut_83 : decode cX6_takeOffcut 83 = .ok (.goto 4, 3) := by decide +kernel
theorem dX6_takeOffcut_86 : decode cX6_takeOffcut 86 = .ok (.iconst 0, 1) := by decide +kernel
theorem dX6_takeOffcut_87 : decode cX6_takeOffcut 87 = .ok (.istore 7, 2) := by decide +kernel
theorem dX6_takeOffcut_89 : decode cX6_takeOffcut 89 = .ok (.iload 7, 2) := by decide +kernel
theorem dX6_takeOffcut_91 : decode cX6_takeOffcut 91 = .ok (.ifCond .eq 25, 3) := by decide +kernel
theorem dX6_takeOffcut_94 : decode cX6_takeOffcut 94 = .ok (.aload 4, 2) := by decide +kernel
theorem dX6_takeOffcut_96 : decode cX6_takeOffcut 96 = .ok (.ifnull 13, 3) := by decide +kernel
theorem dX6_takeOffcut_99 : decode cX6_takeOffcut 99 = .ok (.aload 6, 2) := by decide +kernel
theorem dX6_takeOffcut_101 : decode cX6_takeOffcut 101 = .ok (.aload 4, 2) := by decide +kernel
theorem dX6_takeOffcut_103 : decode cX6_takeOffcut 103 = .ok (.invokevirtual 304, 3) := by decide +kernel
theorem dX6_takeOffcut_106 : decode cX6_takeOffcut 106 = .ok (.ifCond .eq 10, 3) := by decide +kernel
theorem dX6_takeOffcut_109 : decode cX6_takeOffcut 109 = .ok (.iload 5, 2) := by decide +kernel
theorem dX6_takeOffcut_111 : decode cX6_takeOffcut 111 = .ok (.istore_n 3, 1) := by decide +kernel
theorem dX6_takeOffcut_112 : decode cX6_takeOffcut 112 = .ok (.aload 6, 2) := by decide +kernel
theorem dX6_takeOffcut_114 : decode cX6_takeOffcut 114 = .ok (.astore 4, 2) := by decide +kernel
theorem dX6_takeOffcut_116 : decode cX6_takeOffcut 116 = .ok (.iinc 5 1, 3) := by decide +kernel
theorem dX6_takeOffcut_119 : decode cX6_takeOffcut 119 = .ok (.goto (-81), 3) := by decide +kernel
theorem dX6_takeOffcut_122 : decode cX6_takeOffcut 122 = .ok (.aload 4, 2) := by decide +kernel
theorem dX6_takeOffcut_124 : decode cX6_takeOffcut 124 = .ok (.ifnonnull 11, 3) := by decide +kernel
theorem dX6_takeOffcut_127 : decode cX6_takeOffcut 127 = .ok (.new 168, 3) := by decide +kernel
theorem dX6_takeOffcut_130 : decode cX6_takeOffcut 130 = .ok (.dup, 1) := by decide +kernel
theorem dX6_takeOffcut_131 : decode cX6_takeOffcut 131 = .ok (.invokespecial 170, 3) := by decide +kernel
theorem dX6_takeOffcut_134 : decode cX6_takeOffcut 134 = .ok (.athrow, 1) := by decide +kernel
theorem dX6_takeOffcut_135 : decode cX6_takeOffcut 135 = .ok (.aload_n 0, 1) := by decide +kernel
theorem dX6_takeOffcut_136 : decode cX6_takeOffcut 136 = .ok (.getfield 25, 3) := by decide +kernel
theorem dX6_takeOffcut_139 : decode cX6_takeOffcut 139 = .ok (.iload_n 3, 1) := by decide +kernel
theorem dX6_takeOffcut_140 : decode cX6_takeOffcut 140 = .ok (.invokevirtual 308, 3) := by decide +kernel
theorem dX6_takeOffcut_143 : decode cX6_takeOffcut 143 = .ok (.pop, 1) := by decide +kernel
theorem dX6_takeOffcut_144 : decode cX6_takeOffcut 144 = .ok (.aload_n 0, 1) := by decide +kernel
theorem dX6_takeOffcut_145 : decode cX6_takeOffcut 145 = .ok (.dup, 1) := by decide +kernel
theorem dX6_takeOffcut_146 : decode cX6_takeOffcut 146 = .ok (.getfield 311, 3) := by decide +kernel
theorem dX6_takeOffcut_149 : decode cX6_takeOffcut 149 = .ok (.aload 4, 2) := by decide +kernel
theorem dX6_takeOffcut_151 : decode cX6_takeOffcut 151 = .ok (.invokevirtual 314, 3) := by decide +kernel
theorem dX6_takeOffcut_154 : decode cX6_takeOffcut 154 = .ok (.iadd, 1) := by decide +kernel
theorem dX6_takeOffcut_155 : decode cX6_takeOffcut 155 = .ok (.putfield 311, 3) := by decide +kernel
theorem dX6_takeOffcut_158 : decode cX6_takeOffcut 158 = .ok (.aload 4, 2) := by decide +kernel
theorem dX6_takeOffcut_160 : decode cX6_takeOffcut 160 = .ok (.getfield 298, 3) := by decide +kernel
theorem dX6_takeOffcut_163 : decode cX6_takeOffcut 163 = .ok (.ireturn, 1) := by decide +kernel
theorem dX6_account_0 : decode cX6_account 0 = .ok (.iload_n 1, 1) := by decide +kernel
theorem dX6_account_1 : decode cX6_account 1 = .ok (.bipush 102, 2) := by decide +kernel
theorem dX6_account_3 : decode cX6_account 3 = .ok (.if_icmp .ne 8, 3) := by decide +kernel
theorem dX6_account_6 : decode cX6_account 6 = .ok (.aload_n 0, 1) := by decide +kernel
theorem dX6_account_7 : decode cX6_account 7 = .ok (.getfield 149, 3) := by decide +kernel
theorem dX6_account_10 : decode cX6_account 10 = .ok (.ireturn, 1) := by decide +kernel
theorem dX6_account_11 : decode cX6_account 11 = .ok (.iload_n 1, 1) := by decide +kernel
theorem dX6_account_12 : decode cX6_account 12 = .ok (.bipush 98, 2) := by decide +kernel
theorem dX6_account_14 : decode cX6_account 14 = .ok (.if_icmp .ne 8, 3) := by decide +kernel
theorem dX6_account_17 : decode cX6_account 17 = .ok (.aload_n 0, 1) := by decide +kernel
theorem dX6_account_18 : decode cX6_account 18 = .ok (.getfield 165, 3) := by decide +kernel
theorem dX6_account_21 : decode cX6_account 21 = .ok (.ireturn, 1) := by decide +kernel
theorem dX6_account_22 : decode cX6_account 22 = .ok (.iload_n 1, 1) := by decide +kernel
theorem dX6_account_23 : decode cX6_account 23 = .ok (.bipush 112, 2) := by decide +kernel
theorem dX6_account_25 : decode cX6_account 25 = .ok (.if_icmp .ne 8, 3) := by decide +kernel
theorem dX6_account_28 : decode cX6_account 28 = .ok (.aload_n 0, 1) := by decide +kernel
theorem dX6_account_29 : decode cX6_account 29 = .ok (.getfield 267, 3) := by decide +kernel
theorem dX6_account_32 : decode cX6_account 32 = .ok (.ireturn, 1) := by decide +kernel
theorem dX6_account_33 : decode cX6_account 33 = .ok (.iload_n 1, 1) := by decide +kernel
theorem dX6_account_34 : decode cX6_account 34 = .ok (.bipush 111, 2) := by decide +kernel
theorem dX6_account_36 : decode cX6_account 36 = .ok (.if_icmp .ne 8, 3) := by decide +kernel
theorem dX6_account_39 : decode cX6_account 39 = .ok (.aload_n 0, 1) := by decide +kernel
theorem dX6_account_40 : decode cX6_account 40 = .ok (.invokevirtual 315, 3) := by decide +kernel
theorem dX6_account_43 : decode cX6_account 43 = .ok (.ireturn, 1) := by decide +kernel
theorem dX6_account_44 : decode cX6_account 44 = .ok (.iload_n 1, 1) := by decide +kernel
theorem dX6_account_45 : decode cX6_account 45 = .ok (.bipush 114, 2) := by decide +kernel
theorem dX6_account_47 : decode cX6_account 47 = .ok (.if_icmp .ne 8, 3) := by decide +kernel
theorem dX6_account_50 : decode cX6_account 50 = .ok (.aload_n 0, 1) := by decide +kernel
theorem dX6_account_51 : decode cX6_account 51 = .ok (.getfield 311, 3) := by decide +kernel
theorem dX6_account_54 : decode cX6_account 54 = .ok (.ireturn, 1) := by decide +kernel
theorem dX6_account_55 : decode cX6_account 55 = .ok (.iload_n 1, 1) := by decide +kernel
theorem dX6_account_56 : decode cX6_account 56 = .ok (.bipush 119, 2) := by decide +kernel
theorem dX6_account_58 : decode cX6_account 58 = .ok (.if_icmp .ne 8, 3) := by decide +kernel
theorem dX6_account_61 : decode cX6_account 61 = .ok (.aload_n 0, 1) := by decide +kernel
theorem dX6_account_62 : decode cX6_account 62 = .ok (.getfield 270, 3) := by decide +kernel
theorem dX6_account_65 : decode cX6_account 65 = .ok (.ireturn, 1) := by decide +kernel
theorem dX6_account_66 : decode cX6_account 66 = .ok (.iload_n 1, 1) := by decide +kernel
theorem dX6_account_67 : decode cX6_account 67 = .ok (.bipush 108, 2) := by decide +kernel
theorem dX6_account_69 : decode cX6_account 69 = .ok (.if_icmp .ne 8, 3) := by decide +kernel
theorem dX6_account_72 : decode cX6_account 72 = .ok (.aload_n 0, 1) := by decide +kernel
theorem dX6_account_73 : decode cX6_account 73 = .ok (.invokevirtual 318, 3) := by decide +kernel
theorem dX6_account_76 : decode cX6_account 76 = .ok (.ireturn, 1) := by decide +kernel
theorem dX6_account_77 : decode cX6_account 77 = .ok (.new 44, 3) := by decide +kernel
theorem dX6_account_80 : decode cX6_account 80 = .ok (.dup, 1) := by decide +kernel
theorem dX6_account_81 : decode cX6_account 81 = .ok (.invokespecial 46, 3) := by decide +kernel
theorem dX6_account_84 : decode cX6_account 84 = .ok (.athrow, 1) := by decide +kernel
theorem dX6_price_0 : decode cX6_price 0 = .ok (.aload_n 0, 1) := by decide +kernel
theorem dX6_price_1 : decode cX6_price 1 = .ok (.iload_n 1, 1) := by decide +kernel
theorem dX6_price_2 : decode cX6_price 2 = .ok (.invokevirtual 113, 3) := by decide +kernel
theorem dX6_price_5 : decode cX6_price 5 = .ok (.invokevirtual 321, 3) := by decide +kernel
theorem dX6_price_8 : decode cX6_price 8 = .ok (.ireturn, 1) := by decide +kernel
theorem dX6_usedShare_0 : decode cX6_usedShare 0 = .ok (.iconst 0, 1) := by decide +kernel
theorem dX6_usedShare_1 : decode cX6_usedShare 1 = .ok (.istore_n 1, 1) := by decide +kernel
theorem dX6_usedShare_2 : decode cX6_usedShare 2 = .ok (.iconst 0, 1) := by decide +kernel
theorem dX6_usedShare_3 : decode cX6_usedShare 3 = .ok (.istore_n 2, 1) := by decide +kernel
theorem dX6_usedShare_4 : decode cX6_usedShare 4 = .ok (.iconst 0, 1) := by decide +kernel
theorem dX6_usedShare_5 : decode cX6_usedShare 5 = .ok (.istore_n 3, 1) := by decide +kernel
theorem dX6_usedShare_6 : decode cX6_usedShare 6 = .ok (.iload_n 3, 1) := by decide +kernel
theorem dX6_usedShare_7 : decode cX6_usedShare 7 = .ok (.aload_n 0, 1) := by decide +kernel
theorem dX6_usedShare_8 : decode cX6_usedShare 8 = .ok (.getfield 16, 3) := by decide +kernel
theorem dX6_usedShare_11 : decode cX6_usedShare 11 = .ok (.invokevirtual 47, 3) := by decide +kernel
theorem dX6_usedShare_14 : decode cX6_usedShare 14 = .ok (.if_icmp .ge 43, 3) := by decide +kernel
theorem dX6_usedShare_17 : decode cX6_usedShare 17 = .ok (.iload_n 1, 1) := by decide +kernel
theorem dX6_usedShare_18 : decode cX6_usedShare 18 = .ok (.aload_n 0, 1) := by decide +kernel
theorem dX6_usedShare_19 : decode cX6_usedShare 19 = .ok (.getfield 16, 3) := by decide +kernel
theorem dX6_usedShare_22 : decode cX6_usedShare 22 = .ok (.iload_n 3, 1) := by decide +kernel
theorem dX6_usedShare_23 : decode cX6_usedShare 23 = .ok (.invokevirtual 216, 3) := by decide +kernel
theorem dX6_usedShare_26 : decode cX6_usedShare 26 = .ok (.checkcast 76, 3) := by decide +kernel
theorem dX6_usedShare_29 : decode cX6_usedShare 29 = .ok (.getfield 324, 3) := by decide +kernel
theorem dX6_usedShare_32 : decode cX6_usedShare 32 = .ok (.iadd, 1) := by decide +kernel
theorem dX6_usedShare_33 : decode cX6_usedShare 33 = .ok (.istore_n 1, 1) := by decide +kernel
theorem dX6_usedShare_34 : decode cX6_usedShare 34 = .ok (.iload_n 2, 1) := by decide +kernel
theorem dX6_usedShare_35 : decode cX6_usedShare 35 = .ok (.aload_n 0, 1) := by decide +kernel
theorem dX6_usedShare_36 : decode cX6_usedShare 36 = .ok (.getfield 16, 3) := by decide +kernel
theorem dX6_usedShare_39 : decode cX6_usedShare 39 = .ok (.iload_n 3, 1) := by decide +kernel
theorem dX6_usedShare_40 : decode cX6_usedShare 40 = .ok (.invokevirtual 216, 3) := by decide +kernel
theorem dX6_usedShare_43 : decode cX6_usedShare 43 = .ok (.checkcast 76, 3) := by decide +kernel
theorem dX6_usedShare_46 : decode cX6_usedShare 46 = .ok (.getfield 85, 3) := by decide +kernel
theorem dX6_usedShare_49 : decode cX6_usedShare 49 = .ok (.iadd, 1) := by decide +kernel
theorem dX6_usedShare_50 : decode cX6_usedShare 50 = .ok (.istore_n 2, 1) := by decide +kernel
theorem dX6_usedShare_51 : decode cX6_usedShare 51 = .ok (.iinc 3 1, 3) := by decide +kernel
theorem dX6_usedShare_54 : decode cX6_usedShare 54 = .ok (.goto (-48), 3) := by decide +kernel
theorem dX6_usedShare_57 : decode cX6_usedShare 57 = .ok (.iload_n 2, 1) := by decide +kernel
theorem dX6_usedShare_58 : decode cX6_usedShare 58 = .ok (.ifCond .ne 11, 3) := by decide +kernel
theorem dX6_usedShare_61 : decode cX6_usedShare 61 = .ok (.new 327, 3) := by decide +kernel
theorem dX6_usedShare_64 : decode cX6_usedShare 64 = .ok (.dup, 1) := by decide +kernel
theorem dX6_usedShare_65 : decode cX6_usedShare 65 = .ok (.invokespecial 329, 3) := by decide +kernel
theorem dX6_usedShare_68 : decode cX6_usedShare 68 = .ok (.athrow, 1) := by decide +kernel
theorem dX6_usedShare_69 : decode cX6_usedShare 69 = .ok (.iload_n 1, 1) := by decide +kernel
theorem dX6_usedShare_70 : decode cX6_usedShare 70 = .ok (.i2f, 1) := by decide +kernel
theorem dX6_usedShare_71 : decode cX6_usedShare 71 = .ok (.iload_n 2, 1) := by decide +kernel
theorem dX6_usedShare_72 : decode cX6_usedShare 72 = .ok (.i2f, 1) := by decide +kernel
theorem dX6_usedShare_73 : decode cX6_usedShare 73 = .ok (.fdiv, 1) := by decide +kernel
theorem dX6_usedShare_74 : decode cX6_usedShare 74 = .ok (.freturn, 1) := by decide +kernel
theorem dX6_meanFigure_0 : decode cX6_meanFigure 0 = .ok (.iconst 0, 1) := by decide +kernel
theorem dX6_meanFigure_1 : decode cX6_meanFigure 1 = .ok (.istore_n 1, 1) := by decide +kernel
theorem dX6_meanFigure_2 : decode cX6_meanFigure 2 = .ok (.iconst 0, 1) := by decide +kernel
theorem dX6_meanFigure_3 : decode cX6_meanFigure 3 = .ok (.istore_n 2, 1) := by decide +kernel
theorem dX6_meanFigure_4 : decode cX6_meanFigure 4 = .ok (.iconst 0, 1) := by decide +kernel
theorem dX6_meanFigure_5 : decode cX6_meanFigure 5 = .ok (.istore_n 3, 1) := by decide +kernel
theorem dX6_meanFigure_6 : decode cX6_meanFigure 6 = .ok (.iload_n 3, 1) := by decide +kernel
theorem dX6_meanFigure_7 : decode cX6_meanFigure 7 = .ok (.aload_n 0, 1) := by decide +kernel
theorem dX6_meanFigure_8 : decode cX6_meanFigure 8 = .ok (.getfield 16, 3) := by decide +kernel
theorem dX6_meanFigure_11 : decode cX6_meanFigure 11 = .ok (.invokevirtual 47, 3) := by decide +kernel
theorem dX6_meanFigure_14 : decode cX6_meanFigure 14 = .ok (.if_icmp .ge 59, 3) := by decide +kernel
theorem dX6_meanFigure_17 : decode cX6_meanFigure 17 = .ok (.aload_n 0, 1) := by decide +kernel
theorem dX6_meanFigure_18 : decode cX6_meanFigure 18 = .ok (.getfield 16, 3) := by decide +kernel
theorem dX6_meanFigure_21 : decode cX6_meanFigure 21 = .ok (.iload_n 3, 1) := by decide +kernel
theorem dX6_meanFigure_22 : decode cX6_meanFigure 22 = .ok (.invokevirtual 216, 3) := by decide +kernel
theorem dX6_meanFigure_25 : decode cX6_meanFigure 25 = .ok (.checkcast 76, 3) := by decide +kernel
theorem dX6_meanFigure_28 : decode cX6_meanFigure 28 = .ok (.astore 4, 2) := by decide +kernel
theorem dX6_meanFigure_30 : decode cX6_meanFigure 30 = .ok (.iconst 0, 1) := by decide +kernel
theorem dX6_meanFigure_31 : decode cX6_meanFigure 31 = .ok (.istore 5, 2) := by decide +kernel
theorem dX6_meanFigure_33 : decode cX6_meanFigure 33 = .ok (.iload 5, 2) := by decide +kernel
theorem dX6_meanFigure_35 : decode cX6_meanFigure 35 = .ok (.aload 4, 2) := by decide +kernel
theorem dX6_meanFigure_37 : decode cX6_meanFigure 37 = .ok (.getfield 85, 3) := by decide +kernel
theorem dX6_meanFigure_40 : decode cX6_meanFigure 40 = .ok (.if_icmp .ge 19, 3) := by decide +kernel
theorem dX6_meanFigure_43 : decode cX6_meanFigure 43 = .ok (.iload_n 1, 1) := by decide +kernel
theorem dX6_meanFigure_44 : decode cX6_meanFigure 44 = .ok (.aload 4, 2) := by decide +kernel
theorem dX6_meanFigure_46 : decode cX6_meanFigure 46 = .ok (.iload 5, 2) := by decide +kernel
theorem dX6_meanFigure_48 : decode cX6_meanFigure 48 = .ok (.invokevirtual 99, 3) := by decide +kernel
theorem dX6_meanFigure_51 : decode cX6_meanFigure 51 = .ok (.iadd, 1) := by decide +kernel
theorem dX6_meanFigure_52 : decode cX6_meanFigure 52 = .ok (.istore_n 1, 1) := by decide +kernel
theorem dX6_meanFigure_53 : decode cX6_meanFigure 53 = .ok (.iinc 5 1, 3) := by decide +kernel
theorem dX6_meanFigure_56 : decode cX6_meanFigure 56 = .ok (.goto (-23), 3) := by decide +kernel
theorem dX6_meanFigure_59 : decode cX6_meanFigure 59 = .ok (.iload_n 2, 1) := by decide +kernel
theorem dX6_meanFigure_60 : decode cX6_meanFigure 60 = .ok (.aload 4, 2) := by decide +kernel
theorem dX6_meanFigure_62 : decode cX6_meanFigure 62 = .ok (.getfield 85, 3) := by decide +kernel
theorem dX6_meanFigure_65 : decode cX6_meanFigure 65 = .ok (.iadd, 1) := by decide +kernel
theorem dX6_meanFigure_66 : decode cX6_meanFigure 66 = .ok (.istore_n 2, 1) := by decide +kernel
theorem dX6_meanFigure_67 : decode cX6_meanFigure 67 = .ok (.iinc 3 1, 3) := by decide +kernel
theorem dX6_meanFigure_70 : decode cX6_meanFigure 70 = .ok (.goto (-64), 3) := by decide +kernel
theorem dX6_meanFigure_73 : decode cX6_meanFigure 73 = .ok (.iload_n 2, 1) := by decide +kernel
theorem dX6_meanFigure_74 : decode cX6_meanFigure 74 = .ok (.ifCond .ne 11, 3) := by decide +kernel
theorem dX6_meanFigure_77 : decode cX6_meanFigure 77 = .ok (.new 327, 3) := by decide +kernel
theorem dX6_meanFigure_80 : decode cX6_meanFigure 80 = .ok (.dup, 1) := by decide +kernel
theorem dX6_meanFigure_81 : decode cX6_meanFigure 81 = .ok (.invokespecial 329, 3) := by decide +kernel
theorem dX6_meanFigure_84 : decode cX6_meanFigure 84 = .ok (.athrow, 1) := by decide +kernel
theorem dX6_meanFigure_85 : decode cX6_meanFigure 85 = .ok (.iload_n 1, 1) := by decide +kernel
theorem dX6_meanFigure_86 : decode cX6_meanFigure 86 = .ok (.i2d, 1) := by decide +kernel
theorem dX6_meanFigure_87 : decode cX6_meanFigure 87 = .ok (.iload_n 2, 1) := by decide +kernel
theorem dX6_meanFigure_88 : decode cX6_meanFigure 88 = .ok (.i2d, 1) := by decide +kernel
theorem dX6_meanFigure_89 : decode cX6_meanFigure 89 = .ok (.ddiv, 1) := by decide +kernel
theorem dX6_meanFigure_90 : decode cX6_meanFigure 90 = .ok (.dreturn, 1) := by decide +kernel
theorem dX6_checksum_0 : decode cX6_checksum 0 = .ok (.ldc2_w 330, 3) := by decide +kernel
theorem dX6_checksum_3 : decode cX6_checksum 3 = .ok (.lstore_n 1, 1) := by decide +kernel
theorem dX6_checksum_4 : decode cX6_checksum 4 = .ok (.iconst 0, 1) := by decide +kernel
theorem dX6_checksum_5 : decode cX6_checksum 5 = .ok (.istore_n 3, 1) := by decide +kernel
theorem dX6_checksum_6 : decode cX6_checksum 6 = .ok (.iload_n 3, 1) := by decide +kernel
theorem dX6_checksum_7 : decode cX6_checksum 7 = .ok (.aload_n 0, 1) := by decide +kernel
theorem dX6_checksum_8 : decode cX6_checksum 8 = .ok (.getfield 16, 3) := by decide +kernel
theorem dX6_checksum_11 : decode cX6_checksum 11 = .ok (.invokevirtual 47, 3) := by decide +kernel
theorem dX6_checksum_14 : decode cX6_checksum 14 = .ok (.if_icmp .ge 31, 3) := by decide +kernel
theorem dX6_checksum_17 : decode cX6_checksum 17 = .ok (.ldc2_w 332, 3) := by decide +kernel
theorem dX6_checksum_20 : decode cX6_checksum 20 = .ok (.lload_n 1, 1) := by decide +kernel
theorem dX6_checksum_21 : decode cX6_checksum 21 = .ok (.lmul, 1) := by decide +kernel
theorem dX6_checksum_22 : decode cX6_checksum 22 = .ok (.aload_n 0, 1) := by decide +kernel
theorem dX6_checksum_23 : decode cX6_checksum 23 = .ok (.getfield 16, 3) := by decide +kernel
theorem dX6_checksum_26 : decode cX6_checksum 26 = .ok (.iload_n 3, 1) := by decide +kernel
theorem dX6_checksum_27 : decode cX6_checksum 27 = .ok (.invokevirtual 216, 3) := by decide +kernel
theorem dX6_checksum_30 : decode cX6_checksum 30 = .ok (.checkcast 76, 3) := by decide +kernel
theorem dX6_checksum_33 : decode cX6_checksum 33 = .ok (.getfield 324, 3) := by decide +kernel
theorem dX6_checksum_36 : decode cX6_checksum 36 = .ok (.i2l, 1) := by decide +kernel
theorem dX6_checksum_37 : decode cX6_checksum 37 = .ok (.ladd, 1) := by decide +kernel
theorem dX6_checksum_38 : decode cX6_checksum 38 = .ok (.lstore_n 1, 1) := by decide +kernel
theorem dX6_checksum_39 : decode cX6_checksum 39 = .ok (.iinc 3 1, 3) := by decide +kernel
theorem dX6_checksum_42 : decode cX6_checksum 42 = .ok (.goto (-36), 3) := by decide +kernel
theorem dX6_checksum_45 : decode cX6_checksum 45 = .ok (.iconst 0, 1) := by decide +kernel
theorem dX6_checksum_46 : decode cX6_checksum 46 = .ok (.istore_n 3, 1) := by decide +kernel
theorem dX6_checksum_47 : decode cX6_checksum 47 = .ok (.iload_n 3, 1) := by decide +kernel
theorem dX6_checksum_48 : decode cX6_checksum 48 = .ok (.aload_n 0, 1) := by decide +kernel
theorem dX6_checksum_49 : decode cX6_checksum 49 = .ok (.getfield 19, 3) := by decide +kernel
theorem dX6_checksum_52 : decode cX6_checksum 52 = .ok (.invokevirtual 47, 3) := by decide +kernel
theorem dX6_checksum_55 : decode cX6_checksum 55 = .ok (.if_icmp .ge 31, 3) := by decide +kernel
theorem dX6_checksum_58 : decode cX6_checksum 58 = .ok (.ldc2_w 332, 3) := by decide +kernel
theorem dX6_checksum_61 : decode cX6_checksum 61 = .ok (.lload_n 1, 1) := by decide +kernel
theorem dX6_checksum_62 : decode cX6_checksum 62 = .ok (.lmul, 1) := by decide +kernel
theorem dX6_checksum_63 : decode cX6_checksum 63 = .ok (.aload_n 0, 1) := by decide +kernel
theorem dX6_checksum_64 : decode cX6_checksum 64 = .ok (.getfield 19, 3) := by decide +kernel
theorem dX6_checksum_67 : decode cX6_checksum 67 = .ok (.iload_n 3, 1) := by decide +kernel
theorem dX6_checksum_68 : decode cX6_checksum 68 = .ok (.invokevirtual 216, 3) := by decide +kernel
theorem dX6_checksum_71 : decode cX6_checksum 71 = .ok (.checkcast 108, 3) := by decide +kernel
theorem dX6_checksum_74 : decode cX6_checksum 74 = .ok (.invokevirtual 321, 3) := by decide +kernel
theorem dX6_checksum_77 : decode cX6_checksum 77 = .ok (.i2l, 1) := by decide +kernel
theorem dX6_checksum_78 : decode cX6_checksum 78 = .ok (.ladd, 1) := by decide +kernel
theorem dX6_checksum_79 : decode cX6_checksum 79 = .ok (.lstore_n 1, 1) := by decide +kernel
theorem dX6_checksum_80 : decode cX6_checksum 80 = .ok (.iinc 3 1, 3) := by decide +kernel
theorem dX6_checksum_83 : decode cX6_checksum 83 = .ok (.goto (-36), 3) := by decide +kernel
theorem dX6_checksum_86 : decode cX6_checksum 86 = .ok (.iconst 0, 1) := by decide +kernel
theorem dX6_checksum_87 : decode cX6_checksum 87 = .ok (.istore_n 3, 1) := by decide +kernel
theorem dX6_checksum_88 : decode cX6_checksum 88 = .ok (.iload_n 3, 1) := by decide +kernel
theorem dX6_checksum_89 : decode cX6_checksum 89 = .ok (.aload_n 0, 1) := by decide +kernel
theorem dX6_checksum_90 : decode cX6_checksum 90 = .ok (.getfield 22, 3) := by decide +kernel
theorem dX6_checksum_93 : decode cX6_checksum 93 = .ok (.invokevirtual 47, 3) := by decide +kernel
theorem dX6_checksum_96 : decode cX6_checksum 96 = .ok (.if_icmp .ge 31, 3) := by decide +kernel
theorem dX6_checksum_99 : decode cX6_checksum 99 = .ok (.ldc2_w 332, 3) := by decide +kernel
theorem dX6_checksum_102 : decode cX6_checksum 102 = .ok (.lload_n 1, 1) := by decide +kernel
theorem dX6_checksum_103 : decode cX6_checksum 103 = .ok (.lmul, 1) := by decide +kernel
theorem dX6_checksum_104 : decode cX6_checksum 104 = .ok (.aload_n 0, 1) := by decide +kernel
theorem dX6_checksum_105 : decode cX6_checksum 105 = .ok (.getfield 22, 3) := by decide +kernel
theorem dX6_checksum_108 : decode cX6_checksum 108 = .ok (.iload_n 3, 1) := by decide +kernel
theorem dX6_checksum_109 : decode cX6_checksum 109 = .ok (.invokevirtual 216, 3) := by decide +kernel
theorem dX6_checksum_112 : decode cX6_checksum 112 = .ok (.checkcast 226, 3) := by decide +kernel
theorem dX6_checksum_115 : decode cX6_checksum 115 = .ok (.getfield 248, 3) := by decide +kernel
theorem dX6_checksum_118 : decode cX6_checksum 118 = .ok (.i2l, 1) := by decide +kernel
theorem dX6_checksum_119 : decode cX6_checksum 119 = .ok (.ladd, 1) := by decide +kernel
theorem dX6_checksum_120 : decode cX6_checksum 120 = .ok (.lstore_n 1, 1) := by decide +kernel
theorem dX6_checksum_121 : decode cX6_checksum 121 = .ok (.iinc 3 1, 3) := by decide +kernel
theorem dX6_checksum_124 : decode cX6_checksum 124 = .ok (.goto (-36), 3) := by decide +kernel
theorem dX6_checksum_127 : decode cX6_checksum 127 = .ok (.ldc2_w 332, 3) := by decide +kernel
theorem dX6_checksum_130 : decode cX6_checksum 130 = .ok (.lload_n 1, 1) := by decide +kernel
theorem dX6_checksum_131 : decode cX6_checksum 131 = .ok (.lmul, 1) := by decide +kernel
theorem dX6_checksum_132 : decode cX6_checksum 132 = .ok (.aload_n 0, 1) := by decide +kernel
theorem dX6_checksum_133 : decode cX6_checksum 133 = .ok (.getfield 270, 3) := by decide +kernel
theorem dX6_checksum_136 : decode cX6_checksum 136 = .ok (.i2l, 1) := by decide +kernel
theorem dX6_checksum_137 : decode cX6_checksum 137 = .ok (.ladd, 1) := by decide +kernel
theorem dX6_checksum_138 : decode cX6_checksum 138 = .ok (.lreturn, 1) := by decide +kernel
theorem dX6_isTrue_0 : decode cX6_isTrue 0 = .ok (.aload_n 0, 1) := by decide +kernel
theorem dX6_isTrue_1 : decode cX6_isTrue 1 = .ok (.invokevirtual 334, 3) := by decide +kernel
theorem dX6_isTrue_4 : decode cX6_isTrue 4 = .ok (.ifCond .eq 21, 3) := by decide +kernel
theorem dX6_isTrue_7 : decode cX6_isTrue 7 = .ok (.aload_n 0, 1) := by decide +kernel
theorem dX6_isTrue_8 : decode cX6_isTrue 8 = .ok (.invokevirtual 337, 3) := by decide +kernel
theorem dX6_isTrue_11 : decode cX6_isTrue 11 = .ok (.ifCond .eq 14, 3) := by decide +kernel
theorem dX6_isTrue_14 : decode cX6_isTrue 14 = .ok (.aload_n 0, 1) := by decide +kernel
theorem dX6_isTrue_15 : decode cX6_isTrue 15 = .ok (.invokevirtual 340, 3) := by decide +kernel
theorem dX6_isTrue_18 : decode cX6_isTrue 18 = .ok (.ifCond .eq 7, 3) := by decide +kernel
theorem dX6_isTrue_21 : decode cX6_isTrue 21 = .ok (.iconst 1, 1) := by decide +kernel
theorem dX6_isTrue_22 : decode cX6_isTrue 22 = .ok (.goto 4, 3) := by decide +kernel
theorem dX6_isTrue_25 : decode cX6_isTrue 25 = .ok (.iconst 0, 1) := by decide +kernel
theorem dX6_isTrue_26 : decode cX6_isTrue 26 = .ok (.ireturn, 1) := by decide +kernel
theorem dX6_logOf_0 : decode cX6_logOf 0 = .ok (.iload_n 1, 1) := by decide +kernel
theorem dX6_logOf_1 : decode cX6_logOf 1 = .ok (.ifCond .lt 14, 3) := by decide +kernel
theorem dX6_logOf_4 : decode cX6_logOf 4 = .ok (.iload_n 1, 1) := by decide +kernel
theorem dX6_logOf_5 : decode cX6_logOf 5 = .ok (.aload_n 0, 1) := by decide +kernel
theorem dX6_logOf_6 : decode cX6_logOf 6 = .ok (.getfield 10, 3) := by decide +kernel
theorem dX6_logOf_9 : decode cX6_logOf 9 = .ok (.invokevirtual 47, 3) := by decide +kernel
theorem dX6_logOf_12 : decode cX6_logOf 12 = .ok (.if_icmp .lt 11, 3) := by decide +kernel
theorem dX6_logOf_15 : decode cX6_logOf 15 = .ok (.new 343, 3) := by decide +kernel
theorem dX6_logOf_18 : decode cX6_logOf 18 = .ok (.dup, 1) := by decide +kernel
theorem dX6_logOf_19 : decode cX6_logOf 19 = .ok (.invokespecial 345, 3) := by decide +kernel
theorem dX6_logOf_22 : decode cX6_logOf 22 = .ok (.athrow, 1) := by decide +kernel
theorem dX6_logOf_23 : decode cX6_logOf 23 = .ok (.aload_n 0, 1) := by decide +kernel
theorem dX6_logOf_24 : decode cX6_logOf 24 = .ok (.getfield 10, 3) := by decide +kernel
theorem dX6_logOf_27 : decode cX6_logOf 27 = .ok (.iload_n 1, 1) := by decide +kernel
theorem dX6_logOf_28 : decode cX6_logOf 28 = .ok (.invokevirtual 216, 3) := by decide +kernel
theorem dX6_logOf_31 : decode cX6_logOf 31 = .ok (.checkcast 54, 3) := by decide +kernel
theorem dX6_logOf_34 : decode cX6_logOf 34 = .ok (.areturn, 1) := by decide +kernel
theorem dX6_flitchOf_0 : decode cX6_flitchOf 0 = .ok (.iload_n 1, 1) := by decide +kernel
theorem dX6_flitchOf_1 : decode cX6_flitchOf 1 = .ok (.ifCond .lt 14, 3) := by decide +kernel
theorem dX6_flitchOf_4 : decode cX6_flitchOf 4 = .ok (.iload_n 1, 1) := by decide +kernel
theorem dX6_flitchOf_5 : decode cX6_flitchOf 5 = .ok (.aload_n 0, 1) := by decide +kernel
theorem dX6_flitchOf_6 : decode cX6_flitchOf 6 = .ok (.getfield 16, 3) := by decide +kernel
theorem dX6_flitchOf_9 : decode cX6_flitchOf 9 = .ok (.invokevirtual 47, 3) := by decide +kernel
theorem dX6_flitchOf_12 : decode cX6_flitchOf 12 = .ok (.if_icmp .lt 11, 3) := by decide +kernel
theorem dX6_flitchOf_15 : decode cX6_flitchOf 15 = .ok (.new 343, 3) := by decide +kernel
theorem dX6_flitchOf_18 : decode cX6_flitchOf 18 = .ok (.dup, 1) := by decide +kernel
theorem dX6_flitchOf_19 : decode cX6_flitchOf 19 = .ok (.invokespecial 345, 3) := by decide +kernel
theorem dX6_flitchOf_22 : decode cX6_flitchOf 22 = .ok (.athrow, 1) := by decide +kernel
theorem dX6_flitchOf_23 : decode cX6_flitchOf 23 = .ok (.aload_n 0, 1) := by decide +kernel
theorem dX6_flitchOf_24 : decode cX6_flitchOf 24 = .ok (.getfield 16, 3) := by decide +kernel
theorem dX6_flitchOf_27 : decode cX6_flitchOf 27 = .ok (.iload_n 1, 1) := by decide +kernel
theorem dX6_flitchOf_28 : decode cX6_flitchOf 28 = .ok (.invokevirtual 216, 3) := by decide +kernel
theorem dX6_flitchOf_31 : decode cX6_flitchOf 31 = .ok (.checkcast 76, 3) := by decide +kernel
theorem dX6_flitchOf_34 : decode cX6_flitchOf 34 = .ok (.areturn, 1) := by decide +kernel
theorem dX6_flitchWithLeaf_0 : decode cX6_flitchWithLeaf 0 = .ok (.aload_n 0, 1) := by decide +kernel
theorem dX6_flitchWithLeaf_1 : decode cX6_flitchWithLeaf 1 = .ok (.iload_n 1, 1) := by decide +kernel
theorem dX6_flitchWithLeaf_2 : decode cX6_flitchWithLeaf 2 = .ok (.iload_n 2, 1) := by decide +kernel
theorem dX6_flitchWithLeaf_3 : decode cX6_flitchWithLeaf 3 = .ok (.iconst 1, 1) := by decide +kernel
theorem dX6_flitchWithLeaf_4 : decode cX6_flitchWithLeaf 4 = .ok (.invokevirtual 117, 3) := by decide +kernel
theorem dX6_flitchWithLeaf_7 : decode cX6_flitchWithLeaf 7 = .ok (.areturn, 1) := by decide +kernel
theorem dX6_flitchWithLeaves_0 : decode cX6_flitchWithLeaves 0 = .ok (.aload_n 0, 1) := by decide +kernel
theorem dX6_flitchWithLeaves_1 : decode cX6_flitchWithLeaves 1 = .ok (.iload_n 1, 1) := by decide +kernel
theorem dX6_flitchWithLeaves_2 : decode cX6_flitchWithLeaves 2 = .ok (.invokevirtual 81, 3) := by decide +kernel
theorem dX6_flitchWithLeaves_5 : decode cX6_flitchWithLeaves 5 = .ok (.astore 4, 2) := by decide +kernel
theorem dX6_flitchWithLeaves_7 : decode cX6_flitchWithLeaves 7 = .ok (.iload_n 2, 1) := by decide +kernel
theorem dX6_flitchWithLeaves_8 : decode cX6_flitchWithLeaves 8 = .ok (.ifCond .lt 23, 3) := by decide +kernel
theorem dX6_flitchWithLeaves_11 : decode cX6_flitchWithLeaves 11 = .ok (.iload_n 2, 1) := by decide +kernel
theorem dX6_flitchWithLeaves_12 : decode cX6_flitchWithLeaves 12 = .ok (.aload 4, 2) := by decide +kernel
theorem dX6_flitchWithLeaves_14 : decode cX6_flitchWithLeaves 14 = .ok (.getfield 85, 3) := by decide +kernel
theorem dX6_flitchWithLeaves_17 : decode cX6_flitchWithLeaves 17 = .ok (.if_icmp .ge 14, 3) := by decide +kernel
theorem dX6_flitchWithLeaves_20 : decode cX6_flitchWithLeaves 20 = .ok (.iload_n 3, 1) := by decide +kernel
theorem dX6_flitchWithLeaves_21 : decode cX6_flitchWithLeaves 21 = .ok (.aload 4, 2) := by decide +kernel
theorem dX6_flitchWithLeaves_23 : decode cX6_flitchWithLeaves 23 = .ok (.getfield 85, 3) := by decide +kernel
theorem dX6_flitchWithLeaves_26 : decode cX6_flitchWithLeaves 26 = .ok (.iload_n 2, 1) := by decide +kernel
theorem dX6_flitchWithLeaves_27 : decode cX6_flitchWithLeaves 27 = .ok (.isub, 1) := by decide +kernel
theorem dX6_flitchWithLeaves_28 : decode cX6_flitchWithLeaves 28 = .ok (.if_icmp .le 11, 3) := by decide +kernel
theorem dX6_flitchWithLeaves_31 : decode cX6_flitchWithLeaves 31 = .ok (.new 343, 3) := by decide +kernel
theorem dX6_flitchWithLeaves_34 : decode cX6_flitchWithLeaves 34 = .ok (.dup, 1) := by decide +kernel
theorem dX6_flitchWithLeaves_35 : decode cX6_flitchWithLeaves 35 = .ok (.invokespecial 345, 3) := by decide +kernel
theorem dX6_flitchWithLeaves_38 : decode cX6_flitchWithLeaves 38 = .ok (.athrow, 1) := by decide +kernel
theorem dX6_flitchWithLeaves_39 : decode cX6_flitchWithLeaves 39 = .ok (.aload 4, 2) := by decide +kernel
theorem dX6_flitchWithLeaves_41 : decode cX6_flitchWithLeaves 41 = .ok (.areturn, 1) := by decide +kernel
theorem dX6_panelOf_0 : decode cX6_panelOf 0 = .ok (.iload_n 1, 1) := by decide +kernel
theorem dX6_panelOf_1 : decode cX6_panelOf 1 = .ok (.ifCond .lt 14, 3) := by decide +kernel
theorem dX6_panelOf_4 : decode cX6_panelOf 4 = .ok (.iload_n 1, 1) := by decide +kernel
theorem dX6_panelOf_5 : decode cX6_panelOf 5 = .ok (.aload_n 0, 1) := by decide +kernel
theorem dX6_panelOf_6 : decode cX6_panelOf 6 = .ok (.getfield 19, 3) := by decide +kernel
theorem dX6_panelOf_9 : decode cX6_panelOf 9 = .ok (.invokevirtual 47, 3) := by decide +kernel
theorem dX6_panelOf_12 : decode cX6_panelOf 12 = .ok (.if_icmp .lt 11, 3) := by decide +kernel
theorem dX6_panelOf_15 : decode cX6_panelOf 15 = .ok (.new 343, 3) := by decide +kernel
theorem dX6_panelOf_18 : decode cX6_panelOf 18 = .ok (.dup, 1) := by decide +kernel
theorem dX6_panelOf_19 : decode cX6_panelOf 19 = .ok (.invokespecial 345, 3) := by decide +kernel
theorem dX6_panelOf_22 : decode cX6_panelOf 22 = .ok (.athrow, 1) := by decide +kernel
theorem dX6_panelOf_23 : decode cX6_panelOf 23 = .ok (.aload_n 0, 1) := by decide +kernel
theorem dX6_panelOf_24 : decode cX6_panelOf 24 = .ok (.getfield 19, 3) := by decide +kernel
theorem dX6_panelOf_27 : decode cX6_panelOf 27 = .ok (.iload_n 1, 1) := by decide +kernel
theorem dX6_panelOf_28 : decode cX6_panelOf 28 = .ok (.invokevirtual 216, 3) := by decide +kernel
theorem dX6_panelOf_31 : decode cX6_panelOf 31 = .ok (.checkcast 108, 3) := by decide +kernel
theorem dX6_panelOf_34 : decode cX6_panelOf 34 = .ok (.areturn, 1) := by decide +kernel
theorem dX6_pressedOnly_0 : decode cX6_pressedOnly 0 = .ok (.aload_n 0, 1) := by decide +kernel
theorem dX6_pressedOnly_1 : decode cX6_pressedOnly 1 = .ok (.getfield 162, 3) := by decide +kernel
theorem dX6_pressedOnly_4 : decode cX6_pressedOnly 4 = .ok (.ifCond .ne 11, 3) := by decide +kernel
theorem dX6_pressedOnly_7 : decode cX6_pressedOnly 7 = .ok (.new 73, 3) := by decide +kernel
theorem dX6_pressedOnly_10 : decode cX6_pressedOnly 10 = .ok (.dup, 1) := by decide +kernel
theorem dX6_pressedOnly_11 : decode cX6_pressedOnly 11 = .ok (.invokespecial 75, 3) := by decide +kernel
theorem dX6_pressedOnly_14 : decode cX6_pressedOnly 14 = .ok (.athrow, 1) := by decide +kernel
theorem dX6_pressedOnly_15 : decode cX6_pressedOnly 15 = .ok (.aload_n 0, 1) := by decide +kernel
theorem dX6_pressedOnly_16 : decode cX6_pressedOnly 16 = .ok (.areturn, 1) := by decide +kernel
theorem dX6_pictureOf_0 : decode cX6_pictureOf 0 = .ok (.iload_n 1, 1) := by decide +kernel
theorem dX6_pictureOf_1 : decode cX6_pictureOf 1 = .ok (.ifCond .lt 14, 3) := by decide +kernel
theorem dX6_pictureOf_4 : decode cX6_pictureOf 4 = .ok (.iload_n 1, 1) := by decide +kernel
theorem dX6_pictureOf_5 : decode cX6_pictureOf 5 = .ok (.aload_n 0, 1) := by decide +kernel
theorem dX6_pictureOf_6 : decode cX6_pictureOf 6 = .ok (.getfield 22, 3) := by decide +kernel
theorem dX6_pictureOf_9 : decode cX6_pictureOf 9 = .ok (.invokevirtual 47, 3) := by decide +kernel
theorem dX6_pictureOf_12 : decode cX6_pictureOf 12 = .ok (.if_icmp .lt 11, 3) := by decide +kernel
theorem dX6_pictureOf_15 : decode cX6_pictureOf 15 = .ok (.new 343, 3) := by decide +kernel
theorem dX6_pictureOf_18 : decode cX6_pictureOf 18 = .ok (.dup, 1) := by decide +kernel
theorem dX6_pictureOf_19 : decode cX6_pictureOf 19 = .ok (.invokespecial 345, 3) := by decide +kernel
theorem dX6_pictureOf_22 : decode cX6_pictureOf 22 = .ok (.athrow, 1) := by decide +kernel
theorem dX6_pictureOf_23 : decode cX6_pictureOf 23 = .ok (.aload_n 0, 1) := by decide +kernel
theorem dX6_pictureOf_24 : decode cX6_pictureOf 24 = .ok (.getfield 22, 3) := by decide +kernel
theorem dX6_pictureOf_27 : decode cX6_pictureOf 27 = .ok (.iload_n 1, 1) := by decide +kernel
theorem dX6_pictureOf_28 : decode cX6_pictureOf 28 = .ok (.invokevirtual 216, 3) := by decide +kernel
theorem dX6_pictureOf_31 : decode cX6_pictureOf 31 = .ok (.checkcast 226, 3) := by decide +kernel
theorem dX6_pictureOf_34 : decode cX6_pictureOf 34 = .ok (.areturn, 1) := by decide +kernel
theorem dX6_pictureWithPlace_0 : decode cX6_pictureWithPlace 0 = .ok (.aload_n 0, 1) := by decide +kernel
theorem dX6_pictureWithPlace_1 : decode cX6_pictureWithPlace 1 = .ok (.iload_n 1, 1) := by decide +kernel
theorem dX6_pictureWithPlace_2 : decode cX6_pictureWithPlace 2 = .ok (.invokevirtual 229, 3) := by decide +kernel
theorem dX6_pictureWithPlace_5 : decode cX6_pictureWithPlace 5 = .ok (.astore 4, 2) := by decide +kernel
theorem dX6_pictureWithPlace_7 : decode cX6_pictureWithPlace 7 = .ok (.iload_n 2, 1) := by decide +kernel
theorem dX6_pictureWithPlace_8 : decode cX6_pictureWithPlace 8 = .ok (.iload_n 3, 1) := by decide +kernel
theorem dX6_pictureWithPlace_9 : decode cX6_pictureWithPlace 9 = .ok (.invokestatic 233, 3) := by decide +kernel
theorem dX6_pictureWithPlace_12 : decode cX6_pictureWithPlace 12 = .ok (.ifCond .ne 11, 3) := by decide +kernel
theorem dX6_pictureWithPlace_15 : decode cX6_pictureWithPlace 15 = .ok (.new 343, 3) := by decide +kernel
theorem dX6_pictureWithPlace_18 : decode cX6_pictureWithPlace 18 = .ok (.dup, 1) := by decide +kernel
theorem dX6_pictureWithPlace_19 : decode cX6_pictureWithPlace 19 = .ok (.invokespecial 345, 3) := by decide +kernel
theorem dX6_pictureWithPlace_22 : decode cX6_pictureWithPlace 22 = .ok (.athrow, 1) := by decide +kernel
theorem dX6_pictureWithPlace_23 : decode cX6_pictureWithPlace 23 = .ok (.aload 4, 2) := by decide +kernel
theorem dX6_pictureWithPlace_25 : decode cX6_pictureWithPlace 25 = .ok (.areturn, 1) := by decide +kernel
theorem dX6_packetWithCopy_0 : decode cX6_packetWithCopy 0 = .ok (.aload_n 0, 1) := by decide +kernel
theorem dX6_packetWithCopy_1 : decode cX6_packetWithCopy 1 = .ok (.getfield 241, 3) := by decide +kernel
theorem dX6_packetWithCopy_4 : decode cX6_packetWithCopy 4 = .ok (.astore_n 2, 1) := by decide +kernel
theorem dX6_packetWithCopy_5 : decode cX6_packetWithCopy 5 = .ok (.aload_n 2, 1) := by decide +kernel
theorem dX6_packetWithCopy_6 : decode cX6_packetWithCopy 6 = .ok (.ifnull 15, 3) := by decide +kernel
theorem dX6_packetWithCopy_9 : decode cX6_packetWithCopy 9 = .ok (.iload_n 1, 1) := by decide +kernel
theorem dX6_packetWithCopy_10 : decode cX6_packetWithCopy 10 = .ok (.ifCond .lt 11, 3) := by decide +kernel
theorem dX6_packetWithCopy_13 : decode cX6_packetWithCopy 13 = .ok (.iload_n 1, 1) := by decide +kernel
theorem dX6_packetWithCopy_14 : decode cX6_packetWithCopy 14 = .ok (.aload_n 2, 1) := by decide +kernel
theorem dX6_packetWithCopy_15 : decode cX6_packetWithCopy 15 = .ok (.getfield 177, 3) := by decide +kernel
theorem dX6_packetWithCopy_18 : decode cX6_packetWithCopy 18 = .ok (.if_icmp .lt 11, 3) := by decide +kernel
theorem dX6_packetWithCopy_21 : decode cX6_packetWithCopy 21 = .ok (.new 168, 3) := by decide +kernel
theorem dX6_packetWithCopy_24 : decode cX6_packetWithCopy 24 = .ok (.dup, 1) := by decide +kernel
theorem dX6_packetWithCopy_25 : decode cX6_packetWithCopy 25 = .ok (.invokespecial 170, 3) := by decide +kernel
theorem dX6_packetWithCopy_28 : decode cX6_packetWithCopy 28 = .ok (.athrow, 1) := by decide +kernel
theorem dX6_packetWithCopy_29 : decode cX6_packetWithCopy 29 = .ok (.aload_n 2, 1) := by decide +kernel
theorem dX6_packetWithCopy_30 : decode cX6_packetWithCopy 30 = .ok (.areturn, 1) := by decide +kernel
theorem dX6_isIn_0 : decode cX6_isIn 0 = .ok (.iload_n 0, 1) := by decide +kernel
theorem dX6_isIn_1 : decode cX6_isIn 1 = .ok (.iload_n 1, 1) := by decide +kernel
theorem dX6_isIn_2 : decode cX6_isIn 2 = .ok (.if_icmp .lt 12, 3) := by decide +kernel
theorem dX6_isIn_5 : decode cX6_isIn 5 = .ok (.iload_n 0, 1) := by decide +kernel
theorem dX6_isIn_6 : decode cX6_isIn 6 = .ok (.iload_n 2, 1) := by decide +kernel
theorem dX6_isIn_7 : decode cX6_isIn 7 = .ok (.if_icmp .gt 7, 3) := by decide +kernel
theorem dX6_isIn_10 : decode cX6_isIn 10 = .ok (.iconst 1, 1) := by decide +kernel
theorem dX6_isIn_11 : decode cX6_isIn 11 = .ok (.goto 4, 3) := by decide +kernel
theorem dX6_isIn_14 : decode cX6_isIn 14 = .ok (.iconst 0, 1) := by decide +kernel
theorem dX6_isIn_15 : decode cX6_isIn 15 = .ok (.ireturn, 1) := by decide +kernel
theorem dX6_within_0 : decode cX6_within 0 = .ok (.iload_n 1, 1) := by decide +kernel
theorem dX6_within_1 : decode cX6_within 1 = .ok (.iload_n 2, 1) := by decide +kernel
theorem dX6_within_2 : decode cX6_within 2 = .ok (.iload_n 0, 1) := by decide +kernel
theorem dX6_within_3 : decode cX6_within 3 = .ok (.invokestatic 346, 3) := by decide +kernel
theorem dX6_within_6 : decode cX6_within 6 = .ok (.invokestatic 203, 3) := by decide +kernel
theorem dX6_within_9 : decode cX6_within 9 = .ok (.ireturn, 1) := by decide +kernel
theorem dX6_isOneOf_0 : decode cX6_isOneOf 0 = .ok (.aload_n 0, 1) := by decide +kernel
theorem dX6_isOneOf_1 : decode cX6_isOneOf 1 = .ok (.iload_n 1, 1) := by decide +kernel
theorem dX6_isOneOf_2 : decode cX6_isOneOf 2 = .ok (.invokevirtual 349, 3) := by decide +kernel
theorem dX6_isOneOf_5 : decode cX6_isOneOf 5 = .ok (.ifCond .lt 7, 3) := by decide +kernel
theorem dX6_isOneOf_8 : decode cX6_isOneOf 8 = .ok (.iconst 1, 1) := by decide +kernel
theorem dX6_isOneOf_9 : decode cX6_isOneOf 9 = .ok (.goto 4, 3) := by decide +kernel
theorem dX6_isOneOf_12 : decode cX6_isOneOf 12 = .ok (.iconst 0, 1) := by decide +kernel
theorem dX6_isOneOf_13 : decode cX6_isOneOf 13 = .ok (.ireturn, 1) := by decide +kernel
theorem dX6_isField_0 : decode cX6_isField 0 = .ok (.iload_n 0, 1) := by decide +kernel
theorem dX6_isField_1 : decode cX6_isField 1 = .ok (.bipush 97, 2) := by decide +kernel
theorem dX6_isField_3 : decode cX6_isField 3 = .ok (.isub, 1) := by decide +kernel
theorem dX6_isField_4 : decode cX6_isField 4 = .ok (.iconst 0, 1) := by decide +kernel
theorem dX6_isField_5 : decode cX6_isField 5 = .ok (.bipush 7, 2) := by decide +kernel
theorem dX6_isField_7 : decode cX6_isField 7 = .ok (.invokestatic 40, 3) := by decide +kernel
theorem dX6_isField_10 : decode cX6_isField 10 = .ok (.ireturn, 1) := by decide +kernel
theorem dX6_isPlace_0 : decode cX6_isPlace 0 = .ok (.iload_n 0, 1) := by decide +kernel
theorem dX6_isPlace_1 : decode cX6_isPlace 1 = .ok (.iconst 0, 1) := by decide +kernel
theorem dX6_isPlace_2 : decode cX6_isPlace 2 = .ok (.bipush 7, 2) := by decide +kernel
theorem dX6_isPlace_4 : decode cX6_isPlace 4 = .ok (.invokestatic 40, 3) := by decide +kernel
theorem dX6_isPlace_7 : decode cX6_isPlace 7 = .ok (.ifCond .eq 17, 3) := by decide +kernel
theorem dX6_isPlace_10 : decode cX6_isPlace 10 = .ok (.iload_n 1, 1) := by decide +kernel
theorem dX6_isPlace_11 : decode cX6_isPlace 11 = .ok (.iconst 0, 1) := by decide +kernel
theorem dX6_isPlace_12 : decode cX6_isPlace 12 = .ok (.bipush 7, 2) := by decide +kernel
theorem dX6_isPlace_14 : decode cX6_isPlace 14 = .ok (.invokestatic 40, 3) := by decide +kernel
theorem dX6_isPlace_17 : decode cX6_isPlace 17 = .ok (.ifCond .eq 7, 3) := by decide +kernel
theorem dX6_isPlace_20 : decode cX6_isPlace 20 = .ok (.iconst 1, 1) := by decide +kernel
theorem dX6_isPlace_21 : decode cX6_isPlace 21 = .ok (.goto 4, 3) := by decide +kernel
theorem dX6_isPlace_24 : decode cX6_isPlace 24 = .ok (.iconst 0, 1) := by decide +kernel
theorem dX6_isPlace_25 : decode cX6_isPlace 25 = .ok (.ireturn, 1) := by decide +kernel
theorem dX6_neighbour_0 : decode cX6_neighbour 0 = .ok (.iload_n 0, 1) := by decide +kernel
theorem dX6_neighbour_1 : decode cX6_neighbour 1 = .ok (.bipush 8, 2) := by decide +kernel
theorem dX6_neighbour_3 : decode cX6_neighbour 3 = .ok (.idiv, 1) := by decide +kernel
theorem dX6_neighbour_4 : decode cX6_neighbour 4 = .ok (.istore_n 2, 1) := by decide +kernel
theorem dX6_neighbour_5 : decode cX6_neighbour 5 = .ok (.iload_n 0, 1) := by decide +kernel
theorem dX6_neighbour_6 : decode cX6_neighbour 6 = .ok (.bipush 8, 2) := by decide +kernel
theorem dX6_neighbour_8 : decode cX6_neighbour 8 = .ok (.irem, 1) := by decide +kernel
theorem dX6_neighbour_9 : decode cX6_neighbour 9 = .ok (.istore_n 3, 1) := by decide +kernel
theorem dX6_neighbour_10 : decode cX6_neighbour 10 = .ok (.iload_n 1, 1) := by decide +kernel
theorem dX6_neighbour_11 : decode cX6_neighbour 11 = .ok (.tableswitch 66 0 2 #[25, 39, 54], 25) := by decide +kernel
theorem dX6_neighbour_36 : decode cX6_neighbour 36 = .ok (.iload_n 3, 1) := by decide +kernel
theorem dX6_neighbour_37 : decode cX6_neighbour 37 = .ok (.bipush 7, 2) := by decide +kernel
theorem dX6_neighbour_39 : decode cX6_neighbour 39 = .ok (.if_icmp .ge 9, 3) := by decide +kernel
theorem dX6_neighbour_42 : decode cX6_neighbour 42 = .ok (.iload_n 0, 1) := by decide +kernel
theorem dX6_neighbour_43 : decode cX6_neighbour 43 = .ok (.iconst 1, 1) := by decide +kernel
theorem dX6_neighbour_44 : decode cX6_neighbour 44 = .ok (.iadd, 1) := by decide +kernel
theorem dX6_neighbour_45 : decode cX6_neighbour 45 = .ok (.goto 4, 3) := by decide +kernel
theorem dX6_neighbour_48 : decode cX6_neighbour 48 = .ok (.iconst (-1), 1) := by decide +kernel
theorem dX6_neighbour_49 : decode cX6_neighbour 49 = .ok (.ireturn, 1) := by decide +kernel
theorem dX6_neighbour_50 : decode cX6_neighbour 50 = .ok (.iload_n 2, 1) := by decide +kernel
theorem dX6_neighbour_51 : decode cX6_neighbour 51 = .ok (.bipush 7, 2) := by decide +kernel
theorem dX6_neighbour_53 : decode cX6_neighbour 53 = .ok (.if_icmp .ge 10, 3) := by decide +kernel
theorem dX6_neighbour_56 : decode cX6_neighbour 56 = .ok (.iload_n 0, 1) := by decide +kernel
theorem dX6_neighbour_57 : decode cX6_neighbour 57 = .ok (.bipush 8, 2) := by decide +kernel
theorem dX6_neighbour_59 : decode cX6_neighbour 59 = .ok (.iadd, 1) := by decide +kernel
theorem dX6_neighbour_60 : decode cX6_neighbour 60 = .ok (.goto 4, 3) := by decide +kernel
theorem dX6_neighbour_63 : decode cX6_neighbour 63 = .ok (.iconst (-1), 1) := by decide +kernel
theorem dX6_neighbour_64 : decode cX6_neighbour 64 = .ok (.ireturn, 1) := by decide +kernel
theorem dX6_neighbour_65 : decode cX6_neighbour 65 = .ok (.iload_n 3, 1) := by decide +kernel
theorem dX6_neighbour_66 : decode cX6_neighbour 66 = .ok (.ifCond .le 9, 3) := by decide +kernel
theorem dX6_neighbour_69 : decode cX6_neighbour 69 = .ok (.iload_n 0, 1) := by decide +kernel
theorem dX6_neighbour_70 : decode cX6_neighbour 70 = .ok (.iconst 1, 1) := by decide +kernel
theorem dX6_neighbour_71 : decode cX6_neighbour 71 = .ok (.isub, 1) := by decide +kernel
theorem dX6_neighbour_72 : decode cX6_neighbour 72 = .ok (.goto 4, 3) := by decide +kernel
theorem dX6_neighbour_75 : decode cX6_neighbour 75 = .ok (.iconst (-1), 1) := by decide +kernel
theorem dX6_neighbour_76 : decode cX6_neighbour 76 = .ok (.ireturn, 1) := by decide +kernel
theorem dX6_neighbour_77 : decode cX6_neighbour 77 = .ok (.iload_n 2, 1) := by decide +kernel
theorem dX6_neighbour_78 : decode cX6_neighbour 78 = .ok (.ifCond .le 10, 3) := by decide +kernel
theorem dX6_neighbour_81 : decode cX6_neighbour 81 = .ok (.iload_n 0, 1) := by decide +kernel
theorem dX6_neighbour_82 : decode cX6_neighbour 82 = .ok (.bipush 8, 2) := by decide +kernel
theorem dX6_neighbour_84 : decode cX6_neighbour 84 = .ok (.isub, 1) := by decide +kernel
theorem dX6_neighbour_85 : decode cX6_neighbour 85 = .ok (.goto 4, 3) := by decide +kernel
theorem dX6_neighbour_88 : decode cX6_neighbour 88 = .ok (.iconst (-1), 1) := by decide +kernel
theorem dX6_neighbour_89 : decode cX6_neighbour 89 = .ok (.ireturn, 1) := by decide +kernel
theorem dX6_stripOf_0 : decode cX6_stripOf 0 = .ok (.iload_n 1, 1) := by decide +kernel
theorem dX6_stripOf_1 : decode cX6_stripOf 1 = .ok (.ifCond .gt 10, 3) := by decide +kernel
theorem dX6_stripOf_4 : decode cX6_stripOf 4 = .ok (.aload_n 0, 1) := by decide +kernel
theorem dX6_stripOf_5 : decode cX6_stripOf 5 = .ok (.getfield 354, 3) := by decide +kernel
theorem dX6_stripOf_8 : decode cX6_stripOf 8 = .ok (.goto 13, 3) := by decide +kernel
theorem dX6_stripOf_11 : decode cX6_stripOf 11 = .ok (.aload_n 0, 1) := by decide +kernel
theorem dX6_stripOf_12 : decode cX6_stripOf 12 = .ok (.getfield 354, 3) := by decide +kernel
theorem dX6_stripOf_15 : decode cX6_stripOf 15 = .ok (.iload_n 1, 1) := by decide +kernel
theorem dX6_stripOf_16 : decode cX6_stripOf 16 = .ok (.iadd, 1) := by decide +kernel
theorem dX6_stripOf_17 : decode cX6_stripOf 17 = .ok (.iconst 1, 1) := by decide +kernel
theorem dX6_stripOf_18 : decode cX6_stripOf 18 = .ok (.isub, 1) := by decide +kernel
theorem dX6_stripOf_19 : decode cX6_stripOf 19 = .ok (.iload_n 1, 1) := by decide +kernel
theorem dX6_stripOf_20 : decode cX6_stripOf 20 = .ok (.idiv, 1) := by decide +kernel
theorem dX6_stripOf_21 : decode cX6_stripOf 21 = .ok (.ireturn, 1) := by decide +kernel
theorem dX6_canCover_0 : decode cX6_canCover 0 = .ok (.aload_n 1, 1) := by decide +kernel
theorem dX6_canCover_1 : decode cX6_canCover 1 = .ok (.getfield 355, 3) := by decide +kernel
theorem dX6_canCover_4 : decode cX6_canCover 4 = .ok (.aload_n 0, 1) := by decide +kernel
theorem dX6_canCover_5 : decode cX6_canCover 5 = .ok (.getfield 358, 3) := by decide +kernel
theorem dX6_canCover_8 : decode cX6_canCover 8 = .ok (.if_icmp .lt 7, 3) := by decide +kernel
theorem dX6_canCover_11 : decode cX6_canCover 11 = .ok (.iconst 1, 1) := by decide +kernel
theorem dX6_canCover_12 : decode cX6_canCover 12 = .ok (.goto 4, 3) := by decide +kernel
theorem dX6_canCover_15 : decode cX6_canCover 15 = .ok (.iconst 0, 1) := by decide +kernel
theorem dX6_canCover_16 : decode cX6_canCover 16 = .ok (.istore 4, 2) := by decide +kernel
theorem dX6_canCover_18 : decode cX6_canCover 18 = .ok (.iload 4, 2) := by decide +kernel
theorem dX6_canCover_20 : decode cX6_canCover 20 = .ok (.ifCond .eq 21, 3) := by decide +kernel
theorem dX6_canCover_23 : decode cX6_canCover 23 = .ok (.aload_n 1, 1) := by decide +kernel
theorem dX6_canCover_24 : decode cX6_canCover 24 = .ok (.iload_n 2, 1) := by decide +kernel
theorem dX6_canCover_25 : decode cX6_canCover 25 = .ok (.iload_n 3, 1) := by decide +kernel
theorem dX6_canCover_26 : decode cX6_canCover 26 = .ok (.aload_n 0, 1) := by decide +kernel
theorem dX6_canCover_27 : decode cX6_canCover 27 = .ok (.iload_n 3, 1) := by decide +kernel
theorem dX6_canCover_28 : decode cX6_canCover 28 = .ok (.invokestatic 359, 3) := by decide +kernel
theorem dX6_canCover_31 : decode cX6_canCover 31 = .ok (.invokevirtual 261, 3) := by decide +kernel
theorem dX6_canCover_34 : decode cX6_canCover 34 = .ok (.ifCond .eq 7, 3) := by decide +kernel
theorem dX6_canCover_37 : decode cX6_canCover 37 = .ok (.iconst 1, 1) := by decide +kernel
theorem dX6_canCover_38 : decode cX6_canCover 38 = .ok (.goto 4, 3) := by decide +kernel
theorem dX6_canCover_41 : decode cX6_canCover 41 = .ok (.iconst 0, 1) := by decide +kernel
theorem dX6_canCover_42 : decode cX6_canCover 42 = .ok (.ireturn, 1) := by decide +kernel
theorem dX6_jumpOf_0 : decode cX6_jumpOf 0 = .ok (.iload_n 3, 1) := by decide +kernel
theorem dX6_jumpOf_1 : decode cX6_jumpOf 1 = .ok (.bipush 98, 2) := by decide +kernel
theorem dX6_jumpOf_3 : decode cX6_jumpOf 3 = .ok (.if_icmp .ne 19, 3) := by decide +kernel
theorem dX6_jumpOf_6 : decode cX6_jumpOf 6 = .ok (.iload_n 2, 1) := by decide +kernel
theorem dX6_jumpOf_7 : decode cX6_jumpOf 7 = .ok (.iconst 1, 1) := by decide +kernel
theorem dX6_jumpOf_8 : decode cX6_jumpOf 8 = .ok (.if_icmp .le 14, 3) := by decide +kernel
theorem dX6_jumpOf_11 : decode cX6_jumpOf 11 = .ok (.iload_n 2, 1) := by decide +kernel
theorem dX6_jumpOf_12 : decode cX6_jumpOf 12 = .ok (.iconst 2, 1) := by decide +kernel
theorem dX6_jumpOf_13 : decode cX6_jumpOf 13 = .ok (.irem, 1) := by decide +kernel
theorem dX6_jumpOf_14 : decode cX6_jumpOf 14 = .ok (.iconst 1, 1) := by decide +kernel
theorem dX6_jumpOf_15 : decode cX6_jumpOf 15 = .ok (.if_icmp .ne 7, 3) := by decide +kernel
theorem dX6_jumpOf_18 : decode cX6_jumpOf 18 = .ok (.iconst 4, 1) := by decide +kernel
theorem dX6_jumpOf_19 : decode cX6_jumpOf 19 = .ok (.goto 4, 3) := by decide +kernel
theorem dX6_jumpOf_22 : decode cX6_jumpOf 22 = .ok (.iconst 0, 1) := by decide +kernel
theorem dX6_jumpOf_23 : decode cX6_jumpOf 23 = .ok (.istore 4, 2) := by decide +kernel
theorem dX6_jumpOf_25 : decode cX6_jumpOf 25 = .ok (.iload_n 3, 1) := by decide +kernel
theorem dX6_jumpOf_26 : decode cX6_jumpOf 26 = .ok (.bipush 115, 2) := by decide +kernel
theorem dX6_jumpOf_28 : decode cX6_jumpOf 28 = .ok (.if_icmp .ne 7, 3) := by decide +kernel
theorem dX6_jumpOf_31 : decode cX6_jumpOf 31 = .ok (.iconst 5, 1) := by decide +kernel
theorem dX6_jumpOf_32 : decode cX6_jumpOf 32 = .ok (.goto 14, 3) := by decide +kernel
theorem dX6_jumpOf_35 : decode cX6_jumpOf 35 = .ok (.iload_n 3, 1) := by decide +kernel
theorem dX6_jumpOf_36 : decode cX6_jumpOf 36 = .ok (.bipush 114, 2) := by decide +kernel
theorem dX6_jumpOf_38 : decode cX6_jumpOf 38 = .ok (.if_icmp .ne 7, 3) := by decide +kernel
theorem dX6_jumpOf_41 : decode cX6_jumpOf 41 = .ok (.iconst 3, 1) := by decide +kernel
theorem dX6_jumpOf_42 : decode cX6_jumpOf 42 = .ok (.goto 4, 3) := by decide +kernel
theorem dX6_jumpOf_45 : decode cX6_jumpOf 45 = .ok (.iconst 0, 1) := by decide +kernel
theorem dX6_jumpOf_46 : decode cX6_jumpOf 46 = .ok (.istore 5, 2) := by decide +kernel
theorem dX6_jumpOf_48 : decode cX6_jumpOf 48 = .ok (.iload_n 1, 1) := by decide +kernel
theorem dX6_jumpOf_49 : decode cX6_jumpOf 49 = .ok (.iconst 1, 1) := by decide +kernel
theorem dX6_jumpOf_50 : decode cX6_jumpOf 50 = .ok (.iadd, 1) := by decide +kernel
theorem dX6_jumpOf_51 : decode cX6_jumpOf 51 = .ok (.istore 6, 2) := by decide +kernel
theorem dX6_jumpOf_53 : decode cX6_jumpOf 53 = .ok (.iload 6, 2) := by decide +kernel
theorem dX6_jumpOf_55 : decode cX6_jumpOf 55 = .ok (.iload_n 1, 1) := by decide +kernel
theorem dX6_jumpOf_56 : decode cX6_jumpOf 56 = .ok (.iload_n 2, 1) := by decide +kernel
theorem dX6_jumpOf_57 : decode cX6_jumpOf 57 = .ok (.iadd, 1) := by decide +kernel
theorem dX6_jumpOf_58 : decode cX6_jumpOf 58 = .ok (.if_icmp .ge 35, 3) := by decide +kernel
theorem dX6_jumpOf_61 : decode cX6_jumpOf 61 = .ok (.iload 4, 2) := by decide +kernel
theorem dX6_jumpOf_63 : decode cX6_jumpOf 63 = .ok (.aload_n 0, 1) := by decide +kernel
theorem dX6_jumpOf_64 : decode cX6_jumpOf 64 = .ok (.iload 6, 2) := by decide +kernel
theorem dX6_jumpOf_66 : decode cX6_jumpOf 66 = .ok (.invokevirtual 99, 3) := by decide +kernel
theorem dX6_jumpOf_69 : decode cX6_jumpOf 69 = .ok (.aload_n 0, 1) := by decide +kernel
theorem dX6_jumpOf_70 : decode cX6_jumpOf 70 = .ok (.iload 6, 2) := by decide +kernel
theorem dX6_jumpOf_72 : decode cX6_jumpOf 72 = .ok (.iconst 1, 1) := by decide +kernel
theorem dX6_jumpOf_73 : decode cX6_jumpOf 73 = .ok (.isub, 1) := by decide +kernel
theorem dX6_jumpOf_74 : decode cX6_jumpOf 74 = .ok (.invokevirtual 99, 3) := by decide +kernel
theorem dX6_jumpOf_77 : decode cX6_jumpOf 77 = .ok (.isub, 1) := by decide +kernel
theorem dX6_jumpOf_78 : decode cX6_jumpOf 78 = .ok (.invokestatic 363, 3) := by decide +kernel
theorem dX6_jumpOf_81 : decode cX6_jumpOf 81 = .ok (.iload 5, 2) := by decide +kernel
theorem dX6_jumpOf_83 : decode cX6_jumpOf 83 = .ok (.iadd, 1) := by decide +kernel
theorem dX6_jumpOf_84 : decode cX6_jumpOf 84 = .ok (.iadd, 1) := by decide +kernel
theorem dX6_jumpOf_85 : decode cX6_jumpOf 85 = .ok (.istore 4, 2) := by decide +kernel
theorem dX6_jumpOf_87 : decode cX6_jumpOf 87 = .ok (.iinc 6 1, 3) := by decide +kernel
theorem dX6_jumpOf_90 : decode cX6_jumpOf 90 = .ok (.goto (-37), 3) := by decide +kernel
theorem dX6_jumpOf_93 : decode cX6_jumpOf 93 = .ok (.iload 4, 2) := by decide +kernel
theorem dX6_jumpOf_95 : decode cX6_jumpOf 95 = .ok (.ireturn, 1) := by decide +kernel
theorem dX6_edgeContrast_0 : decode cX6_edgeContrast 0 = .ok (.iload 4, 2) := by decide +kernel
theorem dX6_edgeContrast_2 : decode cX6_edgeContrast 2 = .ok (.ifCond .lt 17, 3) := by decide +kernel
theorem dX6_edgeContrast_5 : decode cX6_edgeContrast 5 = .ok (.aload_n 0, 1) := by decide +kernel
theorem dX6_edgeContrast_6 : decode cX6_edgeContrast 6 = .ok (.iload_n 3, 1) := by decide +kernel
theorem dX6_edgeContrast_7 : decode cX6_edgeContrast 7 = .ok (.invokevirtual 255, 3) := by decide +kernel
theorem dX6_edgeContrast_10 : decode cX6_edgeContrast 10 = .ok (.aload_n 0, 1) := by decide +kernel
theorem dX6_edgeContrast_11 : decode cX6_edgeContrast 11 = .ok (.iload 4, 2) := by decide +kernel
theorem dX6_edgeContrast_13 : decode cX6_edgeContrast 13 = .ok (.invokevirtual 255, 3) := by decide +kernel
theorem dX6_edgeContrast_16 : decode cX6_edgeContrast 16 = .ok (.if_icmp .ne 5, 3) := by decide +kernel
theorem dX6_edgeContrast_19 : decode cX6_edgeContrast 19 = .ok (.iconst 0, 1) := by decide +kernel
theorem dX6_edgeContrast_20 : decode cX6_edgeContrast 20 = .ok (.ireturn, 1) := by decide +kernel
theorem dX6_edgeContrast_21 : decode cX6_edgeContrast 21 = .ok (.aload_n 1, 1) := by decide +kernel
theorem dX6_edgeContrast_22 : decode cX6_edgeContrast 22 = .ok (.getfield 366, 3) := by decide +kernel
theorem dX6_edgeContrast_25 : decode cX6_edgeContrast 25 = .ok (.aload_n 1, 1) := by decide +kernel
theorem dX6_edgeContrast_26 : decode cX6_edgeContrast 26 = .ok (.aload_n 0, 1) := by decide +kernel
theorem dX6_edgeContrast_27 : decode cX6_edgeContrast 27 = .ok (.iload_n 3, 1) := by decide +kernel
theorem dX6_edgeContrast_28 : decode cX6_edgeContrast 28 = .ok (.invokevirtual 255, 3) := by decide +kernel
theorem dX6_edgeContrast_31 : decode cX6_edgeContrast 31 = .ok (.iload_n 2, 1) := by decide +kernel
theorem dX6_edgeContrast_32 : decode cX6_edgeContrast 32 = .ok (.invokevirtual 277, 3) := by decide +kernel
theorem dX6_edgeContrast_35 : decode cX6_edgeContrast 35 = .ok (.invokevirtual 99, 3) := by decide +kernel
theorem dX6_edgeContrast_38 : decode cX6_edgeContrast 38 = .ok (.istore 5, 2) := by decide +kernel
theorem dX6_edgeContrast_40 : decode cX6_edgeContrast 40 = .ok (.aload_n 1, 1) := by decide +kernel
theorem dX6_edgeContrast_41 : decode cX6_edgeContrast 41 = .ok (.getfield 366, 3) := by decide +kernel
theorem dX6_edgeContrast_44 : decode cX6_edgeContrast 44 = .ok (.aload_n 1, 1) := by decide +kernel
theorem dX6_edgeContrast_45 : decode cX6_edgeContrast 45 = .ok (.aload_n 0, 1) := by decide +kernel
theorem dX6_edgeContrast_46 : decode cX6_edgeContrast 46 = .ok (.iload 4, 2) := by decide +kernel
theorem dX6_edgeContrast_48 : decode cX6_edgeContrast 48 = .ok (.invokevirtual 255, 3) := by decide +kernel
theorem dX6_edgeContrast_51 : decode cX6_edgeContrast 51 = .ok (.iload_n 2, 1) := by decide +kernel
theorem dX6_edgeContrast_52 : decode cX6_edgeContrast 52 = .ok (.invokevirtual 277, 3) := by decide +kernel
theorem dX6_edgeContrast_55 : decode cX6_edgeContrast 55 = .ok (.invokevirtual 99, 3) := by decide +kernel
theorem dX6_edgeContrast_58 : decode cX6_edgeContrast 58 = .ok (.istore 6, 2) := by decide +kernel
theorem dX6_edgeContrast_60 : decode cX6_edgeContrast 60 = .ok (.iload 5, 2) := by decide +kernel
theorem dX6_edgeContrast_62 : decode cX6_edgeContrast 62 = .ok (.iload 6, 2) := by decide +kernel
theorem dX6_edgeContrast_64 : decode cX6_edgeContrast 64 = .ok (.isub, 1) := by decide +kernel
theorem dX6_edgeContrast_65 : decode cX6_edgeContrast 65 = .ok (.invokestatic 363, 3) := by decide +kernel
theorem dX6_edgeContrast_68 : decode cX6_edgeContrast 68 = .ok (.ireturn, 1) := by decide +kernel
theorem dX6_layOn_0 : decode cX6_layOn 0 = .ok (.aload_n 1, 1) := by decide +kernel
theorem dX6_layOn_1 : decode cX6_layOn 1 = .ok (.aload_n 2, 1) := by decide +kernel
theorem dX6_layOn_2 : decode cX6_layOn 2 = .ok (.getfield 177, 3) := by decide +kernel
theorem dX6_layOn_5 : decode cX6_layOn 5 = .ok (.invokestatic 359, 3) := by decide +kernel
theorem dX6_layOn_8 : decode cX6_layOn 8 = .ok (.istore_n 3, 1) := by decide +kernel
theorem dX6_layOn_9 : decode cX6_layOn 9 = .ok (.aload_n 2, 1) := by decide +kernel
theorem dX6_layOn_10 : decode cX6_layOn 10 = .ok (.getfield 366, 3) := by decide +kernel
theorem dX6_layOn_13 : decode cX6_layOn 13 = .ok (.aload_n 2, 1) := by decide +kernel
theorem dX6_layOn_14 : decode cX6_layOn 14 = .ok (.getfield 370, 3) := by decide +kernel
theorem dX6_layOn_17 : decode cX6_layOn 17 = .ok (.aload_n 2, 1) := by decide +kernel
theorem dX6_layOn_18 : decode cX6_layOn 18 = .ok (.getfield 177, 3) := by decide +kernel
theorem dX6_layOn_21 : decode cX6_layOn 21 = .ok (.invokevirtual 264, 3) := by decide +kernel
theorem dX6_layOn_24 : decode cX6_layOn 24 = .ok (.aload_n 1, 1) := by decide +kernel
theorem dX6_layOn_25 : decode cX6_layOn 25 = .ok (.invokevirtual 152, 3) := by decide +kernel
theorem dX6_layOn_28 : decode cX6_layOn 28 = .ok (.isub, 1) := by decide +kernel
theorem dX6_layOn_29 : decode cX6_layOn 29 = .ok (.istore 4, 2) := by decide +kernel
theorem dX6_layOn_31 : decode cX6_layOn 31 = .ok (.iconst 0, 1) := by decide +kernel
theorem dX6_layOn_32 : decode cX6_layOn 32 = .ok (.istore 5, 2) := by decide +kernel
theorem dX6_layOn_34 : decode cX6_layOn 34 = .ok (.iload 5, 2) := by decide +kernel
theorem dX6_layOn_36 : decode cX6_layOn 36 = .ok (.aload_n 2, 1) := by decide +kernel
theorem dX6_layOn_37 : decode cX6_layOn 37 = .ok (.getfield 177, 3) := by decide +kernel
theorem dX6_layOn_40 : decode cX6_layOn 40 = .ok (.if_icmp .ge 69, 3) := by decide +kernel
theorem dX6_layOn_43 : decode cX6_layOn 43 = .ok (.aload_n 2, 1) := by decide +kernel
theorem dX6_layOn_44 : decode cX6_layOn 44 = .ok (.getfield 366, 3) := by decide +kernel
theorem dX6_layOn_47 : decode cX6_layOn 47 = .ok (.aload_n 2, 1) := by decide +kernel
theorem dX6_layOn_48 : decode cX6_layOn 48 = .ok (.getfield 370, 3) := by decide +kernel
theorem dX6_layOn_51 : decode cX6_layOn 51 = .ok (.iload 5, 2) := by decide +kernel
theorem dX6_layOn_53 : decode cX6_layOn 53 = .ok (.iadd, 1) := by decide +kernel
theorem dX6_layOn_54 : decode cX6_layOn 54 = .ok (.invokevirtual 92, 3) := by decide +kernel
theorem dX6_layOn_57 : decode cX6_layOn 57 = .ok (.iload_n 3, 1) := by decide +kernel
theorem dX6_layOn_58 : decode cX6_layOn 58 = .ok (.isub, 1) := by decide +kernel
theorem dX6_layOn_59 : decode cX6_layOn 59 = .ok (.istore 6, 2) := by decide +kernel
theorem dX6_layOn_61 : decode cX6_layOn 61 = .ok (.iload 6, 2) := by decide +kernel
theorem dX6_layOn_63 : decode cX6_layOn 63 = .ok (.bipush 50, 2) := by decide +kernel
theorem dX6_layOn_65 : decode cX6_layOn 65 = .ok (.if_icmp .lt 38, 3) := by decide +kernel
theorem dX6_layOn_68 : decode cX6_layOn 68 = .ok (.new 296, 3) := by decide +kernel
theorem dX6_layOn_71 : decode cX6_layOn 71 = .ok (.dup, 1) := by decide +kernel
theorem dX6_layOn_72 : decode cX6_layOn 72 = .ok (.iload 6, 2) := by decide +kernel
theorem dX6_layOn_74 : decode cX6_layOn 74 = .ok (.aload_n 1, 1) := by decide +kernel
theorem dX6_layOn_75 : decode cX6_layOn 75 = .ok (.getfield 358, 3) := by decide +kernel
theorem dX6_layOn_78 : decode cX6_layOn 78 = .ok (.invokespecial 373, 3) := by decide +kernel
theorem dX6_layOn_81 : decode cX6_layOn 81 = .ok (.astore 7, 2) := by decide +kernel
theorem dX6_layOn_83 : decode cX6_layOn 83 = .ok (.aload_n 0, 1) := by decide +kernel
theorem dX6_layOn_84 : decode cX6_layOn 84 = .ok (.getfield 25, 3) := by decide +kernel
theorem dX6_layOn_87 : decode cX6_layOn 87 = .ok (.aload 7, 2) := by decide +kernel
theorem dX6_layOn_89 : decode cX6_layOn 89 = .ok (.invokevirtual 59, 3) := by decide +kernel
theorem dX6_layOn_92 : decode cX6_layOn 92 = .ok (.pop, 1) := by decide +kernel
theorem dX6_layOn_93 : decode cX6_layOn 93 = .ok (.iload 4, 2) := by decide +kernel
theorem dX6_layOn_95 : decode cX6_layOn 95 = .ok (.aload 7, 2) := by decide +kernel
theorem dX6_layOn_97 : decode cX6_layOn 97 = .ok (.invokevirtual 314, 3) := by decide +kernel
theorem dX6_layOn_100 : decode cX6_layOn 100 = .ok (.isub, 1) := by decide +kernel
theorem dX6_layOn_101 : decode cX6_layOn 101 = .ok (.istore 4, 2) := by decide +kernel
theorem dX6_layOn_103 : decode cX6_layOn 103 = .ok (.iinc 5 1, 3) := by decide +kernel
theorem dX6_layOn_106 : decode cX6_layOn 106 = .ok (.goto (-72), 3) := by decide +kernel
theorem dX6_layOn_109 : decode cX6_layOn 109 = .ok (.aload_n 0, 1) := by decide +kernel
theorem dX6_layOn_110 : decode cX6_layOn 110 = .ok (.dup, 1) := by decide +kernel
theorem dX6_layOn_111 : decode cX6_layOn 111 = .ok (.getfield 270, 3) := by decide +kernel
theorem dX6_layOn_114 : decode cX6_layOn 114 = .ok (.iload 4, 2) := by decide +kernel
theorem dX6_layOn_116 : decode cX6_layOn 116 = .ok (.iadd, 1) := by decide +kernel
theorem dX6_layOn_117 : decode cX6_layOn 117 = .ok (.putfield 270, 3) := by decide +kernel
theorem dX6_layOn_120 : decode cX6_layOn 120 = .ok (.iload 4, 2) := by decide +kernel
theorem dX6_layOn_122 : decode cX6_layOn 122 = .ok (.ireturn, 1) := by decide +kernel
theorem dX6_offcutArea_0 : decode cX6_offcutArea 0 = .ok (.iconst 0, 1) := by decide +kernel
theorem dX6_offcutArea_1 : decode cX6_offcutArea 1 = .ok (.istore_n 1, 1) := by decide +kernel
theorem dX6_offcutArea_2 : decode cX6_offcutArea 2 = .ok (.iconst 0, 1) := by decide +kernel
theorem dX6_offcutArea_3 : decode cX6_offcutArea 3 = .ok (.istore_n 2, 1) := by decide +kernel
theorem dX6_offcutArea_4 : decode cX6_offcutArea 4 = .ok (.iload_n 2, 1) := by decide +kernel
theorem dX6_offcutArea_5 : decode cX6_offcutArea 5 = .ok (.aload_n 0, 1) := by decide +kernel
theorem dX6_offcutArea_6 : decode cX6_offcutArea 6 = .ok (.getfield 25, 3) := by decide +kernel
theorem dX6_offcutArea_9 : decode cX6_offcutArea 9 = .ok (.invokevirtual 47, 3) := by decide +kernel
theorem dX6_offcutArea_12 : decode cX6_offcutArea 12 = .ok (.if_icmp .ge 26, 3) := by decide +kernel
theorem dX6_offcutArea_15 : decode cX6_offcutArea 15 = .ok (.iload_n 1, 1) := by decide +kernel
theorem dX6_offcutArea_16 : decode cX6_offcutArea 16 = .ok (.aload_n 0, 1) := by decide +kernel
theorem dX6_offcutArea_17 : decode cX6_offcutArea 17 = .ok (.getfield 25, 3) := by decide +kernel
theorem dX6_offcutArea_20 : decode cX6_offcutArea 20 = .ok (.iload_n 2, 1) := by decide +kernel
theorem dX6_offcutArea_21 : decode cX6_offcutArea 21 = .ok (.invokevirtual 216, 3) := by decide +kernel
theorem dX6_offcutArea_24 : decode cX6_offcutArea 24 = .ok (.checkcast 296, 3) := by decide +kernel
theorem dX6_offcutArea_27 : decode cX6_offcutArea 27 = .ok (.invokevirtual 314, 3) := by decide +kernel
theorem dX6_offcutArea_30 : decode cX6_offcutArea 30 = .ok (.iadd, 1) := by decide +kernel
theorem dX6_offcutArea_31 : decode cX6_offcutArea 31 = .ok (.istore_n 1, 1) := by decide +kernel
theorem dX6_offcutArea_32 : decode cX6_offcutArea 32 = .ok (.iinc 2 1, 3) := by decide +kernel
theorem dX6_offcutArea_35 : decode cX6_offcutArea 35 = .ok (.goto (-31), 3) := by decide +kernel
theorem dX6_offcutArea_38 : decode cX6_offcutArea 38 = .ok (.iload_n 1, 1) := by decide +kernel
theorem dX6_offcutArea_39 : decode cX6_offcutArea 39 = .ok (.ireturn, 1) := by decide +kernel
theorem dX6_unusedArea_0 : decode cX6_unusedArea 0 = .ok (.iconst 0, 1) := by decide +kernel
theorem dX6_unusedArea_1 : decode cX6_unusedArea 1 = .ok (.istore_n 1, 1) := by decide +kernel
theorem dX6_unusedArea_2 : decode cX6_unusedArea 2 = .ok (.iconst 0, 1) := by decide +kernel
theorem dX6_unusedArea_3 : decode cX6_unusedArea 3 = .ok (.istore_n 2, 1) := by decide +kernel
theorem dX6_unusedArea_4 : decode cX6_unusedArea 4 = .ok (.iload_n 2, 1) := by decide +kernel
theorem dX6_unusedArea_5 : decode cX6_unusedArea 5 = .ok (.aload_n 0, 1) := by decide +kernel
theorem dX6_unusedArea_6 : decode cX6_unusedArea 6 = .ok (.getfield 16, 3) := by decide +kernel
theorem dX6_unusedArea_9 : decode cX6_unusedArea 9 = .ok (.invokevirtual 47, 3) := by decide +kernel
theorem dX6_unusedArea_12 : decode cX6_unusedArea 12 = .ok (.if_icmp .ge 61, 3) := by decide +kernel
theorem dX6_unusedArea_15 : decode cX6_unusedArea 15 = .ok (.aload_n 0, 1) := by decide +kernel
theorem dX6_unusedArea_16 : decode cX6_unusedArea 16 = .ok (.getfield 16, 3) := by decide +kernel
theorem dX6_unusedArea_19 : decode cX6_unusedArea 19 = .ok (.iload_n 2, 1) := by decide +kernel
theorem dX6_unusedArea_20 : decode cX6_unusedArea 20 = .ok (.invokevirtual 216, 3) := by decide +kernel
theorem dX6_unusedArea_23 : decode cX6_unusedArea 23 = .ok (.checkcast 76, 3) := by decide +kernel
theorem dX6_unusedArea_26 : decode cX6_unusedArea 26 = .ok (.astore_n 3, 1) := by decide +kernel
theorem dX6_unusedArea_27 : decode cX6_unusedArea 27 = .ok (.iconst 0, 1) := by decide +kernel
theorem dX6_unusedArea_28 : decode cX6_unusedArea 28 = .ok (.istore 4, 2) := by decide +kernel
theorem dX6_unusedArea_30 : decode cX6_unusedArea 30 = .ok (.iload 4, 2) := by decide +kernel
theorem dX6_unusedArea_32 : decode cX6_unusedArea 32 = .ok (.aload_n 3, 1) := by decide +kernel
theorem dX6_unusedArea_33 : decode cX6_unusedArea 33 = .ok (.getfield 85, 3) := by decide +kernel
theorem dX6_unusedArea_36 : decode cX6_unusedArea 36 = .ok (.if_icmp .ge 31, 3) := by decide +kernel
theorem dX6_unusedArea_39 : decode cX6_unusedArea 39 = .ok (.iload_n 1, 1) := by decide +kernel
theorem dX6_unusedArea_40 : decode cX6_unusedArea 40 = .ok (.aload_n 3, 1) := by decide +kernel
theorem dX6_unusedArea_41 : decode cX6_unusedArea 41 = .ok (.iload 4, 2) := by decide +kernel
theorem dX6_unusedArea_43 : decode cX6_unusedArea 43 = .ok (.invokevirtual 102, 3) := by decide +kernel
theorem dX6_unusedArea_46 : decode cX6_unusedArea 46 = .ok (.ifCond .eq 7, 3) := by decide +kernel
theorem dX6_unusedArea_49 : decode cX6_unusedArea 49 = .ok (.iconst 0, 1) := by decide +kernel
theorem dX6_unusedArea_50 : decode cX6_unusedArea 50 = .ok (.goto 9, 3) := by decide +kernel
theorem dX6_unusedArea_53 : decode cX6_unusedArea 53 = .ok (.aload_n 3, 1) := by decide +kernel
theorem dX6_unusedArea_54 : decode cX6_unusedArea 54 = .ok (.iload 4, 2) := by decide +kernel
theorem dX6_unusedArea_56 : decode cX6_unusedArea 56 = .ok (.invokevirtual 96, 3) := by decide +kernel
theorem dX6_unusedArea_59 : decode cX6_unusedArea 59 = .ok (.iadd, 1) := by decide +kernel
theorem dX6_unusedArea_60 : decode cX6_unusedArea 60 = .ok (.istore_n 1, 1) := by decide +kernel
theorem dX6_unusedArea_61 : decode cX6_unusedArea 61 = .ok (.iinc 4 1, 3) := by decide +kernel
theorem dX6_unusedArea_64 : decode cX6_unusedArea 64 = .ok (.goto (-34), 3) := by decide +kernel
theorem dX6_unusedArea_67 : decode cX6_unusedArea 67 = .ok (.iinc 2 1, 3) := by decide +kernel
theorem dX6_unusedArea_70 : decode cX6_unusedArea 70 = .ok (.goto (-66), 3) := by decide +kernel
theorem dX6_unusedArea_73 : decode cX6_unusedArea 73 = .ok (.iload_n 1, 1) := by decide +kernel
theorem dX6_unusedArea_74 : decode cX6_unusedArea 74 = .ok (.ireturn, 1) := by decide +kernel
theorem dX6_areasAgree_0 : decode cX6_areasAgree 0 = .ok (.iconst 0, 1) := by decide +kernel
theorem dX6_areasAgree_1 : decode cX6_areasAgree 1 = .ok (.istore_n 1, 1) := by decide +kernel
theorem dX6_areasAgree_2 : decode cX6_areasAgree 2 = .ok (.iconst 0, 1) := by decide +kernel
theorem dX6_areasAgree_3 : decode cX6_areasAgree 3 = .ok (.istore_n 2, 1) := by decide +kernel
theorem dX6_areasAgree_4 : decode cX6_areasAgree 4 = .ok (.iload_n 2, 1) := by decide +kernel
theorem dX6_areasAgree_5 : decode cX6_areasAgree 5 = .ok (.aload_n 0, 1) := by decide +kernel
theorem dX6_areasAgree_6 : decode cX6_areasAgree 6 = .ok (.getfield 16, 3) := by decide +kernel
theorem dX6_areasAgree_9 : decode cX6_areasAgree 9 = .ok (.invokevirtual 47, 3) := by decide +kernel
theorem dX6_areasAgree_12 : decode cX6_areasAgree 12 = .ok (.if_icmp .ge 48, 3) := by decide +kernel
theorem dX6_areasAgree_15 : decode cX6_areasAgree 15 = .ok (.aload_n 0, 1) := by decide +kernel
theorem dX6_areasAgree_16 : decode cX6_areasAgree 16 = .ok (.getfield 16, 3) := by decide +kernel
theorem dX6_areasAgree_19 : decode cX6_areasAgree 19 = .ok (.iload_n 2, 1) := by decide +kernel
theorem dX6_areasAgree_20 : decode cX6_areasAgree 20 = .ok (.invokevirtual 216, 3) := by decide +kernel
theorem dX6_areasAgree_23 : decode cX6_areasAgree 23 = .ok (.checkcast 76, 3) := by decide +kernel
theorem dX6_areasAgree_26 : decode cX6_areasAgree 26 = .ok (.astore_n 3, 1) := by decide +kernel
theorem dX6_areasAgree_27 : decode cX6_areasAgree 27 = .ok (.iconst 0, 1) := by decide +kernel
theorem dX6_areasAgree_28 : decode cX6_areasAgree 28 = .ok (.istore 4, 2) := by decide +kernel
theorem dX6_areasAgree_30 : decode cX6_areasAgree 30 = .ok (.iload 4, 2) := by decide +kernel
theorem dX6_areasAgree_32 : decode cX6_areasAgree 32 = .ok (.aload_n 3, 1) := by decide +kernel
theorem dX6_areasAgree_33 : decode cX6_areasAgree 33 = .ok (.getfield 85, 3) := by decide +kernel
theorem dX6_areasAgree_36 : decode cX6_areasAgree 36 = .ok (.if_icmp .ge 18, 3) := by decide +kernel
theorem dX6_areasAgree_39 : decode cX6_areasAgree 39 = .ok (.iload_n 1, 1) := by decide +kernel
theorem dX6_areasAgree_40 : decode cX6_areasAgree 40 = .ok (.aload_n 3, 1) := by decide +kernel
theorem dX6_areasAgree_41 : decode cX6_areasAgree 41 = .ok (.iload 4, 2) := by decide +kernel
theorem dX6_areasAgree_43 : decode cX6_areasAgree 43 = .ok (.invokevirtual 96, 3) := by decide +kernel
theorem dX6_areasAgree_46 : decode cX6_areasAgree 46 = .ok (.iadd, 1) := by decide +kernel
theorem dX6_areasAgree_47 : decode cX6_areasAgree 47 = .ok (.istore_n 1, 1) := by decide +kernel
theorem dX6_areasAgree_48 : decode cX6_areasAgree 48 = .ok (.iinc 4 1, 3) := by decide +kernel
theorem dX6_areasAgree_51 : decode cX6_areasAgree 51 = .ok (.goto (-21), 3) := by decide +kernel
theorem dX6_areasAgree_54 : decode cX6_areasAgree 54 = .ok (.iinc 2 1, 3) := by decide +kernel
theorem dX6_areasAgree_57 : decode cX6_areasAgree 57 = .ok (.goto (-53), 3) := by decide +kernel
theorem dX6_areasAgree_60 : decode cX6_areasAgree 60 = .ok (.aload_n 0, 1) := by decide +kernel
theorem dX6_areasAgree_61 : decode cX6_areasAgree 61 = .ok (.getfield 149, 3) := by decide +kernel
theorem dX6_areasAgree_64 : decode cX6_areasAgree 64 = .ok (.aload_n 0, 1) := by decide +kernel
theorem dX6_areasAgree_65 : decode cX6_areasAgree 65 = .ok (.getfield 165, 3) := by decide +kernel
theorem dX6_areasAgree_68 : decode cX6_areasAgree 68 = .ok (.iadd, 1) := by decide +kernel
theorem dX6_areasAgree_69 : decode cX6_areasAgree 69 = .ok (.aload_n 0, 1) := by decide +kernel
theorem dX6_areasAgree_70 : decode cX6_areasAgree 70 = .ok (.getfield 267, 3) := by decide +kernel
theorem dX6_areasAgree_73 : decode cX6_areasAgree 73 = .ok (.iadd, 1) := by decide +kernel
theorem dX6_areasAgree_74 : decode cX6_areasAgree 74 = .ok (.istore_n 2, 1) := by decide +kernel
theorem dX6_areasAgree_75 : decode cX6_areasAgree 75 = .ok (.iload_n 1, 1) := by decide +kernel
theorem dX6_areasAgree_76 : decode cX6_areasAgree 76 = .ok (.iload_n 2, 1) := by decide +kernel
theorem dX6_areasAgree_77 : decode cX6_areasAgree 77 = .ok (.aload_n 0, 1) := by decide +kernel
theorem dX6_areasAgree_78 : decode cX6_areasAgree 78 = .ok (.invokevirtual 315, 3) := by decide +kernel
theorem dX6_areasAgree_81 : decode cX6_areasAgree 81 = .ok (.iadd, 1) := by decide +kernel
theorem dX6_areasAgree_82 : decode cX6_areasAgree 82 = .ok (.aload_n 0, 1) := by decide +kernel
theorem dX6_areasAgree_83 : decode cX6_areasAgree 83 = .ok (.getfield 311, 3) := by decide +kernel
theorem dX6_areasAgree_86 : decode cX6_areasAgree 86 = .ok (.iadd, 1) := by decide +kernel
theorem dX6_areasAgree_87 : decode cX6_areasAgree 87 = .ok (.aload_n 0, 1) := by decide +kernel
theorem dX6_areasAgree_88 : decode cX6_areasAgree 88 = .ok (.getfield 270, 3) := by decide +kernel
theorem dX6_areasAgree_91 : decode cX6_areasAgree 91 = .ok (.iadd, 1) := by decide +kernel
theorem dX6_areasAgree_92 : decode cX6_areasAgree 92 = .ok (.aload_n 0, 1) := by decide +kernel
theorem dX6_areasAgree_93 : decode cX6_areasAgree 93 = .ok (.invokevirtual 318, 3) := by decide +kernel
theorem dX6_areasAgree_96 : decode cX6_areasAgree 96 = .ok (.iadd, 1) := by decide +kernel
theorem dX6_areasAgree_97 : decode cX6_areasAgree 97 = .ok (.if_icmp .ne 7, 3) := by decide +kernel
theorem dX6_areasAgree_100 : decode cX6_areasAgree 100 = .ok (.iconst 1, 1) := by decide +kernel
theorem dX6_areasAgree_101 : decode cX6_areasAgree 101 = .ok (.goto 4, 3) := by decide +kernel
theorem dX6_areasAgree_104 : decode cX6_areasAgree 104 = .ok (.iconst 0, 1) := by decide +kernel
theorem dX6_areasAgree_105 : decode cX6_areasAgree 105 = .ok (.ireturn, 1) := by decide +kernel
theorem dX6_usesAgree_0 : decode cX6_usesAgree 0 = .ok (.iconst 0, 1) := by decide +kernel
theorem dX6_usesAgree_1 : decode cX6_usesAgree 1 = .ok (.istore_n 1, 1) := by decide +kernel
theorem dX6_usesAgree_2 : decode cX6_usesAgree 2 = .ok (.iload_n 1, 1) := by decide +kernel
theorem dX6_usesAgree_3 : decode cX6_usesAgree 3 = .ok (.aload_n 0, 1) := by decide +kernel
theorem dX6_usesAgree_4 : decode cX6_usesAgree 4 = .ok (.getfield 16, 3) := by decide +kernel
theorem dX6_usesAgree_7 : decode cX6_usesAgree 7 = .ok (.invokevirtual 47, 3) := by decide +kernel
theorem dX6_usesAgree_10 : decode cX6_usesAgree 10 = .ok (.if_icmp .ge 61, 3) := by decide +kernel
theorem dX6_usesAgree_13 : decode cX6_usesAgree 13 = .ok (.aload_n 0, 1) := by decide +kernel
theorem dX6_usesAgree_14 : decode cX6_usesAgree 14 = .ok (.getfield 16, 3) := by decide +kernel
theorem dX6_usesAgree_17 : decode cX6_usesAgree 17 = .ok (.iload_n 1, 1) := by decide +kernel
theorem dX6_usesAgree_18 : decode cX6_usesAgree 18 = .ok (.invokevirtual 216, 3) := by decide +kernel
theorem dX6_usesAgree_21 : decode cX6_usesAgree 21 = .ok (.checkcast 76, 3) := by decide +kernel
theorem dX6_usesAgree_24 : decode cX6_usesAgree 24 = .ok (.astore_n 2, 1) := by decide +kernel
theorem dX6_usesAgree_25 : decode cX6_usesAgree 25 = .ok (.iconst 0, 1) := by decide +kernel
theorem dX6_usesAgree_26 : decode cX6_usesAgree 26 = .ok (.istore_n 3, 1) := by decide +kernel
theorem dX6_usesAgree_27 : decode cX6_usesAgree 27 = .ok (.iload_n 3, 1) := by decide +kernel
theorem dX6_usesAgree_28 : decode cX6_usesAgree 28 = .ok (.aload_n 2, 1) := by decide +kernel
theorem dX6_usesAgree_29 : decode cX6_usesAgree 29 = .ok (.getfield 85, 3) := by decide +kernel
theorem dX6_usesAgree_32 : decode cX6_usesAgree 32 = .ok (.if_icmp .ge 33, 3) := by decide +kernel
theorem dX6_usesAgree_35 : decode cX6_usesAgree 35 = .ok (.aload_n 0, 1) := by decide +kernel
theorem dX6_usesAgree_36 : decode cX6_usesAgree 36 = .ok (.aload_n 2, 1) := by decide +kernel
theorem dX6_usesAgree_37 : decode cX6_usesAgree 37 = .ok (.iload_n 3, 1) := by decide +kernel
theorem dX6_usesAgree_38 : decode cX6_usesAgree 38 = .ok (.invokevirtual 376, 3) := by decide +kernel
theorem dX6_usesAgree_41 : decode cX6_usesAgree 41 = .ok (.aload_n 2, 1) := by decide +kernel
theorem dX6_usesAgree_42 : decode cX6_usesAgree 42 = .ok (.iload_n 3, 1) := by decide +kernel
theorem dX6_usesAgree_43 : decode cX6_usesAgree 43 = .ok (.invokevirtual 102, 3) := by decide +kernel
theorem dX6_usesAgree_46 : decode cX6_usesAgree 46 = .ok (.ifCond .eq 7, 3) := by decide +kernel
theorem dX6_usesAgree_49 : decode cX6_usesAgree 49 = .ok (.iconst 1, 1) := by decide +kernel
theorem dX6_usesAgree_50 : decode cX6_usesAgree 50 = .ok (.goto 4, 3) := by decide +kernel
theorem dX6_usesAgree_53 : decode cX6_usesAgree 53 = .ok (.iconst 0, 1) := by decide +kernel
theorem dX6_usesAgree_54 : decode cX6_usesAgree 54 = .ok (.if_icmp .eq 5, 3) := by decide +kernel
theorem dX6_usesAgree_57 : decode cX6_usesAgree 57 = .ok (.iconst 0, 1) := by decide +kernel
theorem dX6_usesAgree_58 : decode cX6_usesAgree 58 = .ok (.ireturn, 1) := by decide +kernel
theorem dX6_usesAgree_59 : decode cX6_usesAgree 59 = .ok (.iinc 3 1, 3) := by decide +kernel
theorem dX6_usesAgree_62 : decode cX6_usesAgree 62 = .ok (.goto (-35), 3) := by decide +kernel
theorem dX6_usesAgree_65 : decode cX6_usesAgree 65 = .ok (.iinc 1 1, 3) := by decide +kernel
theorem dX6_usesAgree_68 : decode cX6_usesAgree 68 = .ok (.goto (-66), 3) := by decide +kernel
theorem dX6_usesAgree_71 : decode cX6_usesAgree 71 = .ok (.iconst 1, 1) := by decide +kernel
theorem dX6_usesAgree_72 : decode cX6_usesAgree 72 = .ok (.ireturn, 1) := by decide +kernel
theorem dX6_countUses_0 : decode cX6_countUses 0 = .ok (.iconst 0, 1) := by decide +kernel
theorem dX6_countUses_1 : decode cX6_countUses 1 = .ok (.istore_n 3, 1) := by decide +kernel
theorem dX6_countUses_2 : decode cX6_countUses 2 = .ok (.iconst 0, 1) := by decide +kernel
theorem dX6_countUses_3 : decode cX6_countUses 3 = .ok (.istore 4, 2) := by decide +kernel
theorem dX6_countUses_5 : decode cX6_countUses 5 = .ok (.iload 4, 2) := by decide +kernel
theorem dX6_countUses_7 : decode cX6_countUses 7 = .ok (.aload_n 0, 1) := by decide +kernel
theorem dX6_countUses_8 : decode cX6_countUses 8 = .ok (.getfield 19, 3) := by decide +kernel
theorem dX6_countUses_11 : decode cX6_countUses 11 = .ok (.invokevirtual 47, 3) := by decide +kernel
theorem dX6_countUses_14 : decode cX6_countUses 14 = .ok (.if_icmp .ge 47, 3) := by decide +kernel
theorem dX6_countUses_17 : decode cX6_countUses 17 = .ok (.aload_n 0, 1) := by decide +kernel
theorem dX6_countUses_18 : decode cX6_countUses 18 = .ok (.getfield 19, 3) := by decide +kernel
theorem dX6_countUses_21 : decode cX6_countUses 21 = .ok (.iload 4, 2) := by decide +kernel
theorem dX6_countUses_23 : decode cX6_countUses 23 = .ok (.invokevirtual 216, 3) := by decide +kernel
theorem dX6_countUses_26 : decode cX6_countUses 26 = .ok (.checkcast 108, 3) := by decide +kernel
theorem dX6_countUses_29 : decode cX6_countUses 29 = .ok (.astore 5, 2) := by decide +kernel
theorem dX6_countUses_31 : decode cX6_countUses 31 = .ok (.iload_n 3, 1) := by decide +kernel
theorem dX6_countUses_32 : decode cX6_countUses 32 = .ok (.aload 5, 2) := by decide +kernel
theorem dX6_countUses_34 : decode cX6_countUses 34 = .ok (.getfield 123, 3) := by decide +kernel
theorem dX6_countUses_37 : decode cX6_countUses 37 = .ok (.aload_n 1, 1) := by decide +kernel
theorem dX6_countUses_38 : decode cX6_countUses 38 = .ok (.iload_n 2, 1) := by decide +kernel
theorem dX6_countUses_39 : decode cX6_countUses 39 = .ok (.invokestatic 380, 3) := by decide +kernel
theorem dX6_countUses_42 : decode cX6_countUses 42 = .ok (.aload 5, 2) := by decide +kernel
theorem dX6_countUses_44 : decode cX6_countUses 44 = .ok (.getfield 159, 3) := by decide +kernel
theorem dX6_countUses_47 : decode cX6_countUses 47 = .ok (.aload_n 1, 1) := by decide +kernel
theorem dX6_countUses_48 : decode cX6_countUses 48 = .ok (.iload_n 2, 1) := by decide +kernel
theorem dX6_countUses_49 : decode cX6_countUses 49 = .ok (.invokestatic 380, 3) := by decide +kernel
theorem dX6_countUses_52 : decode cX6_countUses 52 = .ok (.iadd, 1) := by decide +kernel
theorem dX6_countUses_53 : decode cX6_countUses 53 = .ok (.iadd, 1) := by decide +kernel
theorem dX6_countUses_54 : decode cX6_countUses 54 = .ok (.istore_n 3, 1) := by decide +kernel
theorem dX6_countUses_55 : decode cX6_countUses 55 = .ok (.iinc 4 1, 3) := by decide +kernel
theorem dX6_countUses_58 : decode cX6_countUses 58 = .ok (.goto (-53), 3) := by decide +kernel
theorem dX6_countUses_61 : decode cX6_countUses 61 = .ok (.iconst 0, 1) := by decide +kernel
theorem dX6_countUses_62 : decode cX6_countUses 62 = .ok (.istore 4, 2) := by decide +kernel
theorem dX6_countUses_64 : decode cX6_countUses 64 = .ok (.iload 4, 2) := by decide +kernel
theorem dX6_countUses_66 : decode cX6_countUses 66 = .ok (.aload_n 0, 1) := by decide +kernel
theorem dX6_countUses_67 : decode cX6_countUses 67 = .ok (.getfield 22, 3) := by decide +kernel
theorem dX6_countUses_70 : decode cX6_countUses 70 = .ok (.invokevirtual 47, 3) := by decide +kernel
theorem dX6_countUses_73 : decode cX6_countUses 73 = .ok (.if_icmp .ge 32, 3) := by decide +kernel
theorem dX6_countUses_76 : decode cX6_countUses 76 = .ok (.iload_n 3, 1) := by decide +kernel
theorem dX6_countUses_77 : decode cX6_countUses 77 = .ok (.aload_n 0, 1) := by decide +kernel
theorem dX6_countUses_78 : decode cX6_countUses 78 = .ok (.getfield 22, 3) := by decide +kernel
theorem dX6_countUses_81 : decode cX6_countUses 81 = .ok (.iload 4, 2) := by decide +kernel
theorem dX6_countUses_83 : decode cX6_countUses 83 = .ok (.invokevirtual 216, 3) := by decide +kernel
theorem dX6_countUses_86 : decode cX6_countUses 86 = .ok (.checkcast 226, 3) := by decide +kernel
theorem dX6_countUses_89 : decode cX6_countUses 89 = .ok (.getfield 241, 3) := by decide +kernel
theorem dX6_countUses_92 : decode cX6_countUses 92 = .ok (.aload_n 1, 1) := by decide +kernel
theorem dX6_countUses_93 : decode cX6_countUses 93 = .ok (.iload_n 2, 1) := by decide +kernel
theorem dX6_countUses_94 : decode cX6_countUses 94 = .ok (.invokestatic 380, 3) := by decide +kernel
theorem dX6_countUses_97 : decode cX6_countUses 97 = .ok (.iadd, 1) := by decide +kernel
theorem dX6_countUses_98 : decode cX6_countUses 98 = .ok (.istore_n 3, 1) := by decide +kernel
theorem dX6_countUses_99 : decode cX6_countUses 99 = .ok (.iinc 4 1, 3) := by decide +kernel
theorem dX6_countUses_102 : decode cX6_countUses 102 = .ok (.goto (-38), 3) := by decide +kernel
theorem dX6_countUses_105 : decode cX6_countUses 105 = .ok (.iload_n 3, 1) := by decide +kernel
theorem dX6_countUses_106 : decode cX6_countUses 106 = .ok (.ireturn, 1) := by decide +kernel
theorem dX6_usesIn_0 : decode cX6_usesIn 0 = .ok (.aload_n 0, 1) := by decide +kernel
theorem dX6_usesIn_1 : decode cX6_usesIn 1 = .ok (.ifnull 16, 3) := by decide +kernel
theorem dX6_usesIn_4 : decode cX6_usesIn 4 = .ok (.aload_n 0, 1) := by decide +kernel
theorem dX6_usesIn_5 : decode cX6_usesIn 5 = .ok (.aload_n 1, 1) := by decide +kernel
theorem dX6_usesIn_6 : decode cX6_usesIn 6 = .ok (.iload_n 2, 1) := by decide +kernel
theorem dX6_usesIn_7 : decode cX6_usesIn 7 = .ok (.invokevirtual 384, 3) := by decide +kernel
theorem dX6_usesIn_10 : decode cX6_usesIn 10 = .ok (.ifCond .eq 7, 3) := by decide +kernel
theorem dX6_usesIn_13 : decode cX6_usesIn 13 = .ok (.iconst 1, 1) := by decide +kernel
theorem dX6_usesIn_14 : decode cX6_usesIn 14 = .ok (.goto 4, 3) := by decide +kernel
theorem dX6_usesIn_17 : decode cX6_usesIn 17 = .ok (.iconst 0, 1) := by decide +kernel
theorem dX6_usesIn_18 : decode cX6_usesIn 18 = .ok (.ireturn, 1) := by decide +kernel
theorem dX6_placesAgree_0 : decode cX6_placesAgree 0 = .ok (.iconst 0, 1) := by decide +kernel
theorem dX6_placesAgree_1 : decode cX6_placesAgree 1 = .ok (.istore_n 1, 1) := by decide +kernel
theorem dX6_placesAgree_2 : decode cX6_placesAgree 2 = .ok (.iload_n 1, 1) := by decide +kernel
theorem dX6_placesAgree_3 : decode cX6_placesAgree 3 = .ok (.aload_n 0, 1) := by decide +kernel
theorem dX6_placesAgree_4 : decode cX6_placesAgree 4 = .ok (.getfield 22, 3) := by decide +kernel
theorem dX6_placesAgree_7 : decode cX6_placesAgree 7 = .ok (.invokevirtual 47, 3) := by decide +kernel
theorem dX6_placesAgree_10 : decode cX6_placesAgree 10 = .ok (.if_icmp .ge 30, 3) := by decide +kernel
theorem dX6_placesAgree_13 : decode cX6_placesAgree 13 = .ok (.aload_n 0, 1) := by decide +kernel
theorem dX6_placesAgree_14 : decode cX6_placesAgree 14 = .ok (.getfield 22, 3) := by decide +kernel
theorem dX6_placesAgree_17 : decode cX6_placesAgree 17 = .ok (.iload_n 1, 1) := by decide +kernel
theorem dX6_placesAgree_18 : decode cX6_placesAgree 18 = .ok (.invokevirtual 216, 3) := by decide +kernel
theorem dX6_placesAgree_21 : decode cX6_placesAgree 21 = .ok (.checkcast 226, 3) := by decide +kernel
theorem dX6_placesAgree_24 : decode cX6_placesAgree 24 = .ok (.getfield 388, 3) := by decide +kernel
theorem dX6_placesAgree_27 : decode cX6_placesAgree 27 = .ok (.bipush 64, 2) := by decide +kernel
theorem dX6_placesAgree_29 : decode cX6_placesAgree 29 = .ok (.if_icmp .eq 5, 3) := by decide +kernel
theorem dX6_placesAgree_32 : decode cX6_placesAgree 32 = .ok (.iconst 0, 1) := by decide +kernel
theorem dX6_placesAgree_33 : decode cX6_placesAgree 33 = .ok (.ireturn, 1) := by decide +kernel
theorem dX6_placesAgree_34 : decode cX6_placesAgree 34 = .ok (.iinc 1 1, 3) := by decide +kernel
theorem dX6_placesAgree_37 : decode cX6_placesAgree 37 = .ok (.goto (-35), 3) := by decide +kernel
theorem dX6_placesAgree_40 : decode cX6_placesAgree 40 = .ok (.iconst 1, 1) := by decide +kernel
theorem dX6_placesAgree_41 : decode cX6_placesAgree 41 = .ok (.ireturn, 1) := by decide +kernel
theorem dX7_init_0 : decode cX7_init 0 = .ok (.aload_n 0, 1) := by decide +kernel
theorem dX7_init_1 : decode cX7_init 1 = .ok (.invokespecial 1, 3) := by decide +kernel
theorem dX7_init_4 : decode cX7_init 4 = .ok (.aload_n 0, 1) := by decide +kernel
theorem dX7_init_5 : decode cX7_init 5 = .ok (.aload_n 1, 1) := by decide +kernel
theorem dX7_init_6 : decode cX7_init 6 = .ok (.putfield 7, 3) := by decide +kernel
theorem dX7_init_9 : decode cX7_init 9 = .ok (.aload_n 0, 1) := by decide +kernel
theorem dX7_init_10 : decode cX7_init 10 = .ok (.iload_n 2, 1) := by decide +kernel
theorem dX7_init_11 : decode cX7_init 11 = .ok (.putfield 13, 3) := by decide +kernel
theorem dX7_init_14 : decode cX7_init 14 = .ok (.aload_n 0, 1) := by decide +kernel
theorem dX7_init_15 : decode cX7_init 15 = .ok (.iload_n 3, 1) := by decide +kernel
theorem dX7_init_16 : decode cX7_init 16 = .ok (.putfield 17, 3) := by decide +kernel
theorem dX7_init_19 : decode cX7_init 19 = .ok (.aload_n 1, 1) := by decide +kernel
theorem dX7_init_20 : decode cX7_init 20 = .ok (.getfield 21, 3) := by decide +kernel
theorem dX7_init_23 : decode cX7_init 23 = .ok (.iconst 2, 1) := by decide +kernel
theorem dX7_init_24 : decode cX7_init 24 = .ok (.idiv, 1) := by decide +kernel
theorem dX7_init_25 : decode cX7_init 25 = .ok (.istore 4, 2) := by decide +kernel
theorem dX7_init_27 : decode cX7_init 27 = .ok (.iload_n 2, 1) := by decide +kernel
theorem dX7_init_28 : decode cX7_init 28 = .ok (.bipush 102, 2) := by decide +kernel
theorem dX7_init_30 : decode cX7_init 30 = .ok (.if_icmp .ne 17, 3) := by decide +kernel
theorem dX7_init_33 : decode cX7_init 33 = .ok (.bipush 10, 2) := by decide +kernel
theorem dX7_init_35 : decode cX7_init 35 = .ok (.iload 4, 2) := by decide +kernel
theorem dX7_init_37 : decode cX7_init 37 = .ok (.iconst 2, 1) := by decide +kernel
theorem dX7_init_38 : decode cX7_init 38 = .ok (.idiv, 1) := by decide +kernel
theorem dX7_init_39 : decode cX7_init 39 = .ok (.imul, 1) := by decide +kernel
theorem dX7_init_40 : decode cX7_init 40 = .ok (.iload_n 3, 1) := by decide +kernel
theorem dX7_init_41 : decode cX7_init 41 = .ok (.idiv, 1) := by decide +kernel
theorem dX7_init_42 : decode cX7_init 42 = .ok (.iconst 1, 1) := by decide +kernel
theorem dX7_init_43 : decode cX7_init 43 = .ok (.iadd, 1) := by decide +kernel
theorem dX7_init_44 : decode cX7_init 44 = .ok (.goto 10, 3) := by decide +kernel
theorem dX7_init_47 : decode cX7_init 47 = .ok (.bipush 10, 2) := by decide +kernel
theorem dX7_init_49 : decode cX7_init 49 = .ok (.iload 4, 2) := by decide +kernel
theorem dX7_init_51 : decode cX7_init 51 = .ok (.imul, 1) := by decide +kernel
theorem dX7_init_52 : decode cX7_init 52 = .ok (.iload_n 3, 1) := by decide +kernel
theorem dX7_init_53 : decode cX7_init 53 = .ok (.idiv, 1) := by decide +kernel
theorem dX7_init_54 : decode cX7_init 54 = .ok (.istore 5, 2) := by decide +kernel
theorem dX7_init_56 : decode cX7_init 56 = .ok (.aload_n 0, 1) := by decide +kernel
theorem dX7_init_57 : decode cX7_init 57 = .ok (.bipush 24, 2) := by decide +kernel
theorem dX7_init_59 : decode cX7_init 59 = .ok (.iload 5, 2) := by decide +kernel
theorem dX7_init_61 : decode cX7_init 61 = .ok (.invokestatic 26, 3) := by decide +kernel
theorem dX7_init_64 : decode cX7_init 64 = .ok (.newarray .boolean, 2) := by decide +kernel
theorem dX7_init_66 : decode cX7_init 66 = .ok (.putfield 32, 3) := by decide +kernel
theorem dX7_init_69 : decode cX7_init 69 = .ok (.return_, 1) := by decide +kernel
theorem dX7_width_0 : decode cX7_width 0 = .ok (.aload_n 0, 1) := by decide +kernel
theorem dX7_width_1 : decode cX7_width 1 = .ok (.getfield 7, 3) := by decide +kernel
theorem dX7_width_4 : decode cX7_width 4 = .ok (.getfield 21, 3) := by decide +kernel
theorem dX7_width_7 : decode cX7_width 7 = .ok (.iconst 2, 1) := by decide +kernel
theorem dX7_width_8 : decode cX7_width 8 = .ok (.idiv, 1) := by decide +kernel
theorem dX7_width_9 : decode cX7_width 9 = .ok (.istore_n 2, 1) := by decide +kernel
theorem dX7_width_10 : decode cX7_width 10 = .ok (.iload_n 1, 1) := by decide +kernel
theorem dX7_width_11 : decode cX7_width 11 = .ok (.aload_n 0, 1) := by decide +kernel
theorem dX7_width_12 : decode cX7_width 12 = .ok (.getfield 17, 3) := by decide +kernel
theorem dX7_width_15 : decode cX7_width 15 = .ok (.imul, 1) := by decide +kernel
theorem dX7_width_16 : decode cX7_width 16 = .ok (.bipush 10, 2) := by decide +kernel
theorem dX7_width_18 : decode cX7_width 18 = .ok (.idiv, 1) := by decide +kernel
theorem dX7_width_19 : decode cX7_width 19 = .ok (.istore_n 3, 1) := by decide +kernel
theorem dX7_width_20 : decode cX7_width 20 = .ok (.aload_n 0, 1) := by decide +kernel
theorem dX7_width_21 : decode cX7_width 21 = .ok (.getfield 13, 3) := by decide +kernel
theorem dX7_width_24 : decode cX7_width 24 = .ok (.bipush 102, 2) := by decide +kernel
theorem dX7_width_26 : decode cX7_width 26 = .ok (.if_icmp .ne 25, 3) := by decide +kernel
theorem dX7_width_29 : decode cX7_width 29 = .ok (.iload_n 2, 1) := by decide +kernel
theorem dX7_width_30 : decode cX7_width 30 = .ok (.iconst 2, 1) := by decide +kernel
theorem dX7_width_31 : decode cX7_width 31 = .ok (.idiv, 1) := by decide +kernel
theorem dX7_width_32 : decode cX7_width 32 = .ok (.iload_n 3, 1) := by decide +kernel
theorem dX7_width_33 : decode cX7_width 33 = .ok (.isub, 1) := by decide +kernel
theorem dX7_width_34 : decode cX7_width 34 = .ok (.istore 4, 2) := by decide +kernel
theorem dX7_width_36 : decode cX7_width 36 = .ok (.iconst 2, 1) := by decide +kernel
theorem dX7_width_37 : decode cX7_width 37 = .ok (.iload_n 2, 1) := by decide +kernel
theorem dX7_width_38 : decode cX7_width 38 = .ok (.iload_n 2, 1) := by decide +kernel
theorem dX7_width_39 : decode cX7_width 39 = .ok (.imul, 1) := by decide +kernel
theorem dX7_width_40 : decode cX7_width 40 = .ok (.iload 4, 2) := by decide +kernel
theorem dX7_width_42 : decode cX7_width 42 = .ok (.iload 4, 2) := by decide +kernel
theorem dX7_width_44 : decode cX7_width 44 = .ok (.imul, 1) := by decide +kernel
theorem dX7_width_45 : decode cX7_width 45 = .ok (.isub, 1) := by decide +kernel
theorem dX7_width_46 : decode cX7_width 46 = .ok (.invokestatic 36, 3) := by decide +kernel
theorem dX7_width_49 : decode cX7_width 49 = .ok (.imul, 1) := by decide +kernel
theorem dX7_width_50 : decode cX7_width 50 = .ok (.ireturn, 1) := by decide +kernel
theorem dX7_width_51 : decode cX7_width 51 = .ok (.aload_n 0, 1) := by decide +kernel
theorem dX7_width_52 : decode cX7_width 52 = .ok (.getfield 13, 3) := by decide +kernel
theorem dX7_width_55 : decode cX7_width 55 = .ok (.bipush 113, 2) := by decide +kernel
theorem dX7_width_57 : decode cX7_width 57 = .ok (.if_icmp .ne 10, 3) := by decide +kernel
theorem dX7_width_60 : decode cX7_width 60 = .ok (.iload_n 2, 1) := by decide +kernel
theorem dX7_width_61 : decode cX7_width 61 = .ok (.bipush 20, 2) := by decide +kernel
theorem dX7_width_63 : decode cX7_width 63 = .ok (.isub, 1) := by decide +kernel
theorem dX7_width_64 : decode cX7_width 64 = .ok (.goto 37, 3) := by decide +kernel
theorem dX7_width_67 : decode cX7_width 67 = .ok (.aload_n 0, 1) := by decide +kernel
theorem dX7_width_68 : decode cX7_width 68 = .ok (.getfield 13, 3) := by decide +kernel
theorem dX7_width_71 : decode cX7_width 71 = .ok (.bipush 114, 2) := by decide +kernel
theorem dX7_width_73 : decode cX7_width 73 = .ok (.if_icmp .ne 14, 3) := by decide +kernel
theorem dX7_width_76 : decode cX7_width 76 = .ok (.iload_n 2, 1) := by decide +kernel
theorem dX7_width_77 : decode cX7_width 77 = .ok (.bipush 20, 2) := by decide +kernel
theorem dX7_width_79 : decode cX7_width 79 = .ok (.isub, 1) := by decide +kernel
theorem dX7_width_80 : decode cX7_width 80 = .ok (.iconst 4, 1) := by decide +kernel
theorem dX7_width_81 : decode cX7_width 81 = .ok (.imul, 1) := by decide +kernel
theorem dX7_width_82 : decode cX7_width 82 = .ok (.iconst 5, 1) := by decide +kernel
theorem dX7_width_83 : decode cX7_width 83 = .ok (.idiv, 1) := by decide +kernel
theorem dX7_width_84 : decode cX7_width 84 = .ok (.goto 17, 3) := by decide +kernel
theorem dX7_width_87 : decode cX7_width 87 = .ok (.iconst 3, 1) := by decide +kernel
theorem dX7_width_88 : decode cX7_width 88 = .ok (.aload_n 0, 1) := by decide +kernel
theorem dX7_width_89 : decode cX7_width 89 = .ok (.getfield 7, 3) := by decide +kernel
theorem dX7_width_92 : decode cX7_width 92 = .ok (.getfield 21, 3) := by decide +kernel
theorem dX7_width_95 : decode cX7_width 95 = .ok (.imul, 1) := by decide +kernel
theorem dX7_width_96 : decode cX7_width 96 = .ok (.bipush 6, 2) := by decide +kernel
theorem dX7_width_98 : decode cX7_width 98 = .ok (.iload_n 3, 1) := by decide +kernel
theorem dX7_width_99 : decode cX7_width 99 = .ok (.imul, 1) := by decide +kernel
theorem dX7_width_100 : decode cX7_width 100 = .ok (.isub, 1) := by decide +kernel
theorem dX7_width_101 : decode cX7_width 101 = .ok (.ireturn, 1) := by decide +kernel
theorem dX7_area_0 : decode cX7_area 0 = .ok (.aload_n 0, 1) := by decide +kernel
theorem dX7_area_1 : decode cX7_area 1 = .ok (.iload_n 1, 1) := by decide +kernel
theorem dX7_area_2 : decode cX7_area 2 = .ok (.invokevirtual 42, 3) := by decide +kernel
theorem dX7_area_5 : decode cX7_area 5 = .ok (.aload_n 0, 1) := by decide +kernel
theorem dX7_area_6 : decode cX7_area 6 = .ok (.getfield 7, 3) := by decide +kernel
theorem dX7_area_9 : decode cX7_area 9 = .ok (.getfield 45, 3) := by decide +kernel
theorem dX7_area_12 : decode cX7_area 12 = .ok (.imul, 1) := by decide +kernel
theorem dX7_area_13 : decode cX7_area 13 = .ok (.ireturn, 1) := by decide +kernel
theorem dX7_figure_0 : decode cX7_figure 0 = .ok (.aload_n 0, 1) := by decide +kernel
theorem dX7_figure_1 : decode cX7_figure 1 = .ok (.getfield 7, 3) := by decide +kernel
theorem dX7_figure_4 : decode cX7_figure 4 = .ok (.getfield 48, 3) := by decide +kernel
theorem dX7_figure_7 : decode cX7_figure 7 = .ok (.bipush 112, 2) := by decide +kernel
theorem dX7_figure_9 : decode cX7_figure 9 = .ok (.if_icmp .ne 8, 3) := by decide +kernel
theorem dX7_figure_12 : decode cX7_figure 12 = .ok (.bipush 10, 2) := by decide +kernel
theorem dX7_figure_14 : decode cX7_figure 14 = .ok (.goto 22, 3) := by decide +kernel
theorem dX7_figure_17 : decode cX7_figure 17 = .ok (.aload_n 0, 1) := by decide +kernel
theorem dX7_figure_18 : decode cX7_figure 18 = .ok (.getfield 7, 3) := by decide +kernel
theorem dX7_figure_21 : decode cX7_figure 21 = .ok (.getfield 48, 3) := by decide +kernel
theorem dX7_figure_24 : decode cX7_figure 24 = .ok (.bipush 99, 2) := by decide +kernel
theorem dX7_figure_26 : decode cX7_figure 26 = .ok (.if_icmp .ne 8, 3) := by decide +kernel
theorem dX7_figure_29 : decode cX7_figure 29 = .ok (.bipush 40, 2) := by decide +kernel
theorem dX7_figure_31 : decode cX7_figure 31 = .ok (.goto 5, 3) := by decide +kernel
theorem dX7_figure_34 : decode cX7_figure 34 = .ok (.bipush 60, 2) := by decide +kernel
theorem dX7_figure_36 : decode cX7_figure 36 = .ok (.istore_n 2, 1) := by decide +kernel
theorem dX7_figure_37 : decode cX7_figure 37 = .ok (.aload_n 0, 1) := by decide +kernel
theorem dX7_figure_38 : decode cX7_figure 38 = .ok (.getfield 13, 3) := by decide +kernel
theorem dX7_figure_41 : decode cX7_figure 41 = .ok (.bipush 102, 2) := by decide +kernel
theorem dX7_figure_43 : decode cX7_figure 43 = .ok (.if_icmp .ne 16, 3) := by decide +kernel
theorem dX7_figure_46 : decode cX7_figure 46 = .ok (.iload_n 2, 1) := by decide +kernel
theorem dX7_figure_47 : decode cX7_figure 47 = .ok (.bipush 15, 2) := by decide +kernel
theorem dX7_figure_49 : decode cX7_figure 49 = .ok (.iload_n 1, 1) := by decide +kernel
theorem dX7_figure_50 : decode cX7_figure 50 = .ok (.bipush 8, 2) := by decide +kernel
theorem dX7_figure_52 : decode cX7_figure 52 = .ok (.irem, 1) := by decide +kernel
theorem dX7_figure_53 : decode cX7_figure 53 = .ok (.isub, 1) := by decide +kernel
theorem dX7_figure_54 : decode cX7_figure 54 = .ok (.iadd, 1) := by decide +kernel
theorem dX7_figure_55 : decode cX7_figure 55 = .ok (.istore_n 2, 1) := by decide +kernel
theorem dX7_figure_56 : decode cX7_figure 56 = .ok (.goto 89, 3) := by decide +kernel
theorem dX7_figure_59 : decode cX7_figure 59 = .ok (.aload_n 0, 1) := by decide +kernel
theorem dX7_figure_60 : decode cX7_figure 60 = .ok (.getfield 13, 3) := by decide +kernel
theorem dX7_figure_63 : decode cX7_figure 63 = .ok (.bipush 113, 2) := by decide +kernel
theorem dX7_figure_65 : decode cX7_figure 65 = .ok (.if_icmp .ne 37, 3) := by decide +kernel
theorem dX7_figure_68 : decode cX7_figure 68 = .ok (.iload_n 2, 1) := by decide +kernel
theorem dX7_figure_69 : decode cX7_figure 69 = .ok (.aload_n 0, 1) := by decide +kernel
theorem dX7_figure_70 : decode cX7_figure 70 = .ok (.getfield 7, 3) := by decide +kernel
theorem dX7_figure_73 : decode cX7_figure 73 = .ok (.getfield 51, 3) := by decide +kernel
theorem dX7_figure_76 : decode cX7_figure 76 = .ok (.iconst 2, 1) := by decide +kernel
theorem dX7_figure_77 : decode cX7_figure 77 = .ok (.if_icmp .ne 8, 3) := by decide +kernel
theorem dX7_figure_80 : decode cX7_figure 80 = .ok (.bipush 30, 2) := by decide +kernel
theorem dX7_figure_82 : decode cX7_figure 82 = .ok (.goto 5, 3) := by decide +kernel
theorem dX7_figure_85 : decode cX7_figure 85 = .ok (.bipush 10, 2) := by decide +kernel
theorem dX7_figure_87 : decode cX7_figure 87 = .ok (.iload_n 1, 1) := by decide +kernel
theorem dX7_figure_88 : decode cX7_figure 88 = .ok (.bipush 12, 2) := by decide +kernel
theorem dX7_figure_90 : decode cX7_figure 90 = .ok (.isub, 1) := by decide +kernel
theorem dX7_figure_91 : decode cX7_figure 91 = .ok (.invokestatic 54, 3) := by decide +kernel
theorem dX7_figure_94 : decode cX7_figure 94 = .ok (.iconst 2, 1) := by decide +kernel
theorem dX7_figure_95 : decode cX7_figure 95 = .ok (.idiv, 1) := by decide +kernel
theorem dX7_figure_96 : decode cX7_figure 96 = .ok (.isub, 1) := by decide +kernel
theorem dX7_figure_97 : decode cX7_figure 97 = .ok (.iadd, 1) := by decide +kernel
theorem dX7_figure_98 : decode cX7_figure 98 = .ok (.istore_n 2, 1) := by decide +kernel
theorem dX7_figure_99 : decode cX7_figure 99 = .ok (.goto 46, 3) := by decide +kernel
theorem dX7_figure_102 : decode cX7_figure 102 = .ok (.aload_n 0, 1) := by decide +kernel
theorem dX7_figure_103 : decode cX7_figure 103 = .ok (.getfield 13, 3) := by decide +kernel
theorem dX7_figure_106 : decode cX7_figure 106 = .ok (.bipush 114, 2) := by decide +kernel
theorem dX7_figure_108 : decode cX7_figure 108 = .ok (.if_icmp .ne 9, 3) := by decide +kernel
theorem dX7_figure_111 : decode cX7_figure 111 = .ok (.iinc 2 5, 3) := by decide +kernel
theorem dX7_figure_114 : decode cX7_figure 114 = .ok (.goto 31, 3) := by decide +kernel
theorem dX7_figure_117 : decode cX7_figure 117 = .ok (.iload_n 2, 1) := by decide +kernel
theorem dX7_figure_118 : decode cX7_figure 118 = .ok (.bipush 20, 2) := by decide +kernel
theorem dX7_figure_120 : decode cX7_figure 120 = .ok (.aload_n 0, 1) := by decide +kernel
theorem dX7_figure_121 : decode cX7_figure 121 = .ok (.getfield 7, 3) := by decide +kernel
theorem dX7_figure_124 : decode cX7_figure 124 = .ok (.getfield 48, 3) := by decide +kernel
theorem dX7_figure_127 : decode cX7_figure 127 = .ok (.bipush 98, 2) := by decide +kernel
theorem dX7_figure_129 : decode cX7_figure 129 = .ok (.if_icmp .ne 8, 3) := by decide +kernel
theorem dX7_figure_132 : decode cX7_figure 132 = .ok (.bipush 30, 2) := by decide +kernel
theorem dX7_figure_134 : decode cX7_figure 134 = .ok (.goto 4, 3) := by decide +kernel
theorem dX7_figure_137 : decode cX7_figure 137 = .ok (.iconst 0, 1) := by decide +kernel
theorem dX7_figure_138 : decode cX7_figure 138 = .ok (.iadd, 1) := by decide +kernel
theorem dX7_figure_139 : decode cX7_figure 139 = .ok (.iload_n 1, 1) := by decide +kernel
theorem dX7_figure_140 : decode cX7_figure 140 = .ok (.iconst 2, 1) := by decide +kernel
theorem dX7_figure_141 : decode cX7_figure 141 = .ok (.idiv, 1) := by decide +kernel
theorem dX7_figure_142 : decode cX7_figure 142 = .ok (.isub, 1) := by decide +kernel
theorem dX7_figure_143 : decode cX7_figure 143 = .ok (.iadd, 1) := by decide +kernel
theorem dX7_figure_144 : decode cX7_figure 144 = .ok (.istore_n 2, 1) := by decide +kernel
theorem dX7_figure_145 : decode cX7_figure 145 = .ok (.iconst 0, 1) := by decide +kernel
theorem dX7_figure_146 : decode cX7_figure 146 = .ok (.bipush 99, 2) := by decide +kernel
theorem dX7_figure_148 : decode cX7_figure 148 = .ok (.iload_n 2, 1) := by decide +kernel
theorem dX7_figure_149 : decode cX7_figure 149 = .ok (.invokestatic 26, 3) := by decide +kernel
theorem dX7_figure_152 : decode cX7_figure 152 = .ok (.invokestatic 57, 3) := by decide +kernel
theorem dX7_figure_155 : decode cX7_figure 155 = .ok (.ireturn, 1) := by decide +kernel
theorem dX8_init_0 : decode cX8_init 0 = .ok (.aload_n 0, 1) := by decide +kernel
theorem dX8_init_1 : decode cX8_init 1 = .ok (.invokespecial 1, 3) := by decide +kernel
theorem dX8_init_4 : decode cX8_init 4 = .ok (.aload_n 0, 1) := by decide +kernel
theorem dX8_init_5 : decode cX8_init 5 = .ok (.aload_n 1, 1) := by decide +kernel
theorem dX8_init_6 : decode cX8_init 6 = .ok (.putfield 7, 3) := by decide +kernel
theorem dX8_init_9 : decode cX8_init 9 = .ok (.aload_n 0, 1) := by decide +kernel
theorem dX8_init_10 : decode cX8_init 10 = .ok (.iload_n 2, 1) := by decide +kernel
theorem dX8_init_11 : decode cX8_init 11 = .ok (.putfield 13, 3) := by decide +kernel
theorem dX8_init_14 : decode cX8_init 14 = .ok (.aload_n 0, 1) := by decide +kernel
theorem dX8_init_15 : decode cX8_init 15 = .ok (.iload_n 3, 1) := by decide +kernel
theorem dX8_init_16 : decode cX8_init 16 = .ok (.putfield 17, 3) := by decide +kernel
theorem dX8_init_19 : decode cX8_init 19 = .ok (.return_, 1) := by decide +kernel
theorem dX8_jump_0 : decode cX8_jump 0 = .ok (.iload_n 1, 1) := by decide +kernel
theorem dX8_jump_1 : decode cX8_jump 1 = .ok (.bipush 98, 2) := by decide +kernel
theorem dX8_jump_3 : decode cX8_jump 3 = .ok (.if_icmp .ne 25, 3) := by decide +kernel
theorem dX8_jump_6 : decode cX8_jump 6 = .ok (.aload_n 0, 1) := by decide +kernel
theorem dX8_jump_7 : decode cX8_jump 7 = .ok (.getfield 17, 3) := by decide +kernel
theorem dX8_jump_10 : decode cX8_jump 10 = .ok (.iconst 2, 1) := by decide +kernel
theorem dX8_jump_11 : decode cX8_jump 11 = .ok (.irem, 1) := by decide +kernel
theorem dX8_jump_12 : decode cX8_jump 12 = .ok (.iconst 1, 1) := by decide +kernel
theorem dX8_jump_13 : decode cX8_jump 13 = .ok (.if_icmp .ne 15, 3) := by decide +kernel
theorem dX8_jump_16 : decode cX8_jump 16 = .ok (.aload_n 0, 1) := by decide +kernel
theorem dX8_jump_17 : decode cX8_jump 17 = .ok (.getfield 17, 3) := by decide +kernel
theorem dX8_jump_20 : decode cX8_jump 20 = .ok (.iconst 1, 1) := by decide +kernel
theorem dX8_jump_21 : decode cX8_jump 21 = .ok (.if_icmp .le 7, 3) := by decide +kernel
theorem dX8_jump_24 : decode cX8_jump 24 = .ok (.iconst 4, 1) := by decide +kernel
theorem dX8_jump_25 : decode cX8_jump 25 = .ok (.goto 4, 3) := by decide +kernel
theorem dX8_jump_28 : decode cX8_jump 28 = .ok (.iconst 0, 1) := by decide +kernel
theorem dX8_jump_29 : decode cX8_jump 29 = .ok (.istore_n 2, 1) := by decide +kernel
theorem dX8_jump_30 : decode cX8_jump 30 = .ok (.iconst 1, 1) := by decide +kernel
theorem dX8_jump_31 : decode cX8_jump 31 = .ok (.istore_n 3, 1) := by decide +kernel
theorem dX8_jump_32 : decode cX8_jump 32 = .ok (.iload_n 3, 1) := by decide +kernel
theorem dX8_jump_33 : decode cX8_jump 33 = .ok (.aload_n 0, 1) := by decide +kernel
theorem dX8_jump_34 : decode cX8_jump 34 = .ok (.getfield 17, 3) := by decide +kernel
theorem dX8_jump_37 : decode cX8_jump 37 = .ok (.if_icmp .ge 66, 3) := by decide +kernel
theorem dX8_jump_40 : decode cX8_jump 40 = .ok (.iload_n 2, 1) := by decide +kernel
theorem dX8_jump_41 : decode cX8_jump 41 = .ok (.aload_n 0, 1) := by decide +kernel
theorem dX8_jump_42 : decode cX8_jump 42 = .ok (.getfield 7, 3) := by decide +kernel
theorem dX8_jump_45 : decode cX8_jump 45 = .ok (.aload_n 0, 1) := by decide +kernel
theorem dX8_jump_46 : decode cX8_jump 46 = .ok (.getfield 13, 3) := by decide +kernel
theorem dX8_jump_49 : decode cX8_jump 49 = .ok (.iload_n 3, 1) := by decide +kernel
theorem dX8_jump_50 : decode cX8_jump 50 = .ok (.iadd, 1) := by decide +kernel
theorem dX8_jump_51 : decode cX8_jump 51 = .ok (.invokevirtual 20, 3) := by decide +kernel
theorem dX8_jump_54 : decode cX8_jump 54 = .ok (.aload_n 0, 1) := by decide +kernel
theorem dX8_jump_55 : decode cX8_jump 55 = .ok (.getfield 7, 3) := by decide +kernel
theorem dX8_jump_58 : decode cX8_jump 58 = .ok (.aload_n 0, 1) := by decide +kernel
theorem dX8_jump_59 : decode cX8_jump 59 = .ok (.getfield 13, 3) := by decide +kernel
theorem dX8_jump_62 : decode cX8_jump 62 = .ok (.iload_n 3, 1) := by decide +kernel
theorem dX8_jump_63 : decode cX8_jump 63 = .ok (.iadd, 1) := by decide +kernel
theorem dX8_jump_64 : decode cX8_jump 64 = .ok (.iconst 1, 1) := by decide +kernel
theorem dX8_jump_65 : decode cX8_jump 65 = .ok (.isub, 1) := by decide +kernel
theorem dX8_jump_66 : decode cX8_jump 66 = .ok (.invokevirtual 20, 3) := by decide +kernel
theorem dX8_jump_69 : decode cX8_jump 69 = .ok (.isub, 1) := by decide +kernel
theorem dX8_jump_70 : decode cX8_jump 70 = .ok (.invokestatic 26, 3) := by decide +kernel
theorem dX8_jump_73 : decode cX8_jump 73 = .ok (.iload_n 1, 1) := by decide +kernel
theorem dX8_jump_74 : decode cX8_jump 74 = .ok (.bipush 115, 2) := by decide +kernel
theorem dX8_jump_76 : decode cX8_jump 76 = .ok (.if_icmp .ne 7, 3) := by decide +kernel
theorem dX8_jump_79 : decode cX8_jump 79 = .ok (.iconst 5, 1) := by decide +kernel
theorem dX8_jump_80 : decode cX8_jump 80 = .ok (.goto 14, 3) := by decide +kernel
theorem dX8_jump_83 : decode cX8_jump 83 = .ok (.iload_n 1, 1) := by decide +kernel
theorem dX8_jump_84 : decode cX8_jump 84 = .ok (.bipush 114, 2) := by decide +kernel
theorem dX8_jump_86 : decode cX8_jump 86 = .ok (.if_icmp .ne 7, 3) := by decide +kernel
theorem dX8_jump_89 : decode cX8_jump 89 = .ok (.iconst 3, 1) := by decide +kernel
theorem dX8_jump_90 : decode cX8_jump 90 = .ok (.goto 4, 3) := by decide +kernel
theorem dX8_jump_93 : decode cX8_jump 93 = .ok (.iconst 0, 1) := by decide +kernel
theorem dX8_jump_94 : decode cX8_jump 94 = .ok (.iadd, 1) := by decide +kernel
theorem dX8_jump_95 : decode cX8_jump 95 = .ok (.iadd, 1) := by decide +kernel
theorem dX8_jump_96 : decode cX8_jump 96 = .ok (.istore_n 2, 1) := by decide +kernel
theorem dX8_jump_97 : decode cX8_jump 97 = .ok (.iinc 3 1, 3) := by decide +kernel
theorem dX8_jump_100 : decode cX8_jump 100 = .ok (.goto (-68), 3) := by decide +kernel
theorem dX8_jump_103 : decode cX8_jump 103 = .ok (.iload_n 2, 1) := by decide +kernel
theorem dX8_jump_104 : decode cX8_jump 104 = .ok (.ireturn, 1) := by decide +kernel
theorem dX9_init_0 : decode cX9_init 0 = .ok (.aload_n 0, 1) := by decide +kernel
theorem dX9_init_1 : decode cX9_init 1 = .ok (.invokespecial 1, 3) := by decide +kernel
theorem dX9_init_4 : decode cX9_init 4 = .ok (.aload_n 0, 1) := by decide +kernel
theorem dX9_init_5 : decode cX9_init 5 = .ok (.iload_n 1, 1) := by decide +kernel
theorem dX9_init_6 : decode cX9_init 6 = .ok (.putfield 7, 3) := by decide +kernel
theorem dX9_init_9 : decode cX9_init 9 = .ok (.aload_n 0, 1) := by decide +kernel
theorem dX9_init_10 : decode cX9_init 10 = .ok (.iload_n 2, 1) := by decide +kernel
theorem dX9_init_11 : decode cX9_init 11 = .ok (.putfield 13, 3) := by decide +kernel
theorem dX9_init_14 : decode cX9_init 14 = .ok (.aload_n 0, 1) := by decide +kernel
theorem dX9_init_15 : decode cX9_init 15 = .ok (.iload_n 3, 1) := by decide +kernel
theorem dX9_init_16 : decode cX9_init 16 = .ok (.putfield 16, 3) := by decide +kernel
theorem dX9_init_19 : decode cX9_init 19 = .ok (.aload_n 0, 1) := by decide +kernel
theorem dX9_init_20 : decode cX9_init 20 = .ok (.iload 4, 2) := by decide +kernel
theorem dX9_init_22 : decode cX9_init 22 = .ok (.putfield 19, 3) := by decide +kernel
theorem dX9_init_25 : decode cX9_init 25 = .ok (.return_, 1) := by decide +kernel
theorem dX10_init_0 : decode cX10_init 0 = .ok (.aload_n 0, 1) := by decide +kernel
theorem dX10_init_1 : decode cX10_init 1 = .ok (.invokespecial 1, 3) := by decide +kernel
theorem dX10_init_4 : decode cX10_init 4 = .ok (.aload_n 0, 1) := by decide +kernel
theorem dX10_init_5 : decode cX10_init 5 = .ok (.iload_n 1, 1) := by decide +kernel
theorem dX10_init_6 : decode cX10_init 6 = .ok (.putfield 7, 3) := by decide +kernel
theorem dX10_init_9 : decode cX10_init 9 = .ok (.aload_n 0, 1) := by decide +kernel
theorem dX10_init_10 : decode cX10_init 10 = .ok (.iload_n 2, 1) := by decide +kernel
theorem dX10_init_11 : decode cX10_init 11 = .ok (.putfield 13, 3) := by decide +kernel
theorem dX10_init_14 : decode cX10_init 14 = .ok (.aload_n 0, 1) := by decide +kernel
theorem dX10_init_15 : decode cX10_init 15 = .ok (.iload_n 3, 1) := by decide +kernel
theorem dX10_init_16 : decode cX10_init 16 = .ok (.putfield 16, 3) := by decide +kernel
theorem dX10_init_19 : decode cX10_init 19 = .ok (.return_, 1) := by decide +kernel
theorem dX10_left_0 : decode cX10_left 0 = .ok (.aload_n 0, 1) := by decide +kernel
theorem dX10_left_1 : decode cX10_left 1 = .ok (.getfield 19, 3) := by decide +kernel
theorem dX10_left_4 : decode cX10_left 4 = .ok (.ifnonnull 7, 3) := by decide +kernel
theorem dX10_left_7 : decode cX10_left 7 = .ok (.iconst 0, 1) := by decide +kernel
theorem dX10_left_8 : decode cX10_left 8 = .ok (.goto 25, 3) := by decide +kernel
theorem dX10_left_11 : decode cX10_left 11 = .ok (.iconst 0, 1) := by decide +kernel
theorem dX10_left_12 : decode cX10_left 12 = .ok (.bipush 10, 2) := by decide +kernel
theorem dX10_left_14 : decode cX10_left 14 = .ok (.aload_n 0, 1) := by decide +kernel
theorem dX10_left_15 : decode cX10_left 15 = .ok (.getfield 19, 3) := by decide +kernel
theorem dX10_left_18 : decode cX10_left 18 = .ok (.getfield 23, 3) := by decide +kernel
theorem dX10_left_21 : decode cX10_left 21 = .ok (.getfield 29, 3) := by decide +kernel
theorem dX10_left_24 : decode cX10_left 24 = .ok (.imul, 1) := by decide +kernel
theorem dX10_left_25 : decode cX10_left 25 = .ok (.aload_n 0, 1) := by decide +kernel
theorem dX10_left_26 : decode cX10_left 26 = .ok (.getfield 34, 3) := by decide +kernel
theorem dX10_left_29 : decode cX10_left 29 = .ok (.isub, 1) := by decide +kernel
theorem dX10_left_30 : decode cX10_left 30 = .ok (.invokestatic 37, 3) := by decide +kernel
theorem dX10_left_33 : decode cX10_left 33 = .ok (.ireturn, 1) := by decide +kernel
theorem dX10_leaves_0 : decode cX10_leaves 0 = .ok (.aload_n 0, 1) := by decide +kernel
theorem dX10_leaves_1 : decode cX10_leaves 1 = .ok (.getfield 19, 3) := by decide +kernel
theorem dX10_leaves_4 : decode cX10_leaves 4 = .ok (.ifnonnull 7, 3) := by decide +kernel
theorem dX10_leaves_7 : decode cX10_leaves 7 = .ok (.iconst 0, 1) := by decide +kernel
theorem dX10_leaves_8 : decode cX10_leaves 8 = .ok (.goto 10, 3) := by decide +kernel
theorem dX10_leaves_11 : decode cX10_leaves 11 = .ok (.aload_n 0, 1) := by decide +kernel
theorem dX10_leaves_12 : decode cX10_leaves 12 = .ok (.getfield 19, 3) := by decide +kernel
theorem dX10_leaves_15 : decode cX10_leaves 15 = .ok (.getfield 43, 3) := by decide +kernel
theorem dX10_leaves_18 : decode cX10_leaves 18 = .ok (.aload_n 0, 1) := by decide +kernel
theorem dX10_leaves_19 : decode cX10_leaves 19 = .ok (.getfield 46, 3) := by decide +kernel
theorem dX10_leaves_22 : decode cX10_leaves 22 = .ok (.ifnonnull 7, 3) := by decide +kernel
theorem dX10_leaves_25 : decode cX10_leaves 25 = .ok (.iconst 0, 1) := by decide +kernel
theorem dX10_leaves_26 : decode cX10_leaves 26 = .ok (.goto 10, 3) := by decide +kernel
theorem dX10_leaves_29 : decode cX10_leaves 29 = .ok (.aload_n 0, 1) := by decide +kernel
theorem dX10_leaves_30 : decode cX10_leaves 30 = .ok (.getfield 46, 3) := by decide +kernel
theorem dX10_leaves_33 : decode cX10_leaves 33 = .ok (.getfield 43, 3) := by decide +kernel
theorem dX10_leaves_36 : decode cX10_leaves 36 = .ok (.iadd, 1) := by decide +kernel
theorem dX10_leaves_37 : decode cX10_leaves 37 = .ok (.ireturn, 1) := by decide +kernel
theorem dX11_init_0 : decode cX11_init 0 = .ok (.aload_n 0, 1) := by decide +kernel
theorem dX11_init_1 : decode cX11_init 1 = .ok (.invokespecial 3, 3) := by decide +kernel
theorem dX11_init_4 : decode cX11_init 4 = .ok (.aload_n 0, 1) := by decide +kernel
theorem dX11_init_5 : decode cX11_init 5 = .ok (.bipush 64, 2) := by decide +kernel
theorem dX11_init_7 : decode cX11_init 7 = .ok (.newarray .int, 2) := by decide +kernel
theorem dX11_init_9 : decode cX11_init 9 = .ok (.putfield 9, 3) := by decide +kernel
theorem dX11_init_12 : decode cX11_init 12 = .ok (.aload_n 0, 1) := by decide +kernel
theorem dX11_init_13 : decode cX11_init 13 = .ok (.bipush 8, 2) := by decide +kernel
theorem dX11_init_15 : decode cX11_init 15 = .ok (.newarray .int, 2) := by decide +kernel
theorem dX11_init_17 : decode cX11_init 17 = .ok (.putfield 15, 3) := by decide +kernel
theorem dX11_init_20 : decode cX11_init 20 = .ok (.return_, 1) := by decide +kernel
theorem dX11_pieces_0 : decode cX11_pieces 0 = .ok (.bipush 64, 2) := by decide +kernel
theorem dX11_pieces_2 : decode cX11_pieces 2 = .ok (.newarray .int, 2) := by decide +kernel
theorem dX11_pieces_4 : decode cX11_pieces 4 = .ok (.astore_n 1, 1) := by decide +kernel
theorem dX11_pieces_5 : decode cX11_pieces 5 = .ok (.iconst 0, 1) := by decide +kernel
theorem dX11_pieces_6 : decode cX11_pieces 6 = .ok (.istore_n 2, 1) := by decide +kernel
theorem dX11_pieces_7 : decode cX11_pieces 7 = .ok (.iconst 0, 1) := by decide +kernel
theorem dX11_pieces_8 : decode cX11_pieces 8 = .ok (.istore_n 3, 1) := by decide +kernel
theorem dX11_pieces_9 : decode cX11_pieces 9 = .ok (.iload_n 3, 1) := by decide +kernel
theorem dX11_pieces_10 : decode cX11_pieces 10 = .ok (.bipush 64, 2) := by decide +kernel
theorem dX11_pieces_12 : decode cX11_pieces 12 = .ok (.if_icmp .ge 13, 3) := by decide +kernel
theorem dX11_pieces_15 : decode cX11_pieces 15 = .ok (.aload_n 1, 1) := by decide +kernel
theorem dX11_pieces_16 : decode cX11_pieces 16 = .ok (.iload_n 3, 1) := by decide +kernel
theorem dX11_pieces_17 : decode cX11_pieces 17 = .ok (.iconst (-1), 1) := by decide +kernel
theorem dX11_pieces_18 : decode cX11_pieces 18 = .ok (.iastore, 1) := by decide +kernel
theorem dX11_pieces_19 : decode cX11_pieces 19 = .ok (.iinc 3 1, 3) := by decide +kernel
theorem dX11_pieces_22 : decode cX11_pieces 22 = .ok (.goto (-13), 3) := by decide +kernel
theorem dX11_pieces_25 : decode cX11_pieces 25 = .ok (.iconst 0, 1) := by decide +kernel
theorem dX11_pieces_26 : decode cX11_pieces 26 = .ok (.istore_n 3, 1) := by decide +kernel
theorem dX11_pieces_27 : decode cX11_pieces 27 = .ok (.iload_n 3, 1) := by decide +kernel
theorem dX11_pieces_28 : decode cX11_pieces 28 = .ok (.bipush 64, 2) := by decide +kernel
theorem dX11_pieces_30 : decode cX11_pieces 30 = .ok (.if_icmp .ge 26, 3) := by decide +kernel
theorem dX11_pieces_33 : decode cX11_pieces 33 = .ok (.aload_n 1, 1) := by decide +kernel
theorem dX11_pieces_34 : decode cX11_pieces 34 = .ok (.iload_n 3, 1) := by decide +kernel
theorem dX11_pieces_35 : decode cX11_pieces 35 = .ok (.iaload, 1) := by decide +kernel
theorem dX11_pieces_36 : decode cX11_pieces 36 = .ok (.iconst (-1), 1) := by decide +kernel
theorem dX11_pieces_37 : decode cX11_pieces 37 = .ok (.if_icmp .ne 13, 3) := by decide +kernel
theorem dX11_pieces_40 : decode cX11_pieces 40 = .ok (.aload_n 0, 1) := by decide +kernel
theorem dX11_pieces_41 : decode cX11_pieces 41 = .ok (.aload_n 1, 1) := by decide +kernel
theorem dX11_pieces_42 : decode cX11_pieces 42 = .ok (.iload_n 3, 1) := by decide +kernel
theorem dX11_pieces_43 : decode cX11_pieces 43 = .ok (.iload_n 2, 1) := by decide +kernel
theorem dX11_pieces_44 : decode cX11_pieces 44 = .ok (.invokevirtual 18, 3) := by decide +kernel
theorem dX11_pieces_47 : decode cX11_pieces 47 = .ok (.iinc 2 1, 3) := by decide +kernel
theorem dX11_pieces_50 : decode cX11_pieces 50 = .ok (.iinc 3 1, 3) := by decide +kernel
theorem dX11_pieces_53 : decode cX11_pieces 53 = .ok (.goto (-26), 3) := by decide +kernel
theorem dX11_pieces_56 : decode cX11_pieces 56 = .ok (.aload_n 1, 1) := by decide +kernel
theorem dX11_pieces_57 : decode cX11_pieces 57 = .ok (.areturn, 1) := by decide +kernel
theorem dX11_fills_0 : decode cX11_fills 0 = .ok (.new 22, 3) := by decide +kernel
theorem dX11_fills_3 : decode cX11_fills 3 = .ok (.dup, 1) := by decide +kernel
theorem dX11_fills_4 : decode cX11_fills 4 = .ok (.invokespecial 24, 3) := by decide +kernel
theorem dX11_fills_7 : decode cX11_fills 7 = .ok (.astore 4, 2) := by decide +kernel
theorem dX11_fills_9 : decode cX11_fills 9 = .ok (.aload 4, 2) := by decide +kernel
theorem dX11_fills_11 : decode cX11_fills 11 = .ok (.iload_n 2, 1) := by decide +kernel
theorem dX11_fills_12 : decode cX11_fills 12 = .ok (.invokestatic 25, 3) := by decide +kernel
theorem dX11_fills_15 : decode cX11_fills 15 = .ok (.invokeinterface 31 2, 5) := by decide +kernel
theorem dX11_fills_20 : decode cX11_fills 20 = .ok (.pop, 1) := by decide +kernel
theorem dX11_fills_21 : decode cX11_fills 21 = .ok (.aload_n 1, 1) := by decide +kernel
theorem dX11_fills_22 : decode cX11_fills 22 = .ok (.iload_n 2, 1) := by decide +kernel
theorem dX11_fills_23 : decode cX11_fills 23 = .ok (.iload_n 3, 1) := by decide +kernel
theorem dX11_fills_24 : decode cX11_fills 24 = .ok (.iastore, 1) := by decide +kernel
theorem dX11_fills_25 : decode cX11_fills 25 = .ok (.iconst 0, 1) := by decide +kernel
theorem dX11_fills_26 : decode cX11_fills 26 = .ok (.istore 5, 2) := by decide +kernel
theorem dX11_fills_28 : decode cX11_fills 28 = .ok (.iload 5, 2) := by decide +kernel
theorem dX11_fills_30 : decode cX11_fills 30 = .ok (.aload 4, 2) := by decide +kernel
theorem dX11_fills_32 : decode cX11_fills 32 = .ok (.invokeinterface 37 1, 5) := by decide +kernel
theorem dX11_fills_37 : decode cX11_fills 37 = .ok (.if_icmp .ge 94, 3) := by decide +kernel
theorem dX11_fills_40 : decode cX11_fills 40 = .ok (.iconst 0, 1) := by decide +kernel
theorem dX11_fills_41 : decode cX11_fills 41 = .ok (.istore 6, 2) := by decide +kernel
theorem dX11_fills_43 : decode cX11_fills 43 = .ok (.iload 6, 2) := by decide +kernel
theorem dX11_fills_45 : decode cX11_fills 45 = .ok (.iconst 4, 1) := by decide +kernel
theorem dX11_fills_46 : decode cX11_fills 46 = .ok (.if_icmp .ge 79, 3) := by decide +kernel
theorem dX11_fills_49 : decode cX11_fills 49 = .ok (.aload 4, 2) := by decide +kernel
theorem dX11_fills_51 : decode cX11_fills 51 = .ok (.iload 5, 2) := by decide +kernel
theorem dX11_fills_53 : decode cX11_fills 53 = .ok (.invokeinterface 41 2, 5) := by decide +kernel
theorem dX11_fills_58 : decode cX11_fills 58 = .ok (.checkcast 26, 3) := by decide +kernel
theorem dX11_fills_61 : decode cX11_fills 61 = .ok (.invokevirtual 45, 3) := by decide +kernel
theorem dX11_fills_64 : decode cX11_fills 64 = .ok (.iload 6, 2) := by decide +kernel
theorem dX11_fills_66 : decode cX11_fills 66 = .ok (.invokestatic 48, 3) := by decide +kernel
theorem dX11_fills_69 : decode cX11_fills 69 = .ok (.istore 7, 2) := by decide +kernel
theorem dX11_fills_71 : decode cX11_fills 71 = .ok (.iload 7, 2) := by decide +kernel
theorem dX11_fills_73 : decode cX11_fills 73 = .ok (.iconst (-1), 1) := by decide +kernel
theorem dX11_fills_74 : decode cX11_fills 74 = .ok (.if_icmp .eq 45, 3) := by decide +kernel
theorem dX11_fills_77 : decode cX11_fills 77 = .ok (.aload_n 1, 1) := by decide +kernel
theorem dX11_fills_78 : decode cX11_fills 78 = .ok (.iload 7, 2) := by decide +kernel
theorem dX11_fills_80 : decode cX11_fills 80 = .ok (.iaload, 1) := by decide +kernel
theorem dX11_fills_81 : decode cX11_fills 81 = .ok (.iconst (-1), 1) := by decide +kernel
theorem dX11_fills_82 : decode cX11_fills 82 = .ok (.if_icmp .ne 37, 3) := by decide +kernel
theorem dX11_fills_85 : decode cX11_fills 85 = .ok (.aload_n 0, 1) := by decide +kernel
theorem dX11_fills_86 : decode cX11_fills 86 = .ok (.getfield 9, 3) := by decide +kernel
theorem dX11_fills_89 : decode cX11_fills 89 = .ok (.iload 7, 2) := by decide +kernel
theorem dX11_fills_91 : decode cX11_fills 91 = .ok (.iaload, 1) := by decide +kernel
theorem dX11_fills_92 : decode cX11_fills 92 = .ok (.aload_n 0, 1) := by decide +kernel
theorem dX11_fills_93 : decode cX11_fills 93 = .ok (.getfield 9, 3) := by decide +kernel
theorem dX11_fills_96 : decode cX11_fills 96 = .ok (.iload_n 2, 1) := by decide +kernel
theorem dX11_fills_97 : decode cX11_fills 97 = .ok (.iaload, 1) := by decide +kernel
theorem dX11_fills_98 : decode cX11_fills 98 = .ok (.if_icmp .ne 21, 3) := by decide +kernel
theorem dX11_fills_101 : decode cX11_fills 101 = .ok (.aload_n 1, 1) := by decide +kernel
theorem dX11_fills_102 : decode cX11_fills 102 = .ok (.iload 7, 2) := by decide +kernel
theorem dX11_fills_104 : decode cX11_fills 104 = .ok (.iload_n 3, 1) := by decide +kernel
theorem dX11_fills_105 : decode cX11_fills 105 = .ok (.iastore, 1) := by decide +kernel
theorem dX11_fills_106 : decode cX11_fills 106 = .ok (.aload 4, 2) := by decide +kernel
theorem dX11_fills_108 : decode cX11_fills 108 = .ok (.iload 7, 2) := by decide +kernel
theorem dX11_fills_110 : decode cX11_fills 110 = .ok (.invokestatic 25, 3) := by decide +kernel
theorem dX11_fills_113 : decode cX11_fills 113 = .ok (.invokeinterface 31 2, 5) := by decide +kernel
theorem dX11_fills_118 : decode cX11_fills 118 = .ok (.pop, 1) := by decide +kernel
theorem dX11_fills_119 : decode cX11_fills 119 = .ok (.iinc 6 1, 3) := by decide +kernel
theorem dX11_fills_122 : decode cX11_fills 122 = .ok (.goto (-79), 3) := by decide +kernel
theorem dX11_fills_125 : decode cX11_fills 125 = .ok (.iinc 5 1, 3) := by decide +kernel
theorem dX11_fills_128 : decode cX11_fills 128 = .ok (.goto (-100), 3) := by decide +kernel
theorem dX11_fills_131 : decode cX11_fills 131 = .ok (.return_, 1) := by decide +kernel
theorem dX12_init_0 : decode cX12_init 0 = .ok (.aload_n 0, 1) := by decide +kernel
theorem dX12_init_1 : decode cX12_init 1 = .ok (.invokespecial 1, 3) := by decide +kernel
theorem dX12_init_4 : decode cX12_init 4 = .ok (.aload_n 0, 1) := by decide +kernel
theorem dX12_init_5 : decode cX12_init 5 = .ok (.new 7, 3) := by decide +kernel
theorem dX12_init_8 : decode cX12_init 8 = .ok (.dup, 1) := by decide +kernel
theorem dX12_init_9 : decode cX12_init 9 = .ok (.invokespecial 9, 3) := by decide +kernel
theorem dX12_init_12 : decode cX12_init 12 = .ok (.putfield 10, 3) := by decide +kernel
theorem dX12_init_15 : decode cX12_init 15 = .ok (.aload_n 0, 1) := by decide +kernel
theorem dX12_init_16 : decode cX12_init 16 = .ok (.new 7, 3) := by decide +kernel
theorem dX12_init_19 : decode cX12_init 19 = .ok (.dup, 1) := by decide +kernel
theorem dX12_init_20 : decode cX12_init 20 = .ok (.invokespecial 9, 3) := by decide +kernel
theorem dX12_init_23 : decode cX12_init 23 = .ok (.putfield 16, 3) := by decide +kernel
theorem dX12_init_26 : decode cX12_init 26 = .ok (.aload_n 0, 1) := by decide +kernel
theorem dX12_init_27 : decode cX12_init 27 = .ok (.new 7, 3) := by decide +kernel
theorem dX12_init_30 : decode cX12_init 30 = .ok (.dup, 1) := by decide +kernel
theorem dX12_init_31 : decode cX12_init 31 = .ok (.invokespecial 9, 3) := by decide +kernel
theorem dX12_init_34 : decode cX12_init 34 = .ok (.putfield 19, 3) := by decide +kernel
theorem dX12_init_37 : decode cX12_init 37 = .ok (.aload_n 0, 1) := by decide +kernel
theorem dX12_init_38 : decode cX12_init 38 = .ok (.new 7, 3) := by decide +kernel
theorem dX12_init_41 : decode cX12_init 41 = .ok (.dup, 1) := by decide +kernel
theorem dX12_init_42 : decode cX12_init 42 = .ok (.invokespecial 9, 3) := by decide +kernel
theorem dX12_init_45 : decode cX12_init 45 = .ok (.putfield 22, 3) := by decide +kernel
theorem dX12_init_48 : decode cX12_init 48 = .ok (.aload_n 0, 1) := by decide +kernel
theorem dX12_init_49 : decode cX12_init 49 = .ok (.new 7, 3) := by decide +kernel
theorem dX12_init_52 : decode cX12_init 52 = .ok (.dup, 1) := by decide +kernel
theorem dX12_init_53 : decode cX12_init 53 = .ok (.invokespecial 9, 3) := by decide +kernel
theorem dX12_init_56 : decode cX12_init 56 = .ok (.putfield 25, 3) := by decide +kernel
theorem dX12_init_59 : decode cX12_init 59 = .ok (.aload_n 0, 1) := by decide +kernel
theorem dX12_init_60 : decode cX12_init 60 = .ok (.bipush 8, 2) := by decide +kernel
theorem dX12_init_62 : decode cX12_init 62 = .ok (.putfield 28, 3) := by decide +kernel
theorem dX12_init_65 : decode cX12_init 65 = .ok (.aload_n 0, 1) := by decide +kernel
theorem dX12_init_66 : decode cX12_init 66 = .ok (.new 7, 3) := by decide +kernel
theorem dX12_init_69 : decode cX12_init 69 = .ok (.dup, 1) := by decide +kernel
theorem dX12_init_70 : decode cX12_init 70 = .ok (.invokespecial 9, 3) := by decide +kernel
theorem dX12_init_73 : decode cX12_init 73 = .ok (.putfield 32, 3) := by decide +kernel
theorem dX12_init_76 : decode cX12_init 76 = .ok (.return_, 1) := by decide +kernel
theorem dX12_thrown_0 : decode cX12_thrown 0 = .ok (.aload_n 0, 1) := by decide +kernel
theorem dX12_thrown_1 : decode cX12_thrown 1 = .ok (.getfield 35, 3) := by decide +kernel
theorem dX12_thrown_4 : decode cX12_thrown 4 = .ok (.ireturn, 1) := by decide +kernel
theorem dX12_in_0 : decode cX12_in 0 = .ok (.lload_n 0, 1) := by decide +kernel
theorem dX12_in_1 : decode cX12_in 1 = .ok (.lload_n 2, 1) := by decide +kernel
theorem dX12_in_2 : decode cX12_in 2 = .ok (.lcmp, 1) := by decide +kernel
theorem dX12_in_3 : decode cX12_in 3 = .ok (.ifCond .lt 14, 3) := by decide +kernel
theorem dX12_in_6 : decode cX12_in 6 = .ok (.lload_n 0, 1) := by decide +kernel
theorem dX12_in_7 : decode cX12_in 7 = .ok (.lload 4, 2) := by decide +kernel
theorem dX12_in_9 : decode cX12_in 9 = .ok (.lcmp, 1) := by decide +kernel
theorem dX12_in_10 : decode cX12_in 10 = .ok (.ifCond .gt 7, 3) := by decide +kernel
theorem dX12_in_13 : decode cX12_in 13 = .ok (.iconst 1, 1) := by decide +kernel
theorem dX12_in_14 : decode cX12_in 14 = .ok (.goto 4, 3) := by decide +kernel
theorem dX12_in_17 : decode cX12_in 17 = .ok (.iconst 0, 1) := by decide +kernel
theorem dX12_in_18 : decode cX12_in 18 = .ok (.ireturn, 1) := by decide +kernel
theorem dX12_isOf_0 : decode cX12_isOf 0 = .ok (.iload_n 1, 1) := by decide +kernel
theorem dX12_isOf_1 : decode cX12_isOf 1 = .ok (.i2l, 1) := by decide +kernel
theorem dX12_isOf_2 : decode cX12_isOf 2 = .ok (.lconst 0, 1) := by decide +kernel
theorem dX12_isOf_3 : decode cX12_isOf 3 = .ok (.aload_n 0, 1) := by decide +kernel
theorem dX12_isOf_4 : decode cX12_isOf 4 = .ok (.invokeinterface 38 1, 5) := by decide +kernel
theorem dX12_isOf_9 : decode cX12_isOf 9 = .ok (.iconst 1, 1) := by decide +kernel
theorem dX12_isOf_10 : decode cX12_isOf 10 = .ok (.isub, 1) := by decide +kernel
theorem dX12_isOf_11 : decode cX12_isOf 11 = .ok (.i2l, 1) := by decide +kernel
theorem dX12_isOf_12 : decode cX12_isOf 12 = .ok (.invokestatic 44, 3) := by decide +kernel
theorem dX12_isOf_15 : decode cX12_isOf 15 = .ok (.ireturn, 1) := by decide +kernel
theorem dX12_fails_0 : decode cX12_fails 0 = .ok (.aload_n 0, 1) := by decide +kernel
theorem dX12_fails_1 : decode cX12_fails 1 = .ok (.getfield 35, 3) := by decide +kernel
theorem dX12_fails_4 : decode cX12_fails 4 = .ok (.ifCond .ne 12, 3) := by decide +kernel
theorem dX12_fails_7 : decode cX12_fails 7 = .ok (.iload_n 1, 1) := by decide +kernel
theorem dX12_fails_8 : decode cX12_fails 8 = .ok (.ifCond .eq 8, 3) := by decide +kernel
theorem dX12_fails_11 : decode cX12_fails 11 = .ok (.aload_n 0, 1) := by decide +kernel
theorem dX12_fails_12 : decode cX12_fails 12 = .ok (.iload_n 2, 1) := by decide +kernel
theorem dX12_fails_13 : decode cX12_fails 13 = .ok (.putfield 35, 3) := by decide +kernel
theorem dX12_fails_16 : decode cX12_fails 16 = .ok (.aload_n 0, 1) := by decide +kernel
theorem dX12_fails_17 : decode cX12_fails 17 = .ok (.getfield 35, 3) := by decide +kernel
theorem dX12_fails_20 : decode cX12_fails 20 = .ok (.ifCond .le 7, 3) := by decide +kernel
theorem dX12_fails_23 : decode cX12_fails 23 = .ok (.iconst 1, 1) := by decide +kernel
theorem dX12_fails_24 : decode cX12_fails 24 = .ok (.goto 4, 3) := by decide +kernel
theorem dX12_fails_27 : decode cX12_fails 27 = .ok (.iconst 0, 1) := by decide +kernel
theorem dX12_fails_28 : decode cX12_fails 28 = .ok (.ireturn, 1) := by decide +kernel
theorem dX12_begins_0 : decode cX12_begins 0 = .ok (.aload_n 0, 1) := by decide +kernel
theorem dX12_begins_1 : decode cX12_begins 1 = .ok (.iconst 0, 1) := by decide +kernel
theorem dX12_begins_2 : decode cX12_begins 2 = .ok (.putfield 35, 3) := by decide +kernel
theorem dX12_begins_5 : decode cX12_begins 5 = .ok (.return_, 1) := by decide +kernel
theorem dX12_root_0 : decode cX12_root 0 = .ok (.iconst 0, 1) := by decide +kernel
theorem dX12_root_1 : decode cX12_root 1 = .ok (.istore_n 1, 1) := by decide +kernel
theorem dX12_root_2 : decode cX12_root 2 = .ok (.iload_n 1, 1) := by decide +kernel
theorem dX12_root_3 : decode cX12_root 3 = .ok (.iconst 1, 1) := by decide +kernel
theorem dX12_root_4 : decode cX12_root 4 = .ok (.iadd, 1) := by decide +kernel
theorem dX12_root_5 : decode cX12_root 5 = .ok (.iload_n 1, 1) := by decide +kernel
theorem dX12_root_6 : decode cX12_root 6 = .ok (.iconst 1, 1) := by decide +kernel
theorem dX12_root_7 : decode cX12_root 7 = .ok (.iadd, 1) := by decide +kernel
theorem dX12_root_8 : decode cX12_root 8 = .ok (.imul, 1) := by decide +kernel
theorem dX12_root_9 : decode cX12_root 9 = .ok (.iload_n 0, 1) := by decide +kernel
theorem dX12_root_10 : decode cX12_root 10 = .ok (.if_icmp .gt 9, 3) := by decide +kernel
theorem dX12_root_13 : decode cX12_root 13 = .ok (.iinc 1 1, 3) := by decide +kernel
theorem dX12_root_16 : decode cX12_root 16 = .ok (.goto (-14), 3) := by decide +kernel
theorem dX12_root_19 : decode cX12_root 19 = .ok (.iload_n 1, 1) := by decide +kernel
theorem dX12_root_20 : decode cX12_root 20 = .ok (.ireturn, 1) := by decide +kernel
theorem dX12_log_0 : decode cX12_log 0 = .ok (.aload_n 0, 1) := by decide +kernel
theorem dX12_log_1 : decode cX12_log 1 = .ok (.invokevirtual 48, 3) := by decide +kernel
theorem dX12_log_4 : decode cX12_log 4 = .ok (.aload_n 0, 1) := by decide +kernel
theorem dX12_log_5 : decode cX12_log 5 = .ok (.ldc 51, 2) := by decide +kernel
theorem dX12_log_7 : decode cX12_log 7 = .ok (.iload_n 1, 1) := by decide +kernel
theorem dX12_log_8 : decode cX12_log 8 = .ok (.invokevirtual 53, 3) := by decide +kernel
theorem dX12_log_11 : decode cX12_log 11 = .ok (.ifCond .lt 39, 3) := by decide +kernel
theorem dX12_log_14 : decode cX12_log 14 = .ok (.iload_n 2, 1) := by decide +kernel
theorem dX12_log_15 : decode cX12_log 15 = .ok (.i2l, 1) := by decide +kernel
theorem dX12_log_16 : decode cX12_log 16 = .ok (.ldc2_w 59, 3) := by decide +kernel
theorem dX12_log_19 : decode cX12_log 19 = .ok (.ldc2_w 61, 3) := by decide +kernel
theorem dX12_log_22 : decode cX12_log 22 = .ok (.invokestatic 44, 3) := by decide +kernel
theorem dX12_log_25 : decode cX12_log 25 = .ok (.ifCond .eq 25, 3) := by decide +kernel
theorem dX12_log_28 : decode cX12_log 28 = .ok (.iload_n 3, 1) := by decide +kernel
theorem dX12_log_29 : decode cX12_log 29 = .ok (.i2l, 1) := by decide +kernel
theorem dX12_log_30 : decode cX12_log 30 = .ok (.lconst 1, 1) := by decide +kernel
theorem dX12_log_31 : decode cX12_log 31 = .ok (.ldc2_w 63, 3) := by decide +kernel
theorem dX12_log_34 : decode cX12_log 34 = .ok (.invokestatic 44, 3) := by decide +kernel
theorem dX12_log_37 : decode cX12_log 37 = .ok (.ifCond .eq 13, 3) := by decide +kernel
theorem dX12_log_40 : decode cX12_log 40 = .ok (.ldc 65, 2) := by decide +kernel
theorem dX12_log_42 : decode cX12_log 42 = .ok (.iload 4, 2) := by decide +kernel
theorem dX12_log_44 : decode cX12_log 44 = .ok (.invokevirtual 53, 3) := by decide +kernel
theorem dX12_log_47 : decode cX12_log 47 = .ok (.ifCond .ge 7, 3) := by decide +kernel
theorem dX12_log_50 : decode cX12_log 50 = .ok (.iconst 1, 1) := by decide +kernel
theorem dX12_log_51 : decode cX12_log 51 = .ok (.goto 4, 3) := by decide +kernel
theorem dX12_log_54 : decode cX12_log 54 = .ok (.iconst 0, 1) := by decide +kernel
theorem dX12_log_55 : decode cX12_log 55 = .ok (.iconst 1, 1) := by decide +kernel
theorem dX12_log_56 : decode cX12_log 56 = .ok (.invokevirtual 67, 3) := by decide +kernel
theorem dX12_log_59 : decode cX12_log 59 = .ok (.ifCond .ne 30, 3) := by decide +kernel
theorem dX12_log_62 : decode cX12_log 62 = .ok (.aload_n 0, 1) := by decide +kernel
theorem dX12_log_63 : decode cX12_log 63 = .ok (.aload_n 0, 1) := by decide +kernel
theorem dX12_log_64 : decode cX12_log 64 = .ok (.getfield 10, 3) := by decide +kernel
theorem dX12_log_67 : decode cX12_log 67 = .ok (.invokeinterface 38 1, 5) := by decide +kernel
theorem dX12_log_72 : decode cX12_log 72 = .ok (.bipush 8, 2) := by decide +kernel
theorem dX12_log_74 : decode cX12_log 74 = .ok (.if_icmp .ne 7, 3) := by decide +kernel
theorem dX12_log_77 : decode cX12_log 77 = .ok (.iconst 1, 1) := by decide +kernel
theorem dX12_log_78 : decode cX12_log 78 = .ok (.goto 4, 3) := by decide +kernel
theorem dX12_log_81 : decode cX12_log 81 = .ok (.iconst 0, 1) := by decide +kernel
theorem dX12_log_82 : decode cX12_log 82 = .ok (.iconst 2, 1) := by decide +kernel
theorem dX12_log_83 : decode cX12_log 83 = .ok (.invokevirtual 67, 3) := by decide +kernel
theorem dX12_log_86 : decode cX12_log 86 = .ok (.ifCond .eq 5, 3) := by decide +kernel
theorem dX12_log_89 : decode cX12_log 89 = .ok (.iconst (-1), 1) := by decide +kernel
theorem dX12_log_90 : decode cX12_log 90 = .ok (.ireturn, 1) := by decide +kernel
theorem dX12_log_91 : decode cX12_log 91 = .ok (.aload_n 0, 1) := by decide +kernel
theorem dX12_log_92 : decode cX12_log 92 = .ok (.getfield 10, 3) := by decide +kernel
theorem dX12_log_95 : decode cX12_log 95 = .ok (.new 71, 3) := by decide +kernel
theorem dX12_log_98 : decode cX12_log 98 = .ok (.dup, 1) := by decide +kernel
theorem dX12_log_99 : decode cX12_log 99 = .ok (.ldc 51, 2) := by decide +kernel
theorem dX12_log_101 : decode cX12_log 101 = .ok (.iload_n 1, 1) := by decide +kernel
theorem dX12_log_102 : decode cX12_log 102 = .ok (.invokevirtual 53, 3) := by decide +kernel
theorem dX12_log_105 : decode cX12_log 105 = .ok (.iload_n 2, 1) := by decide +kernel
theorem dX12_log_106 : decode cX12_log 106 = .ok (.iload_n 3, 1) := by decide +kernel
theorem dX12_log_107 : decode cX12_log 107 = .ok (.iload 4, 2) := by decide +kernel
theorem dX12_log_109 : decode cX12_log 109 = .ok (.invokespecial 73, 3) := by decide +kernel
theorem dX12_log_112 : decode cX12_log 112 = .ok (.invokeinterface 76 2, 5) := by decide +kernel
theorem dX12_log_117 : decode cX12_log 117 = .ok (.pop, 1) := by decide +kernel
theorem dX12_log_118 : decode cX12_log 118 = .ok (.aload_n 0, 1) := by decide +kernel
theorem dX12_log_119 : decode cX12_log 119 = .ok (.getfield 10, 3) := by decide +kernel
theorem dX12_log_122 : decode cX12_log 122 = .ok (.invokeinterface 38 1, 5) := by decide +kernel
theorem dX12_log_127 : decode cX12_log 127 = .ok (.iconst 1, 1) := by decide +kernel
theorem dX12_log_128 : decode cX12_log 128 = .ok (.isub, 1) := by decide +kernel
theorem dX12_log_129 : decode cX12_log 129 = .ok (.ireturn, 1) := by decide +kernel
theorem dX12_slice_0 : decode cX12_slice 0 = .ok (.aload_n 0, 1) := by decide +kernel
theorem dX12_slice_1 : decode cX12_slice 1 = .ok (.invokevirtual 48, 3) := by decide +kernel
theorem dX12_slice_4 : decode cX12_slice 4 = .ok (.aload_n 0, 1) := by decide +kernel
theorem dX12_slice_5 : decode cX12_slice 5 = .ok (.aload_n 0, 1) := by decide +kernel
theorem dX12_slice_6 : decode cX12_slice 6 = .ok (.getfield 10, 3) := by decide +kernel
theorem dX12_slice_9 : decode cX12_slice 9 = .ok (.iload_n 1, 1) := by decide +kernel
theorem dX12_slice_10 : decode cX12_slice 10 = .ok (.invokestatic 80, 3) := by decide +kernel
theorem dX12_slice_13 : decode cX12_slice 13 = .ok (.ifCond .ne 7, 3) := by decide +kernel
theorem dX12_slice_16 : decode cX12_slice 16 = .ok (.iconst 1, 1) := by decide +kernel
theorem dX12_slice_17 : decode cX12_slice 17 = .ok (.goto 4, 3) := by decide +kernel
theorem dX12_slice_20 : decode cX12_slice 20 = .ok (.iconst 0, 1) := by decide +kernel
theorem dX12_slice_21 : decode cX12_slice 21 = .ok (.iconst 1, 1) := by decide +kernel
theorem dX12_slice_22 : decode cX12_slice 22 = .ok (.invokevirtual 67, 3) := by decide +kernel
theorem dX12_slice_25 : decode cX12_slice 25 = .ok (.ifCond .ne 63, 3) := by decide +kernel
theorem dX12_slice_28 : decode cX12_slice 28 = .ok (.aload_n 0, 1) := by decide +kernel
theorem dX12_slice_29 : decode cX12_slice 29 = .ok (.ldc 84, 2) := by decide +kernel
theorem dX12_slice_31 : decode cX12_slice 31 = .ok (.iload_n 2, 1) := by decide +kernel
theorem dX12_slice_32 : decode cX12_slice 32 = .ok (.invokevirtual 53, 3) := by decide +kernel
theorem dX12_slice_35 : decode cX12_slice 35 = .ok (.ifCond .lt 17, 3) := by decide +kernel
theorem dX12_slice_38 : decode cX12_slice 38 = .ok (.iload_n 3, 1) := by decide +kernel
theorem dX12_slice_39 : decode cX12_slice 39 = .ok (.i2l, 1) := by decide +kernel
theorem dX12_slice_40 : decode cX12_slice 40 = .ok (.ldc2_w 86, 3) := by decide +kernel
theorem dX12_slice_43 : decode cX12_slice 43 = .ok (.ldc2_w 88, 3) := by decide +kernel
theorem dX12_slice_46 : decode cX12_slice 46 = .ok (.invokestatic 44, 3) := by decide +kernel
theorem dX12_slice_49 : decode cX12_slice 49 = .ok (.ifCond .ne 7, 3) := by decide +kernel
theorem dX12_slice_52 : decode cX12_slice 52 = .ok (.iconst 1, 1) := by decide +kernel
theorem dX12_slice_53 : decode cX12_slice 53 = .ok (.goto 4, 3) := by decide +kernel
theorem dX12_slice_56 : decode cX12_slice 56 = .ok (.iconst 0, 1) := by decide +kernel
theorem dX12_slice_57 : decode cX12_slice 57 = .ok (.iconst 2, 1) := by decide +kernel
theorem dX12_slice_58 : decode cX12_slice 58 = .ok (.invokevirtual 67, 3) := by decide +kernel
theorem dX12_slice_61 : decode cX12_slice 61 = .ok (.ifCond .ne 27, 3) := by decide +kernel
theorem dX12_slice_64 : decode cX12_slice 64 = .ok (.aload_n 0, 1) := by decide +kernel
theorem dX12_slice_65 : decode cX12_slice 65 = .ok (.aload_n 0, 1) := by decide +kernel
theorem dX12_slice_66 : decode cX12_slice 66 = .ok (.getfield 10, 3) := by decide +kernel
theorem dX12_slice_69 : decode cX12_slice 69 = .ok (.iload_n 1, 1) := by decide +kernel
theorem dX12_slice_70 : decode cX12_slice 70 = .ok (.invokeinterface 90 2, 5) := by decide +kernel
theorem dX12_slice_75 : decode cX12_slice 75 = .ok (.checkcast 71, 3) := by decide +kernel
theorem dX12_slice_78 : decode cX12_slice 78 = .ok (.getfield 94, 3) := by decide +kernel
theorem dX12_slice_81 : decode cX12_slice 81 = .ok (.iconst 3, 1) := by decide +kernel
theorem dX12_slice_82 : decode cX12_slice 82 = .ok (.invokevirtual 67, 3) := by decide +kernel
theorem dX12_slice_85 : decode cX12_slice 85 = .ok (.ifCond .eq 5, 3) := by decide +kernel
theorem dX12_slice_88 : decode cX12_slice 88 = .ok (.iconst (-1), 1) := by decide +kernel
theorem dX12_slice_89 : decode cX12_slice 89 = .ok (.ireturn, 1) := by decide +kernel
theorem dX12_slice_90 : decode cX12_slice 90 = .ok (.aload_n 0, 1) := by decide +kernel
theorem dX12_slice_91 : decode cX12_slice 91 = .ok (.getfield 10, 3) := by decide +kernel
theorem dX12_slice_94 : decode cX12_slice 94 = .ok (.iload_n 1, 1) := by decide +kernel
theorem dX12_slice_95 : decode cX12_slice 95 = .ok (.invokeinterface 90 2, 5) := by decide +kernel
theorem dX12_slice_100 : decode cX12_slice 100 = .ok (.checkcast 71, 3) := by decide +kernel
theorem dX12_slice_103 : decode cX12_slice 103 = .ok (.iconst 1, 1) := by decide +kernel
theorem dX12_slice_104 : decode cX12_slice 104 = .ok (.putfield 94, 3) := by decide +kernel
theorem dX12_slice_107 : decode cX12_slice 107 = .ok (.aload_n 0, 1) := by decide +kernel
theorem dX12_slice_108 : decode cX12_slice 108 = .ok (.getfield 16, 3) := by decide +kernel
theorem dX12_slice_111 : decode cX12_slice 111 = .ok (.new 98, 3) := by decide +kernel
theorem dX12_slice_114 : decode cX12_slice 114 = .ok (.dup, 1) := by decide +kernel
theorem dX12_slice_115 : decode cX12_slice 115 = .ok (.aload_n 0, 1) := by decide +kernel
theorem dX12_slice_116 : decode cX12_slice 116 = .ok (.getfield 10, 3) := by decide +kernel
theorem dX12_slice_119 : decode cX12_slice 119 = .ok (.iload_n 1, 1) := by decide +kernel
theorem dX12_slice_120 : decode cX12_slice 120 = .ok (.invokeinterface 90 2, 5) := by decide +kernel
theorem dX12_slice_125 : decode cX12_slice 125 = .ok (.checkcast 71, 3) := by decide +kernel
theorem dX12_slice_128 : decode cX12_slice 128 = .ok (.iload_n 2, 1) := by decide +kernel
theorem dX12_slice_129 : decode cX12_slice 129 = .ok (.iload_n 3, 1) := by decide +kernel
theorem dX12_slice_130 : decode cX12_slice 130 = .ok (.invokespecial 100, 3) := by decide +kernel
theorem dX12_slice_133 : decode cX12_slice 133 = .ok (.invokeinterface 76 2, 5) := by decide +kernel
theorem dX12_slice_138 : decode cX12_slice 138 = .ok (.pop, 1) := by decide +kernel
theorem dX12_slice_139 : decode cX12_slice 139 = .ok (.aload_n 0, 1) := by decide +kernel
theorem dX12_slice_140 : decode cX12_slice 140 = .ok (.getfield 16, 3) := by decide +kernel
theorem dX12_slice_143 : decode cX12_slice 143 = .ok (.invokeinterface 38 1, 5) := by decide +kernel
theorem dX12_slice_148 : decode cX12_slice 148 = .ok (.iconst 1, 1) := by decide +kernel
theorem dX12_slice_149 : decode cX12_slice 149 = .ok (.isub, 1) := by decide +kernel
theorem dX12_slice_150 : decode cX12_slice 150 = .ok (.ireturn, 1) := by decide +kernel
theorem dX12_leaves_0 : decode cX12_leaves 0 = .ok (.aload_n 0, 1) := by decide +kernel
theorem dX12_leaves_1 : decode cX12_leaves 1 = .ok (.invokevirtual 48, 3) := by decide +kernel
theorem dX12_leaves_4 : decode cX12_leaves 4 = .ok (.aload_n 0, 1) := by decide +kernel
theorem dX12_leaves_5 : decode cX12_leaves 5 = .ok (.aload_n 0, 1) := by decide +kernel
theorem dX12_leaves_6 : decode cX12_leaves 6 = .ok (.getfield 16, 3) := by decide +kernel
theorem dX12_leaves_9 : decode cX12_leaves 9 = .ok (.iload_n 1, 1) := by decide +kernel
theorem dX12_leaves_10 : decode cX12_leaves 10 = .ok (.invokestatic 80, 3) := by decide +kernel
theorem dX12_leaves_13 : decode cX12_leaves 13 = .ok (.ifCond .ne 7, 3) := by decide +kernel
theorem dX12_leaves_16 : decode cX12_leaves 16 = .ok (.iconst 1, 1) := by decide +kernel
theorem dX12_leaves_17 : decode cX12_leaves 17 = .ok (.goto 4, 3) := by decide +kernel
theorem dX12_leaves_20 : decode cX12_leaves 20 = .ok (.iconst 0, 1) := by decide +kernel
theorem dX12_leaves_21 : decode cX12_leaves 21 = .ok (.iconst 1, 1) := by decide +kernel
theorem dX12_leaves_22 : decode cX12_leaves 22 = .ok (.invokevirtual 67, 3) := by decide +kernel
theorem dX12_leaves_25 : decode cX12_leaves 25 = .ok (.ifCond .eq 7, 3) := by decide +kernel
theorem dX12_leaves_28 : decode cX12_leaves 28 = .ok (.iconst (-1), 1) := by decide +kernel
theorem dX12_leaves_29 : decode cX12_leaves 29 = .ok (.goto 20, 3) := by decide +kernel
theorem dX12_leaves_32 : decode cX12_leaves 32 = .ok (.aload_n 0, 1) := by decide +kernel
theorem dX12_leaves_33 : decode cX12_leaves 33 = .ok (.getfield 16, 3) := by decide +kernel
theorem dX12_leaves_36 : decode cX12_leaves 36 = .ok (.iload_n 1, 1) := by decide +kernel
theorem dX12_leaves_37 : decode cX12_leaves 37 = .ok (.invokeinterface 90 2, 5) := by decide +kernel
theorem dX12_leaves_42 : decode cX12_leaves 42 = .ok (.checkcast 98, 3) := by decide +kernel
theorem dX12_leaves_45 : decode cX12_leaves 45 = .ok (.getfield 103, 3) := by decide +kernel
theorem dX12_leaves_48 : decode cX12_leaves 48 = .ok (.arraylength, 1) := by decide +kernel
theorem dX12_leaves_49 : decode cX12_leaves 49 = .ok (.ireturn, 1) := by decide +kernel
theorem dX12_isLeaf_0 : decode cX12_isLeaf 0 = .ok (.aload_n 0, 1) := by decide +kernel
theorem dX12_isLeaf_1 : decode cX12_isLeaf 1 = .ok (.getfield 16, 3) := by decide +kernel
theorem dX12_isLeaf_4 : decode cX12_isLeaf 4 = .ok (.iload_n 1, 1) := by decide +kernel
theorem dX12_isLeaf_5 : decode cX12_isLeaf 5 = .ok (.invokestatic 80, 3) := by decide +kernel
theorem dX12_isLeaf_8 : decode cX12_isLeaf 8 = .ok (.ifCond .eq 36, 3) := by decide +kernel
theorem dX12_isLeaf_11 : decode cX12_isLeaf 11 = .ok (.iload_n 2, 1) := by decide +kernel
theorem dX12_isLeaf_12 : decode cX12_isLeaf 12 = .ok (.i2l, 1) := by decide +kernel
theorem dX12_isLeaf_13 : decode cX12_isLeaf 13 = .ok (.lconst 0, 1) := by decide +kernel
theorem dX12_isLeaf_14 : decode cX12_isLeaf 14 = .ok (.aload_n 0, 1) := by decide +kernel
theorem dX12_isLeaf_15 : decode cX12_isLeaf 15 = .ok (.getfield 16, 3) := by decide +kernel
theorem dX12_isLeaf_18 : decode cX12_isLeaf 18 = .ok (.iload_n 1, 1) := by decide +kernel
theorem dX12_isLeaf_19 : decode cX12_isLeaf 19 = .ok (.invokeinterface 90 2, 5) := by decide +kernel
theorem dX12_isLeaf_24 : decode cX12_isLeaf 24 = .ok (.checkcast 98, 3) := by decide +kernel
theorem dX12_isLeaf_27 : decode cX12_isLeaf 27 = .ok (.getfield 103, 3) := by decide +kernel
theorem dX12_isLeaf_30 : decode cX12_isLeaf 30 = .ok (.arraylength, 1) := by decide +kernel
theorem dX12_isLeaf_31 : decode cX12_isLeaf 31 = .ok (.iconst 1, 1) := by decide +kernel
theorem dX12_isLeaf_32 : decode cX12_isLeaf 32 = .ok (.isub, 1) := by decide +kernel
theorem dX12_isLeaf_33 : decode cX12_isLeaf 33 = .ok (.i2l, 1) := by decide +kernel
theorem dX12_isLeaf_34 : decode cX12_isLeaf 34 = .ok (.invokestatic 44, 3) := by decide +kernel
theorem dX12_isLeaf_37 : decode cX12_isLeaf 37 = .ok (.ifCond .eq 7, 3) := by decide +kernel
theorem dX12_isLeaf_40 : decode cX12_isLeaf 40 = .ok (.iconst 1, 1) := by decide +kernel
theorem dX12_isLeaf_41 : decode cX12_isLeaf 41 = .ok (.goto 4, 3) := by decide +kernel
theorem dX12_isLeaf_44 : decode cX12_isLeaf 44 = .ok (.iconst 0, 1) := by decide +kernel
theorem dX12_isLeaf_45 : decode cX12_isLeaf 45 = .ok (.ireturn, 1) := by decide +kernel
theorem dX12_noLeaf_0 : decode cX12_noLeaf 0 = .ok (.aload_n 0, 1) := by decide +kernel
theorem dX12_noLeaf_1 : decode cX12_noLeaf 1 = .ok (.aload_n 0, 1) := by decide +kernel
theorem dX12_noLeaf_2 : decode cX12_noLeaf 2 = .ok (.iload_n 1, 1) := by decide +kernel
theorem dX12_noLeaf_3 : decode cX12_noLeaf 3 = .ok (.iload_n 2, 1) := by decide +kernel
theorem dX12_noLeaf_4 : decode cX12_noLeaf 4 = .ok (.invokevirtual 107, 3) := by decide +kernel
theorem dX12_noLeaf_7 : decode cX12_noLeaf 7 = .ok (.ifCond .ne 7, 3) := by decide +kernel
theorem dX12_noLeaf_10 : decode cX12_noLeaf 10 = .ok (.iconst 1, 1) := by decide +kernel
theorem dX12_noLeaf_11 : decode cX12_noLeaf 11 = .ok (.goto 4, 3) := by decide +kernel
theorem dX12_noLeaf_14 : decode cX12_noLeaf 14 = .ok (.iconst 0, 1) := by decide +kernel
theorem dX12_noLeaf_15 : decode cX12_noLeaf 15 = .ok (.iconst 1, 1) := by decide +kernel
theorem dX12_noLeaf_16 : decode cX12_noLeaf 16 = .ok (.invokevirtual 67, 3) := by decide +kernel
theorem dX12_noLeaf_19 : decode cX12_noLeaf 19 = .ok (.ireturn, 1) := by decide +kernel
theorem dX12_width_0 : decode cX12_width 0 = .ok (.aload_n 0, 1) := by decide +kernel
theorem dX12_width_1 : decode cX12_width 1 = .ok (.invokevirtual 48, 3) := by decide +kernel
theorem dX12_width_4 : decode cX12_width 4 = .ok (.aload_n 0, 1) := by decide +kernel
theorem dX12_width_5 : decode cX12_width 5 = .ok (.iload_n 1, 1) := by decide +kernel
theorem dX12_width_6 : decode cX12_width 6 = .ok (.iload_n 2, 1) := by decide +kernel
theorem dX12_width_7 : decode cX12_width 7 = .ok (.invokevirtual 111, 3) := by decide +kernel
theorem dX12_width_10 : decode cX12_width 10 = .ok (.ifCond .eq 7, 3) := by decide +kernel
theorem dX12_width_13 : decode cX12_width 13 = .ok (.iconst (-1), 1) := by decide +kernel
theorem dX12_width_14 : decode cX12_width 14 = .ok (.goto 20, 3) := by decide +kernel
theorem dX12_width_17 : decode cX12_width 17 = .ok (.aload_n 0, 1) := by decide +kernel
theorem dX12_width_18 : decode cX12_width 18 = .ok (.getfield 16, 3) := by decide +kernel
theorem dX12_width_21 : decode cX12_width 21 = .ok (.iload_n 1, 1) := by decide +kernel
theorem dX12_width_22 : decode cX12_width 22 = .ok (.invokeinterface 90 2, 5) := by decide +kernel
theorem dX12_width_27 : decode cX12_width 27 = .ok (.checkcast 98, 3) := by decide +kernel
theorem dX12_width_30 : decode cX12_width 30 = .ok (.iload_n 2, 1) := by decide +kernel
theorem dX12_width_31 : decode cX12_width 31 = .ok (.invokevirtual 114, 3) := by decide +kernel
theorem dX12_width_34 : decode cX12_width 34 = .ok (.ireturn, 1) := by decide +kernel
theorem dX12_area_0 : decode cX12_area 0 = .ok (.aload_n 0, 1) := by decide +kernel
theorem dX12_area_1 : decode cX12_area 1 = .ok (.invokevirtual 48, 3) := by decide +kernel
theorem dX12_area_4 : decode cX12_area 4 = .ok (.aload_n 0, 1) := by decide +kernel
theorem dX12_area_5 : decode cX12_area 5 = .ok (.iload_n 1, 1) := by decide +kernel
theorem dX12_area_6 : decode cX12_area 6 = .ok (.iload_n 2, 1) := by decide +kernel
theorem dX12_area_7 : decode cX12_area 7 = .ok (.invokevirtual 111, 3) := by decide +kernel
theorem dX12_area_10 : decode cX12_area 10 = .ok (.ifCond .eq 7, 3) := by decide +kernel
theorem dX12_area_13 : decode cX12_area 13 = .ok (.iconst (-1), 1) := by decide +kernel
theorem dX12_area_14 : decode cX12_area 14 = .ok (.goto 20, 3) := by decide +kernel
theorem dX12_area_17 : decode cX12_area 17 = .ok (.aload_n 0, 1) := by decide +kernel
theorem dX12_area_18 : decode cX12_area 18 = .ok (.getfield 16, 3) := by decide +kernel
theorem dX12_area_21 : decode cX12_area 21 = .ok (.iload_n 1, 1) := by decide +kernel
theorem dX12_area_22 : decode cX12_area 22 = .ok (.invokeinterface 90 2, 5) := by decide +kernel
theorem dX12_area_27 : decode cX12_area 27 = .ok (.checkcast 98, 3) := by decide +kernel
theorem dX12_area_30 : decode cX12_area 30 = .ok (.iload_n 2, 1) := by decide +kernel
theorem dX12_area_31 : decode cX12_area 31 = .ok (.invokevirtual 117, 3) := by decide +kernel
theorem dX12_area_34 : decode cX12_area 34 = .ok (.ireturn, 1) := by decide +kernel
theorem dX12_figure_0 : decode cX12_figure 0 = .ok (.aload_n 0, 1) := by decide +kernel
theorem dX12_figure_1 : decode cX12_figure 1 = .ok (.invokevirtual 48, 3) := by decide +kernel
theorem dX12_figure_4 : decode cX12_figure 4 = .ok (.aload_n 0, 1) := by decide +kernel
theorem dX12_figure_5 : decode cX12_figure 5 = .ok (.iload_n 1, 1) := by decide +kernel
theorem dX12_figure_6 : decode cX12_figure 6 = .ok (.iload_n 2, 1) := by decide +kernel
theorem dX12_figure_7 : decode cX12_figure 7 = .ok (.invokevirtual 111, 3) := by decide +kernel
theorem dX12_figure_10 : decode cX12_figure 10 = .ok (.ifCond .eq 7, 3) := by decide +kernel
theorem dX12_figure_13 : decode cX12_figure 13 = .ok (.iconst (-1), 1) := by decide +kernel
theorem dX12_figure_14 : decode cX12_figure 14 = .ok (.goto 20, 3) := by decide +kernel
theorem dX12_figure_17 : decode cX12_figure 17 = .ok (.aload_n 0, 1) := by decide +kernel
theorem dX12_figure_18 : decode cX12_figure 18 = .ok (.getfield 16, 3) := by decide +kernel
theorem dX12_figure_21 : decode cX12_figure 21 = .ok (.iload_n 1, 1) := by decide +kernel
theorem dX12_figure_22 : decode cX12_figure 22 = .ok (.invokeinterface 90 2, 5) := by decide +kernel
theorem dX12_figure_27 : decode cX12_figure 27 = .ok (.checkcast 98, 3) := by decide +kernel
theorem dX12_figure_30 : decode cX12_figure 30 = .ok (.iload_n 2, 1) := by decide +kernel
theorem dX12_figure_31 : decode cX12_figure 31 = .ok (.invokevirtual 120, 3) := by decide +kernel
theorem dX12_figure_34 : decode cX12_figure 34 = .ok (.ireturn, 1) := by decide +kernel
theorem dX12_isUsed_0 : decode cX12_isUsed 0 = .ok (.aload_n 0, 1) := by decide +kernel
theorem dX12_isUsed_1 : decode cX12_isUsed 1 = .ok (.invokevirtual 48, 3) := by decide +kernel
theorem dX12_isUsed_4 : decode cX12_isUsed 4 = .ok (.aload_n 0, 1) := by decide +kernel
theorem dX12_isUsed_5 : decode cX12_isUsed 5 = .ok (.iload_n 1, 1) := by decide +kernel
theorem dX12_isUsed_6 : decode cX12_isUsed 6 = .ok (.iload_n 2, 1) := by decide +kernel
theorem dX12_isUsed_7 : decode cX12_isUsed 7 = .ok (.invokevirtual 111, 3) := by decide +kernel
theorem dX12_isUsed_10 : decode cX12_isUsed 10 = .ok (.ifCond .ne 28, 3) := by decide +kernel
theorem dX12_isUsed_13 : decode cX12_isUsed 13 = .ok (.aload_n 0, 1) := by decide +kernel
theorem dX12_isUsed_14 : decode cX12_isUsed 14 = .ok (.getfield 16, 3) := by decide +kernel
theorem dX12_isUsed_17 : decode cX12_isUsed 17 = .ok (.iload_n 1, 1) := by decide +kernel
theorem dX12_isUsed_18 : decode cX12_isUsed 18 = .ok (.invokeinterface 90 2, 5) := by decide +kernel
theorem dX12_isUsed_23 : decode cX12_isUsed 23 = .ok (.checkcast 98, 3) := by decide +kernel
theorem dX12_isUsed_26 : decode cX12_isUsed 26 = .ok (.getfield 103, 3) := by decide +kernel
theorem dX12_isUsed_29 : decode cX12_isUsed 29 = .ok (.iload_n 2, 1) := by decide +kernel
theorem dX12_isUsed_30 : decode cX12_isUsed 30 = .ok (.baload, 1) := by decide +kernel
theorem dX12_isUsed_31 : decode cX12_isUsed 31 = .ok (.ifCond .eq 7, 3) := by decide +kernel
theorem dX12_isUsed_34 : decode cX12_isUsed 34 = .ok (.iconst 1, 1) := by decide +kernel
theorem dX12_isUsed_35 : decode cX12_isUsed 35 = .ok (.goto 4, 3) := by decide +kernel
theorem dX12_isUsed_38 : decode cX12_isUsed 38 = .ok (.iconst 0, 1) := by decide +kernel
theorem dX12_isUsed_39 : decode cX12_isUsed 39 = .ok (.ireturn, 1) := by decide +kernel
theorem dX12_panel_0 : decode cX12_panel 0 = .ok (.aload_n 0, 1) := by decide +kernel
theorem dX12_panel_1 : decode cX12_panel 1 = .ok (.invokevirtual 48, 3) := by decide +kernel
theorem dX12_panel_4 : decode cX12_panel 4 = .ok (.aload_n 0, 1) := by decide +kernel
theorem dX12_panel_5 : decode cX12_panel 5 = .ok (.iload_n 1, 1) := by decide +kernel
theorem dX12_panel_6 : decode cX12_panel 6 = .ok (.i2l, 1) := by decide +kernel
theorem dX12_panel_7 : decode cX12_panel 7 = .ok (.ldc2_w 59, 3) := by decide +kernel
theorem dX12_panel_10 : decode cX12_panel 10 = .ok (.ldc2_w 123, 3) := by decide +kernel
theorem dX12_panel_13 : decode cX12_panel 13 = .ok (.invokestatic 44, 3) := by decide +kernel
theorem dX12_panel_16 : decode cX12_panel 16 = .ok (.ifCond .eq 39, 3) := by decide +kernel
theorem dX12_panel_19 : decode cX12_panel 19 = .ok (.iload_n 2, 1) := by decide +kernel
theorem dX12_panel_20 : decode cX12_panel 20 = .ok (.i2l, 1) := by decide +kernel
theorem dX12_panel_21 : decode cX12_panel 21 = .ok (.lconst 1, 1) := by decide +kernel
theorem dX12_panel_22 : decode cX12_panel 22 = .ok (.ldc2_w 125, 3) := by decide +kernel
theorem dX12_panel_25 : decode cX12_panel 25 = .ok (.invokestatic 44, 3) := by decide +kernel
theorem dX12_panel_28 : decode cX12_panel 28 = .ok (.ifCond .eq 27, 3) := by decide +kernel
theorem dX12_panel_31 : decode cX12_panel 31 = .ok (.ldc 127, 2) := by decide +kernel
theorem dX12_panel_33 : decode cX12_panel 33 = .ok (.iload_n 3, 1) := by decide +kernel
theorem dX12_panel_34 : decode cX12_panel 34 = .ok (.invokevirtual 53, 3) := by decide +kernel
theorem dX12_panel_37 : decode cX12_panel 37 = .ok (.ifCond .lt 18, 3) := by decide +kernel
theorem dX12_panel_40 : decode cX12_panel 40 = .ok (.iload 4, 2) := by decide +kernel
theorem dX12_panel_42 : decode cX12_panel 42 = .ok (.i2l, 1) := by decide +kernel
theorem dX12_panel_43 : decode cX12_panel 43 = .ok (.ldc2_w 86, 3) := by decide +kernel
theorem dX12_panel_46 : decode cX12_panel 46 = .ok (.ldc2_w 63, 3) := by decide +kernel
theorem dX12_panel_49 : decode cX12_panel 49 = .ok (.invokestatic 44, 3) := by decide +kernel
theorem dX12_panel_52 : decode cX12_panel 52 = .ok (.ifCond .ne 7, 3) := by decide +kernel
theorem dX12_panel_55 : decode cX12_panel 55 = .ok (.iconst 1, 1) := by decide +kernel
theorem dX12_panel_56 : decode cX12_panel 56 = .ok (.goto 4, 3) := by decide +kernel
theorem dX12_panel_59 : decode cX12_panel 59 = .ok (.iconst 0, 1) := by decide +kernel
theorem dX12_panel_60 : decode cX12_panel 60 = .ok (.iconst 1, 1) := by decide +kernel
theorem dX12_panel_61 : decode cX12_panel 61 = .ok (.invokevirtual 67, 3) := by decide +kernel
theorem dX12_panel_64 : decode cX12_panel 64 = .ok (.ifCond .ne 30, 3) := by decide +kernel
theorem dX12_panel_67 : decode cX12_panel 67 = .ok (.aload_n 0, 1) := by decide +kernel
theorem dX12_panel_68 : decode cX12_panel 68 = .ok (.aload_n 0, 1) := by decide +kernel
theorem dX12_panel_69 : decode cX12_panel 69 = .ok (.getfield 19, 3) := by decide +kernel
theorem dX12_panel_72 : decode cX12_panel 72 = .ok (.invokeinterface 38 1, 5) := by decide +kernel
theorem dX12_panel_77 : decode cX12_panel 77 = .ok (.bipush 8, 2) := by decide +kernel
theorem dX12_panel_79 : decode cX12_panel 79 = .ok (.if_icmp .ne 7, 3) := by decide +kernel
theorem dX12_panel_82 : decode cX12_panel 82 = .ok (.iconst 1, 1) := by decide +kernel
theorem dX12_panel_83 : decode cX12_panel 83 = .ok (.goto 4, 3) := by decide +kernel
theorem dX12_panel_86 : decode cX12_panel 86 = .ok (.iconst 0, 1) := by decide +kernel
theorem dX12_panel_87 : decode cX12_panel 87 = .ok (.iconst 2, 1) := by decide +kernel
theorem dX12_panel_88 : decode cX12_panel 88 = .ok (.invokevirtual 67, 3) := by decide +kernel
theorem dX12_panel_91 : decode cX12_panel 91 = .ok (.ifCond .eq 5, 3) := by decide +kernel
theorem dX12_panel_94 : decode cX12_panel 94 = .ok (.iconst (-1), 1) := by decide +kernel
theorem dX12_panel_95 : decode cX12_panel 95 = .ok (.ireturn, 1) := by decide +kernel
theorem dX12_panel_96 : decode cX12_panel 96 = .ok (.aload_n 0, 1) := by decide +kernel
theorem dX12_panel_97 : decode cX12_panel 97 = .ok (.getfield 19, 3) := by decide +kernel
theorem dX12_panel_100 : decode cX12_panel 100 = .ok (.new 129, 3) := by decide +kernel
theorem dX12_panel_103 : decode cX12_panel 103 = .ok (.dup, 1) := by decide +kernel
theorem dX12_panel_104 : decode cX12_panel 104 = .ok (.iload_n 1, 1) := by decide +kernel
theorem dX12_panel_105 : decode cX12_panel 105 = .ok (.iload_n 2, 1) := by decide +kernel
theorem dX12_panel_106 : decode cX12_panel 106 = .ok (.iload 4, 2) := by decide +kernel
theorem dX12_panel_108 : decode cX12_panel 108 = .ok (.iload_n 3, 1) := by decide +kernel
theorem dX12_panel_109 : decode cX12_panel 109 = .ok (.bipush 115, 2) := by decide +kernel
theorem dX12_panel_111 : decode cX12_panel 111 = .ok (.if_icmp .ne 7, 3) := by decide +kernel
theorem dX12_panel_114 : decode cX12_panel 114 = .ok (.iconst 1, 1) := by decide +kernel
theorem dX12_panel_115 : decode cX12_panel 115 = .ok (.goto 14, 3) := by decide +kernel
theorem dX12_panel_118 : decode cX12_panel 118 = .ok (.iload_n 3, 1) := by decide +kernel
theorem dX12_panel_119 : decode cX12_panel 119 = .ok (.bipush 99, 2) := by decide +kernel
theorem dX12_panel_121 : decode cX12_panel 121 = .ok (.if_icmp .ne 7, 3) := by decide +kernel
theorem dX12_panel_124 : decode cX12_panel 124 = .ok (.iconst 3, 1) := by decide +kernel
theorem dX12_panel_125 : decode cX12_panel 125 = .ok (.goto 4, 3) := by decide +kernel
theorem dX12_panel_128 : decode cX12_panel 128 = .ok (.iconst 2, 1) := by decide +kernel
theorem dX12_panel_129 : decode cX12_panel 129 = .ok (.imul, 1) := by decide +kernel
theorem dX12_panel_130 : decode cX12_panel 130 = .ok (.invokespecial 131, 3) := by decide +kernel
theorem dX12_panel_133 : decode cX12_panel 133 = .ok (.invokeinterface 76 2, 5) := by decide +kernel
theorem dX12_panel_138 : decode cX12_panel 138 = .ok (.pop, 1) := by decide +kernel
theorem dX12_panel_139 : decode cX12_panel 139 = .ok (.aload_n 0, 1) := by decide +kernel
theorem dX12_panel_140 : decode cX12_panel 140 = .ok (.getfield 22, 3) := by decide +kernel
theorem dX12_panel_143 : decode cX12_panel 143 = .ok (.iload 4, 2) := by decide +kernel
theorem dX12_panel_145 : decode cX12_panel 145 = .ok (.invokestatic 134, 3) := by decide +kernel
theorem dX12_panel_148 : decode cX12_panel 148 = .ok (.invokeinterface 76 2, 5) := by decide +kernel
theorem dX12_panel_153 : decode cX12_panel 153 = .ok (.pop, 1) := by decide +kernel
theorem dX12_panel_154 : decode cX12_panel 154 = .ok (.aload_n 0, 1) := by decide +kernel
theorem dX12_panel_155 : decode cX12_panel 155 = .ok (.getfield 19, 3) := by decide +kernel
theorem dX12_panel_158 : decode cX12_panel 158 = .ok (.invokeinterface 38 1, 5) := by decide +kernel
theorem dX12_panel_163 : decode cX12_panel 163 = .ok (.iconst 1, 1) := by decide +kernel
theorem dX12_panel_164 : decode cX12_panel 164 = .ok (.isub, 1) := by decide +kernel
theorem dX12_panel_165 : decode cX12_panel 165 = .ok (.ireturn, 1) := by decide +kernel
theorem dX12_noPanel_0 : decode cX12_noPanel 0 = .ok (.aload_n 0, 1) := by decide +kernel
theorem dX12_noPanel_1 : decode cX12_noPanel 1 = .ok (.aload_n 0, 1) := by decide +kernel
theorem dX12_noPanel_2 : decode cX12_noPanel 2 = .ok (.getfield 19, 3) := by decide +kernel
theorem dX12_noPanel_5 : decode cX12_noPanel 5 = .ok (.iload_n 1, 1) := by decide +kernel
theorem dX12_noPanel_6 : decode cX12_noPanel 6 = .ok (.invokestatic 80, 3) := by decide +kernel
theorem dX12_noPanel_9 : decode cX12_noPanel 9 = .ok (.ifCond .ne 7, 3) := by decide +kernel
theorem dX12_noPanel_12 : decode cX12_noPanel 12 = .ok (.iconst 1, 1) := by decide +kernel
theorem dX12_noPanel_13 : decode cX12_noPanel 13 = .ok (.goto 4, 3) := by decide +kernel
theorem dX12_noPanel_16 : decode cX12_noPanel 16 = .ok (.iconst 0, 1) := by decide +kernel
theorem dX12_noPanel_17 : decode cX12_noPanel 17 = .ok (.iconst 1, 1) := by decide +kernel
theorem dX12_noPanel_18 : decode cX12_noPanel 18 = .ok (.invokevirtual 67, 3) := by decide +kernel
theorem dX12_noPanel_21 : decode cX12_noPanel 21 = .ok (.ireturn, 1) := by decide +kernel
theorem dX12_noRow_0 : decode cX12_noRow 0 = .ok (.aload_n 0, 1) := by decide +kernel
theorem dX12_noRow_1 : decode cX12_noRow 1 = .ok (.aload_n 0, 1) := by decide +kernel
theorem dX12_noRow_2 : decode cX12_noRow 2 = .ok (.iload_n 1, 1) := by decide +kernel
theorem dX12_noRow_3 : decode cX12_noRow 3 = .ok (.iload_n 2, 1) := by decide +kernel
theorem dX12_noRow_4 : decode cX12_noRow 4 = .ok (.invokevirtual 107, 3) := by decide +kernel
theorem dX12_noRow_7 : decode cX12_noRow 7 = .ok (.ifCond .eq 35, 3) := by decide +kernel
theorem dX12_noRow_10 : decode cX12_noRow 10 = .ok (.iload_n 3, 1) := by decide +kernel
theorem dX12_noRow_11 : decode cX12_noRow 11 = .ok (.iconst 1, 1) := by decide +kernel
theorem dX12_noRow_12 : decode cX12_noRow 12 = .ok (.if_icmp .le 34, 3) := by decide +kernel
theorem dX12_noRow_15 : decode cX12_noRow 15 = .ok (.iload_n 2, 1) := by decide +kernel
theorem dX12_noRow_16 : decode cX12_noRow 16 = .ok (.i2l, 1) := by decide +kernel
theorem dX12_noRow_17 : decode cX12_noRow 17 = .ok (.iload_n 3, 1) := by decide +kernel
theorem dX12_noRow_18 : decode cX12_noRow 18 = .ok (.i2l, 1) := by decide +kernel
theorem dX12_noRow_19 : decode cX12_noRow 19 = .ok (.ladd, 1) := by decide +kernel
theorem dX12_noRow_20 : decode cX12_noRow 20 = .ok (.aload_n 0, 1) := by decide +kernel
theorem dX12_noRow_21 : decode cX12_noRow 21 = .ok (.getfield 16, 3) := by decide +kernel
theorem dX12_noRow_24 : decode cX12_noRow 24 = .ok (.iload_n 1, 1) := by decide +kernel
theorem dX12_noRow_25 : decode cX12_noRow 25 = .ok (.invokeinterface 90 2, 5) := by decide +kernel
theorem dX12_noRow_30 : decode cX12_noRow 30 = .ok (.checkcast 98, 3) := by decide +kernel
theorem dX12_noRow_33 : decode cX12_noRow 33 = .ok (.getfield 103, 3) := by decide +kernel
theorem dX12_noRow_36 : decode cX12_noRow 36 = .ok (.arraylength, 1) := by decide +kernel
theorem dX12_noRow_37 : decode cX12_noRow 37 = .ok (.i2l, 1) := by decide +kernel
theorem dX12_noRow_38 : decode cX12_noRow 38 = .ok (.lcmp, 1) := by decide +kernel
theorem dX12_noRow_39 : decode cX12_noRow 39 = .ok (.ifCond .le 7, 3) := by decide +kernel
theorem dX12_noRow_42 : decode cX12_noRow 42 = .ok (.iconst 1, 1) := by decide +kernel
theorem dX12_noRow_43 : decode cX12_noRow 43 = .ok (.goto 4, 3) := by decide +kernel
theorem dX12_noRow_46 : decode cX12_noRow 46 = .ok (.iconst 0, 1) := by decide +kernel
theorem dX12_noRow_47 : decode cX12_noRow 47 = .ok (.iconst 1, 1) := by decide +kernel
theorem dX12_noRow_48 : decode cX12_noRow 48 = .ok (.invokevirtual 67, 3) := by decide +kernel
theorem dX12_noRow_51 : decode cX12_noRow 51 = .ok (.ireturn, 1) := by decide +kernel
theorem dX12_strip_0 : decode cX12_strip 0 = .ok (.aload_n 0, 1) := by decide +kernel
theorem dX12_strip_1 : decode cX12_strip 1 = .ok (.getfield 140, 3) := by decide +kernel
theorem dX12_strip_4 : decode cX12_strip 4 = .ok (.iload_n 1, 1) := by decide +kernel
theorem dX12_strip_5 : decode cX12_strip 5 = .ok (.iadd, 1) := by decide +kernel
theorem dX12_strip_6 : decode cX12_strip 6 = .ok (.iconst 1, 1) := by decide +kernel
theorem dX12_strip_7 : decode cX12_strip 7 = .ok (.isub, 1) := by decide +kernel
theorem dX12_strip_8 : decode cX12_strip 8 = .ok (.iload_n 1, 1) := by decide +kernel
theorem dX12_strip_9 : decode cX12_strip 9 = .ok (.idiv, 1) := by decide +kernel
theorem dX12_strip_10 : decode cX12_strip 10 = .ok (.ireturn, 1) := by decide +kernel
theorem dX12_canLie_0 : decode cX12_canLie 0 = .ok (.aload_n 1, 1) := by decide +kernel
theorem dX12_canLie_1 : decode cX12_canLie 1 = .ok (.getfield 142, 3) := by decide +kernel
theorem dX12_canLie_4 : decode cX12_canLie 4 = .ok (.getfield 146, 3) := by decide +kernel
theorem dX12_canLie_7 : decode cX12_canLie 7 = .ok (.aload_n 0, 1) := by decide +kernel
theorem dX12_canLie_8 : decode cX12_canLie 8 = .ok (.getfield 149, 3) := by decide +kernel
theorem dX12_canLie_11 : decode cX12_canLie 11 = .ok (.if_icmp .lt 7, 3) := by decide +kernel
theorem dX12_canLie_14 : decode cX12_canLie 14 = .ok (.iconst 1, 1) := by decide +kernel
theorem dX12_canLie_15 : decode cX12_canLie 15 = .ok (.goto 4, 3) := by decide +kernel
theorem dX12_canLie_18 : decode cX12_canLie 18 = .ok (.iconst 0, 1) := by decide +kernel
theorem dX12_canLie_19 : decode cX12_canLie 19 = .ok (.istore 4, 2) := by decide +kernel
theorem dX12_canLie_21 : decode cX12_canLie 21 = .ok (.iload_n 2, 1) := by decide +kernel
theorem dX12_canLie_22 : decode cX12_canLie 22 = .ok (.istore 5, 2) := by decide +kernel
theorem dX12_canLie_24 : decode cX12_canLie 24 = .ok (.iload 5, 2) := by decide +kernel
theorem dX12_canLie_26 : decode cX12_canLie 26 = .ok (.iload_n 2, 1) := by decide +kernel
theorem dX12_canLie_27 : decode cX12_canLie 27 = .ok (.iload_n 3, 1) := by decide +kernel
theorem dX12_canLie_28 : decode cX12_canLie 28 = .ok (.iadd, 1) := by decide +kernel
theorem dX12_canLie_29 : decode cX12_canLie 29 = .ok (.if_icmp .ge 45, 3) := by decide +kernel
theorem dX12_canLie_32 : decode cX12_canLie 32 = .ok (.iload 4, 2) := by decide +kernel
theorem dX12_canLie_34 : decode cX12_canLie 34 = .ok (.ifCond .eq 31, 3) := by decide +kernel
theorem dX12_canLie_37 : decode cX12_canLie 37 = .ok (.aload_n 1, 1) := by decide +kernel
theorem dX12_canLie_38 : decode cX12_canLie 38 = .ok (.getfield 103, 3) := by decide +kernel
theorem dX12_canLie_41 : decode cX12_canLie 41 = .ok (.iload 5, 2) := by decide +kernel
theorem dX12_canLie_43 : decode cX12_canLie 43 = .ok (.baload, 1) := by decide +kernel
theorem dX12_canLie_44 : decode cX12_canLie 44 = .ok (.ifCond .ne 21, 3) := by decide +kernel
theorem dX12_canLie_47 : decode cX12_canLie 47 = .ok (.aload_n 1, 1) := by decide +kernel
theorem dX12_canLie_48 : decode cX12_canLie 48 = .ok (.iload 5, 2) := by decide +kernel
theorem dX12_canLie_50 : decode cX12_canLie 50 = .ok (.invokevirtual 114, 3) := by decide +kernel
theorem dX12_canLie_53 : decode cX12_canLie 53 = .ok (.aload_n 0, 1) := by decide +kernel
theorem dX12_canLie_54 : decode cX12_canLie 54 = .ok (.iload_n 3, 1) := by decide +kernel
theorem dX12_canLie_55 : decode cX12_canLie 55 = .ok (.invokestatic 152, 3) := by decide +kernel
theorem dX12_canLie_58 : decode cX12_canLie 58 = .ok (.if_icmp .lt 7, 3) := by decide +kernel
theorem dX12_canLie_61 : decode cX12_canLie 61 = .ok (.iconst 1, 1) := by decide +kernel
theorem dX12_canLie_62 : decode cX12_canLie 62 = .ok (.goto 4, 3) := by decide +kernel
theorem dX12_canLie_65 : decode cX12_canLie 65 = .ok (.iconst 0, 1) := by decide +kernel
theorem dX12_canLie_66 : decode cX12_canLie 66 = .ok (.istore 4, 2) := by decide +kernel
theorem dX12_canLie_68 : decode cX12_canLie 68 = .ok (.iinc 5 1, 3) := by decide +kernel
theorem dX12_canLie_71 : decode cX12_canLie 71 = .ok (.goto (-47), 3) := by decide +kernel
theorem dX12_canLie_74 : decode cX12_canLie 74 = .ok (.iload 4, 2) := by decide +kernel
theorem dX12_canLie_76 : decode cX12_canLie 76 = .ok (.ireturn, 1) := by decide +kernel
theorem dX12_lays_0 : decode cX12_lays 0 = .ok (.aload_n 1, 1) := by decide +kernel
theorem dX12_lays_1 : decode cX12_lays 1 = .ok (.getfield 140, 3) := by decide +kernel
theorem dX12_lays_4 : decode cX12_lays 4 = .ok (.ineg, 1) := by decide +kernel
theorem dX12_lays_5 : decode cX12_lays 5 = .ok (.aload_n 1, 1) := by decide +kernel
theorem dX12_lays_6 : decode cX12_lays 6 = .ok (.getfield 149, 3) := by decide +kernel
theorem dX12_lays_9 : decode cX12_lays 9 = .ok (.imul, 1) := by decide +kernel
theorem dX12_lays_10 : decode cX12_lays 10 = .ok (.istore_n 3, 1) := by decide +kernel
theorem dX12_lays_11 : decode cX12_lays 11 = .ok (.aload_n 2, 1) := by decide +kernel
theorem dX12_lays_12 : decode cX12_lays 12 = .ok (.getfield 156, 3) := by decide +kernel
theorem dX12_lays_15 : decode cX12_lays 15 = .ok (.istore 4, 2) := by decide +kernel
theorem dX12_lays_17 : decode cX12_lays 17 = .ok (.iload 4, 2) := by decide +kernel
theorem dX12_lays_19 : decode cX12_lays 19 = .ok (.aload_n 2, 1) := by decide +kernel
theorem dX12_lays_20 : decode cX12_lays 20 = .ok (.getfield 156, 3) := by decide +kernel
theorem dX12_lays_23 : decode cX12_lays 23 = .ok (.aload_n 2, 1) := by decide +kernel
theorem dX12_lays_24 : decode cX12_lays 24 = .ok (.getfield 161, 3) := by decide +kernel
theorem dX12_lays_27 : decode cX12_lays 27 = .ok (.iadd, 1) := by decide +kernel
theorem dX12_lays_28 : decode cX12_lays 28 = .ok (.if_icmp .ge 94, 3) := by decide +kernel
theorem dX12_lays_31 : decode cX12_lays 31 = .ok (.aload_n 2, 1) := by decide +kernel
theorem dX12_lays_32 : decode cX12_lays 32 = .ok (.getfield 164, 3) := by decide +kernel
theorem dX12_lays_35 : decode cX12_lays 35 = .ok (.getfield 103, 3) := by decide +kernel
theorem dX12_lays_38 : decode cX12_lays 38 = .ok (.iload 4, 2) := by decide +kernel
theorem dX12_lays_40 : decode cX12_lays 40 = .ok (.iconst 1, 1) := by decide +kernel
theorem dX12_lays_41 : decode cX12_lays 41 = .ok (.bastore, 1) := by decide +kernel
theorem dX12_lays_42 : decode cX12_lays 42 = .ok (.iload_n 3, 1) := by decide +kernel
theorem dX12_lays_43 : decode cX12_lays 43 = .ok (.aload_n 2, 1) := by decide +kernel
theorem dX12_lays_44 : decode cX12_lays 44 = .ok (.getfield 164, 3) := by decide +kernel
theorem dX12_lays_47 : decode cX12_lays 47 = .ok (.iload 4, 2) := by decide +kernel
theorem dX12_lays_49 : decode cX12_lays 49 = .ok (.invokevirtual 117, 3) := by decide +kernel
theorem dX12_lays_52 : decode cX12_lays 52 = .ok (.iadd, 1) := by decide +kernel
theorem dX12_lays_53 : decode cX12_lays 53 = .ok (.istore_n 3, 1) := by decide +kernel
theorem dX12_lays_54 : decode cX12_lays 54 = .ok (.aload_n 2, 1) := by decide +kernel
theorem dX12_lays_55 : decode cX12_lays 55 = .ok (.getfield 164, 3) := by decide +kernel
theorem dX12_lays_58 : decode cX12_lays 58 = .ok (.iload 4, 2) := by decide +kernel
theorem dX12_lays_60 : decode cX12_lays 60 = .ok (.invokevirtual 114, 3) := by decide +kernel
theorem dX12_lays_63 : decode cX12_lays 63 = .ok (.aload_n 1, 1) := by decide +kernel
theorem dX12_lays_64 : decode cX12_lays 64 = .ok (.aload_n 2, 1) := by decide +kernel
theorem dX12_lays_65 : decode cX12_lays 65 = .ok (.getfield 161, 3) := by decide +kernel
theorem dX12_lays_68 : decode cX12_lays 68 = .ok (.invokestatic 152, 3) := by decide +kernel
theorem dX12_lays_71 : decode cX12_lays 71 = .ok (.isub, 1) := by decide +kernel
theorem dX12_lays_72 : decode cX12_lays 72 = .ok (.istore 5, 2) := by decide +kernel
theorem dX12_lays_74 : decode cX12_lays 74 = .ok (.iload 5, 2) := by decide +kernel
theorem dX12_lays_76 : decode cX12_lays 76 = .ok (.bipush 50, 2) := by decide +kernel
theorem dX12_lays_78 : decode cX12_lays 78 = .ok (.if_icmp .lt 38, 3) := by decide +kernel
theorem dX12_lays_81 : decode cX12_lays 81 = .ok (.aload_n 0, 1) := by decide +kernel
theorem dX12_lays_82 : decode cX12_lays 82 = .ok (.getfield 25, 3) := by decide +kernel
theorem dX12_lays_85 : decode cX12_lays 85 = .ok (.iconst 2, 1) := by decide +kernel
theorem dX12_lays_86 : decode cX12_lays 86 = .ok (.newarray .int, 2) := by decide +kernel
theorem dX12_lays_88 : decode cX12_lays 88 = .ok (.dup, 1) := by decide +kernel
theorem dX12_lays_89 : decode cX12_lays 89 = .ok (.iconst 0, 1) := by decide +kernel
theorem dX12_lays_90 : decode cX12_lays 90 = .ok (.iload 5, 2) := by decide +kernel
theorem dX12_lays_92 : decode cX12_lays 92 = .ok (.iastore, 1) := by decide +kernel
theorem dX12_lays_93 : decode cX12_lays 93 = .ok (.dup, 1) := by decide +kernel
theorem dX12_lays_94 : decode cX12_lays 94 = .ok (.iconst 1, 1) := by decide +kernel
theorem dX12_lays_95 : decode cX12_lays 95 = .ok (.aload_n 1, 1) := by decide +kernel
theorem dX12_lays_96 : decode cX12_lays 96 = .ok (.getfield 149, 3) := by decide +kernel
theorem dX12_lays_99 : decode cX12_lays 99 = .ok (.iastore, 1) := by decide +kernel
theorem dX12_lays_100 : decode cX12_lays 100 = .ok (.invokeinterface 76 2, 5) := by decide +kernel
theorem dX12_lays_105 : decode cX12_lays 105 = .ok (.pop, 1) := by decide +kernel
theorem dX12_lays_106 : decode cX12_lays 106 = .ok (.iload_n 3, 1) := by decide +kernel
theorem dX12_lays_107 : decode cX12_lays 107 = .ok (.iload 5, 2) := by decide +kernel
theorem dX12_lays_109 : decode cX12_lays 109 = .ok (.aload_n 1, 1) := by decide +kernel
theorem dX12_lays_110 : decode cX12_lays 110 = .ok (.getfield 149, 3) := by decide +kernel
theorem dX12_lays_113 : decode cX12_lays 113 = .ok (.imul, 1) := by decide +kernel
theorem dX12_lays_114 : decode cX12_lays 114 = .ok (.isub, 1) := by decide +kernel
theorem dX12_lays_115 : decode cX12_lays 115 = .ok (.istore_n 3, 1) := by decide +kernel
theorem dX12_lays_116 : decode cX12_lays 116 = .ok (.iinc 4 1, 3) := by decide +kernel
theorem dX12_lays_119 : decode cX12_lays 119 = .ok (.goto (-102), 3) := by decide +kernel
theorem dX12_lays_122 : decode cX12_lays 122 = .ok (.aload_n 0, 1) := by decide +kernel
theorem dX12_lays_123 : decode cX12_lays 123 = .ok (.dup, 1) := by decide +kernel
theorem dX12_lays_124 : decode cX12_lays 124 = .ok (.getfield 168, 3) := by decide +kernel
theorem dX12_lays_127 : decode cX12_lays 127 = .ok (.iload_n 3, 1) := by decide +kernel
theorem dX12_lays_128 : decode cX12_lays 128 = .ok (.iadd, 1) := by decide +kernel
theorem dX12_lays_129 : decode cX12_lays 129 = .ok (.putfield 168, 3) := by decide +kernel
theorem dX12_lays_132 : decode cX12_lays 132 = .ok (.iload_n 3, 1) := by decide +kernel
theorem dX12_lays_133 : decode cX12_lays 133 = .ok (.ireturn, 1) := by decide +kernel
theorem dX12_face_0 : decode cX12_face 0 = .ok (.aload_n 0, 1) := by decide +kernel
theorem dX12_face_1 : decode cX12_face 1 = .ok (.invokevirtual 48, 3) := by decide +kernel
theorem dX12_face_4 : decode cX12_face 4 = .ok (.aload_n 0, 1) := by decide +kernel
theorem dX12_face_5 : decode cX12_face 5 = .ok (.iload_n 1, 1) := by decide +kernel
theorem dX12_face_6 : decode cX12_face 6 = .ok (.invokevirtual 171, 3) := by decide +kernel
theorem dX12_face_9 : decode cX12_face 9 = .ok (.ifCond .ne 50, 3) := by decide +kernel
theorem dX12_face_12 : decode cX12_face 12 = .ok (.aload_n 0, 1) := by decide +kernel
theorem dX12_face_13 : decode cX12_face 13 = .ok (.iload_n 2, 1) := by decide +kernel
theorem dX12_face_14 : decode cX12_face 14 = .ok (.iload_n 3, 1) := by decide +kernel
theorem dX12_face_15 : decode cX12_face 15 = .ok (.iload 4, 2) := by decide +kernel
theorem dX12_face_17 : decode cX12_face 17 = .ok (.invokevirtual 175, 3) := by decide +kernel
theorem dX12_face_20 : decode cX12_face 20 = .ok (.ifCond .ne 39, 3) := by decide +kernel
theorem dX12_face_23 : decode cX12_face 23 = .ok (.aload_n 0, 1) := by decide +kernel
theorem dX12_face_24 : decode cX12_face 24 = .ok (.ldc 179, 2) := by decide +kernel
theorem dX12_face_26 : decode cX12_face 26 = .ok (.iload 5, 2) := by decide +kernel
theorem dX12_face_28 : decode cX12_face 28 = .ok (.invokevirtual 53, 3) := by decide +kernel
theorem dX12_face_31 : decode cX12_face 31 = .ok (.ifCond .lt 16, 3) := by decide +kernel
theorem dX12_face_34 : decode cX12_face 34 = .ok (.iload 4, 2) := by decide +kernel
theorem dX12_face_36 : decode cX12_face 36 = .ok (.i2l, 1) := by decide +kernel
theorem dX12_face_37 : decode cX12_face 37 = .ok (.lconst 1, 1) := by decide +kernel
theorem dX12_face_38 : decode cX12_face 38 = .ok (.ldc2_w 181, 3) := by decide +kernel
theorem dX12_face_41 : decode cX12_face 41 = .ok (.invokestatic 44, 3) := by decide +kernel
theorem dX12_face_44 : decode cX12_face 44 = .ok (.ifCond .ne 7, 3) := by decide +kernel
theorem dX12_face_47 : decode cX12_face 47 = .ok (.iconst 1, 1) := by decide +kernel
theorem dX12_face_48 : decode cX12_face 48 = .ok (.goto 4, 3) := by decide +kernel
theorem dX12_face_51 : decode cX12_face 51 = .ok (.iconst 0, 1) := by decide +kernel
theorem dX12_face_52 : decode cX12_face 52 = .ok (.iconst 2, 1) := by decide +kernel
theorem dX12_face_53 : decode cX12_face 53 = .ok (.invokevirtual 67, 3) := by decide +kernel
theorem dX12_face_56 : decode cX12_face 56 = .ok (.ifCond .eq 5, 3) := by decide +kernel
theorem dX12_face_59 : decode cX12_face 59 = .ok (.iconst (-1), 1) := by decide +kernel
theorem dX12_face_60 : decode cX12_face 60 = .ok (.ireturn, 1) := by decide +kernel
theorem dX12_face_61 : decode cX12_face 61 = .ok (.aload_n 0, 1) := by decide +kernel
theorem dX12_face_62 : decode cX12_face 62 = .ok (.getfield 19, 3) := by decide +kernel
theorem dX12_face_65 : decode cX12_face 65 = .ok (.iload_n 1, 1) := by decide +kernel
theorem dX12_face_66 : decode cX12_face 66 = .ok (.invokeinterface 90 2, 5) := by decide +kernel
theorem dX12_face_71 : decode cX12_face 71 = .ok (.checkcast 129, 3) := by decide +kernel
theorem dX12_face_74 : decode cX12_face 74 = .ok (.astore 6, 2) := by decide +kernel
theorem dX12_face_76 : decode cX12_face 76 = .ok (.new 157, 3) := by decide +kernel
theorem dX12_face_79 : decode cX12_face 79 = .ok (.dup, 1) := by decide +kernel
theorem dX12_face_80 : decode cX12_face 80 = .ok (.aload_n 0, 1) := by decide +kernel
theorem dX12_face_81 : decode cX12_face 81 = .ok (.getfield 16, 3) := by decide +kernel
theorem dX12_face_84 : decode cX12_face 84 = .ok (.iload_n 2, 1) := by decide +kernel
theorem dX12_face_85 : decode cX12_face 85 = .ok (.invokeinterface 90 2, 5) := by decide +kernel
theorem dX12_face_90 : decode cX12_face 90 = .ok (.checkcast 98, 3) := by decide +kernel
theorem dX12_face_93 : decode cX12_face 93 = .ok (.iload_n 3, 1) := by decide +kernel
theorem dX12_face_94 : decode cX12_face 94 = .ok (.iload 4, 2) := by decide +kernel
theorem dX12_face_96 : decode cX12_face 96 = .ok (.invokespecial 183, 3) := by decide +kernel
theorem dX12_face_99 : decode cX12_face 99 = .ok (.astore 7, 2) := by decide +kernel
theorem dX12_face_101 : decode cX12_face 101 = .ok (.aload_n 0, 1) := by decide +kernel
theorem dX12_face_102 : decode cX12_face 102 = .ok (.aload 6, 2) := by decide +kernel
theorem dX12_face_104 : decode cX12_face 104 = .ok (.getfield 186, 3) := by decide +kernel
theorem dX12_face_107 : decode cX12_face 107 = .ok (.ifnonnull 19, 3) := by decide +kernel
theorem dX12_face_110 : decode cX12_face 110 = .ok (.aload 6, 2) := by decide +kernel
theorem dX12_face_112 : decode cX12_face 112 = .ok (.aload 7, 2) := by decide +kernel
theorem dX12_face_114 : decode cX12_face 114 = .ok (.getfield 164, 3) := by decide +kernel
theorem dX12_face_117 : decode cX12_face 117 = .ok (.iload_n 3, 1) := by decide +kernel
theorem dX12_face_118 : decode cX12_face 118 = .ok (.iload 4, 2) := by decide +kernel
theorem dX12_face_120 : decode cX12_face 120 = .ok (.invokestatic 190, 3) := by decide +kernel
theorem dX12_face_123 : decode cX12_face 123 = .ok (.ifCond .ne 7, 3) := by decide +kernel
theorem dX12_face_126 : decode cX12_face 126 = .ok (.iconst 1, 1) := by decide +kernel
theorem dX12_face_127 : decode cX12_face 127 = .ok (.goto 4, 3) := by decide +kernel
theorem dX12_face_130 : decode cX12_face 130 = .ok (.iconst 0, 1) := by decide +kernel
theorem dX12_face_131 : decode cX12_face 131 = .ok (.iconst 3, 1) := by decide +kernel
theorem dX12_face_132 : decode cX12_face 132 = .ok (.invokevirtual 67, 3) := by decide +kernel
theorem dX12_face_135 : decode cX12_face 135 = .ok (.ifCond .eq 5, 3) := by decide +kernel
theorem dX12_face_138 : decode cX12_face 138 = .ok (.iconst (-1), 1) := by decide +kernel
theorem dX12_face_139 : decode cX12_face 139 = .ok (.ireturn, 1) := by decide +kernel
theorem dX12_face_140 : decode cX12_face 140 = .ok (.aload_n 0, 1) := by decide +kernel
theorem dX12_face_141 : decode cX12_face 141 = .ok (.aload 6, 2) := by decide +kernel
theorem dX12_face_143 : decode cX12_face 143 = .ok (.aload 7, 2) := by decide +kernel
theorem dX12_face_145 : decode cX12_face 145 = .ok (.invokevirtual 194, 3) := by decide +kernel
theorem dX12_face_148 : decode cX12_face 148 = .ok (.istore 8, 2) := by decide +kernel
theorem dX12_face_150 : decode cX12_face 150 = .ok (.aload 6, 2) := by decide +kernel
theorem dX12_face_152 : decode cX12_face 152 = .ok (.aload 7, 2) := by decide +kernel
theorem dX12_face_154 : decode cX12_face 154 = .ok (.putfield 186, 3) := by decide +kernel
theorem dX12_face_157 : decode cX12_face 157 = .ok (.aload 6, 2) := by decide +kernel
theorem dX12_face_159 : decode cX12_face 159 = .ok (.aload 7, 2) := by decide +kernel
theorem dX12_face_161 : decode cX12_face 161 = .ok (.iload 5, 2) := by decide +kernel
theorem dX12_face_163 : decode cX12_face 163 = .ok (.invokevirtual 198, 3) := by decide +kernel
theorem dX12_face_166 : decode cX12_face 166 = .ok (.putfield 202, 3) := by decide +kernel
theorem dX12_face_169 : decode cX12_face 169 = .ok (.aload_n 0, 1) := by decide +kernel
theorem dX12_face_170 : decode cX12_face 170 = .ok (.dup, 1) := by decide +kernel
theorem dX12_face_171 : decode cX12_face 171 = .ok (.getfield 204, 3) := by decide +kernel
theorem dX12_face_174 : decode cX12_face 174 = .ok (.aload 6, 2) := by decide +kernel
theorem dX12_face_176 : decode cX12_face 176 = .ok (.getfield 140, 3) := by decide +kernel
theorem dX12_face_179 : decode cX12_face 179 = .ok (.aload 6, 2) := by decide +kernel
theorem dX12_face_181 : decode cX12_face 181 = .ok (.getfield 149, 3) := by decide +kernel
theorem dX12_face_184 : decode cX12_face 184 = .ok (.imul, 1) := by decide +kernel
theorem dX12_face_185 : decode cX12_face 185 = .ok (.iadd, 1) := by decide +kernel
theorem dX12_face_186 : decode cX12_face 186 = .ok (.putfield 204, 3) := by decide +kernel
theorem dX12_face_189 : decode cX12_face 189 = .ok (.aload 6, 2) := by decide +kernel
theorem dX12_face_191 : decode cX12_face 191 = .ok (.getfield 202, 3) := by decide +kernel
theorem dX12_face_194 : decode cX12_face 194 = .ok (.ireturn, 1) := by decide +kernel
theorem dX12_back_0 : decode cX12_back 0 = .ok (.aload_n 0, 1) := by decide +kernel
theorem dX12_back_1 : decode cX12_back 1 = .ok (.invokevirtual 48, 3) := by decide +kernel
theorem dX12_back_4 : decode cX12_back 4 = .ok (.aload_n 0, 1) := by decide +kernel
theorem dX12_back_5 : decode cX12_back 5 = .ok (.iload_n 1, 1) := by decide +kernel
theorem dX12_back_6 : decode cX12_back 6 = .ok (.invokevirtual 171, 3) := by decide +kernel
theorem dX12_back_9 : decode cX12_back 9 = .ok (.ifCond .ne 40, 3) := by decide +kernel
theorem dX12_back_12 : decode cX12_back 12 = .ok (.aload_n 0, 1) := by decide +kernel
theorem dX12_back_13 : decode cX12_back 13 = .ok (.iload_n 2, 1) := by decide +kernel
theorem dX12_back_14 : decode cX12_back 14 = .ok (.iload_n 3, 1) := by decide +kernel
theorem dX12_back_15 : decode cX12_back 15 = .ok (.iload 4, 2) := by decide +kernel
theorem dX12_back_17 : decode cX12_back 17 = .ok (.invokevirtual 175, 3) := by decide +kernel
theorem dX12_back_20 : decode cX12_back 20 = .ok (.ifCond .ne 29, 3) := by decide +kernel
theorem dX12_back_23 : decode cX12_back 23 = .ok (.aload_n 0, 1) := by decide +kernel
theorem dX12_back_24 : decode cX12_back 24 = .ok (.iload 4, 2) := by decide +kernel
theorem dX12_back_26 : decode cX12_back 26 = .ok (.i2l, 1) := by decide +kernel
theorem dX12_back_27 : decode cX12_back 27 = .ok (.lconst 1, 1) := by decide +kernel
theorem dX12_back_28 : decode cX12_back 28 = .ok (.ldc2_w 181, 3) := by decide +kernel
theorem dX12_back_31 : decode cX12_back 31 = .ok (.invokestatic 44, 3) := by decide +kernel
theorem dX12_back_34 : decode cX12_back 34 = .ok (.ifCond .ne 7, 3) := by decide +kernel
theorem dX12_back_37 : decode cX12_back 37 = .ok (.iconst 1, 1) := by decide +kernel
theorem dX12_back_38 : decode cX12_back 38 = .ok (.goto 4, 3) := by decide +kernel
theorem dX12_back_41 : decode cX12_back 41 = .ok (.iconst 0, 1) := by decide +kernel
theorem dX12_back_42 : decode cX12_back 42 = .ok (.iconst 2, 1) := by decide +kernel
theorem dX12_back_43 : decode cX12_back 43 = .ok (.invokevirtual 67, 3) := by decide +kernel
theorem dX12_back_46 : decode cX12_back 46 = .ok (.ifCond .eq 5, 3) := by decide +kernel
theorem dX12_back_49 : decode cX12_back 49 = .ok (.iconst (-1), 1) := by decide +kernel
theorem dX12_back_50 : decode cX12_back 50 = .ok (.ireturn, 1) := by decide +kernel
theorem dX12_back_51 : decode cX12_back 51 = .ok (.aload_n 0, 1) := by decide +kernel
theorem dX12_back_52 : decode cX12_back 52 = .ok (.getfield 19, 3) := by decide +kernel
theorem dX12_back_55 : decode cX12_back 55 = .ok (.iload_n 1, 1) := by decide +kernel
theorem dX12_back_56 : decode cX12_back 56 = .ok (.invokeinterface 90 2, 5) := by decide +kernel
theorem dX12_back_61 : decode cX12_back 61 = .ok (.checkcast 129, 3) := by decide +kernel
theorem dX12_back_64 : decode cX12_back 64 = .ok (.astore 5, 2) := by decide +kernel
theorem dX12_back_66 : decode cX12_back 66 = .ok (.new 157, 3) := by decide +kernel
theorem dX12_back_69 : decode cX12_back 69 = .ok (.dup, 1) := by decide +kernel
theorem dX12_back_70 : decode cX12_back 70 = .ok (.aload_n 0, 1) := by decide +kernel
theorem dX12_back_71 : decode cX12_back 71 = .ok (.getfield 16, 3) := by decide +kernel
theorem dX12_back_74 : decode cX12_back 74 = .ok (.iload_n 2, 1) := by decide +kernel
theorem dX12_back_75 : decode cX12_back 75 = .ok (.invokeinterface 90 2, 5) := by decide +kernel
theorem dX12_back_80 : decode cX12_back 80 = .ok (.checkcast 98, 3) := by decide +kernel
theorem dX12_back_83 : decode cX12_back 83 = .ok (.iload_n 3, 1) := by decide +kernel
theorem dX12_back_84 : decode cX12_back 84 = .ok (.iload 4, 2) := by decide +kernel
theorem dX12_back_86 : decode cX12_back 86 = .ok (.invokespecial 183, 3) := by decide +kernel
theorem dX12_back_89 : decode cX12_back 89 = .ok (.astore 6, 2) := by decide +kernel
theorem dX12_back_91 : decode cX12_back 91 = .ok (.aload_n 0, 1) := by decide +kernel
theorem dX12_back_92 : decode cX12_back 92 = .ok (.aload 5, 2) := by decide +kernel
theorem dX12_back_94 : decode cX12_back 94 = .ok (.getfield 207, 3) := by decide +kernel
theorem dX12_back_97 : decode cX12_back 97 = .ok (.ifnonnull 27, 3) := by decide +kernel
theorem dX12_back_100 : decode cX12_back 100 = .ok (.aload 5, 2) := by decide +kernel
theorem dX12_back_102 : decode cX12_back 102 = .ok (.getfield 210, 3) := by decide +kernel
theorem dX12_back_105 : decode cX12_back 105 = .ok (.ifCond .ne 19, 3) := by decide +kernel
theorem dX12_back_108 : decode cX12_back 108 = .ok (.aload 5, 2) := by decide +kernel
theorem dX12_back_110 : decode cX12_back 110 = .ok (.aload 6, 2) := by decide +kernel
theorem dX12_back_112 : decode cX12_back 112 = .ok (.getfield 164, 3) := by decide +kernel
theorem dX12_back_115 : decode cX12_back 115 = .ok (.iload_n 3, 1) := by decide +kernel
theorem dX12_back_116 : decode cX12_back 116 = .ok (.iload 4, 2) := by decide +kernel
theorem dX12_back_118 : decode cX12_back 118 = .ok (.invokestatic 190, 3) := by decide +kernel
theorem dX12_back_121 : decode cX12_back 121 = .ok (.ifCond .ne 7, 3) := by decide +kernel
theorem dX12_back_124 : decode cX12_back 124 = .ok (.iconst 1, 1) := by decide +kernel
theorem dX12_back_125 : decode cX12_back 125 = .ok (.goto 4, 3) := by decide +kernel
theorem dX12_back_128 : decode cX12_back 128 = .ok (.iconst 0, 1) := by decide +kernel
theorem dX12_back_129 : decode cX12_back 129 = .ok (.iconst 3, 1) := by decide +kernel
theorem dX12_back_130 : decode cX12_back 130 = .ok (.invokevirtual 67, 3) := by decide +kernel
theorem dX12_back_133 : decode cX12_back 133 = .ok (.ifCond .eq 5, 3) := by decide +kernel
theorem dX12_back_136 : decode cX12_back 136 = .ok (.iconst (-1), 1) := by decide +kernel
theorem dX12_back_137 : decode cX12_back 137 = .ok (.ireturn, 1) := by decide +kernel
theorem dX12_back_138 : decode cX12_back 138 = .ok (.aload 5, 2) := by decide +kernel
theorem dX12_back_140 : decode cX12_back 140 = .ok (.aload 6, 2) := by decide +kernel
theorem dX12_back_142 : decode cX12_back 142 = .ok (.putfield 207, 3) := by decide +kernel
theorem dX12_back_145 : decode cX12_back 145 = .ok (.aload_n 0, 1) := by decide +kernel
theorem dX12_back_146 : decode cX12_back 146 = .ok (.dup, 1) := by decide +kernel
theorem dX12_back_147 : decode cX12_back 147 = .ok (.getfield 213, 3) := by decide +kernel
theorem dX12_back_150 : decode cX12_back 150 = .ok (.aload 5, 2) := by decide +kernel
theorem dX12_back_152 : decode cX12_back 152 = .ok (.getfield 140, 3) := by decide +kernel
theorem dX12_back_155 : decode cX12_back 155 = .ok (.aload 5, 2) := by decide +kernel
theorem dX12_back_157 : decode cX12_back 157 = .ok (.getfield 149, 3) := by decide +kernel
theorem dX12_back_160 : decode cX12_back 160 = .ok (.imul, 1) := by decide +kernel
theorem dX12_back_161 : decode cX12_back 161 = .ok (.iadd, 1) := by decide +kernel
theorem dX12_back_162 : decode cX12_back 162 = .ok (.putfield 213, 3) := by decide +kernel
theorem dX12_back_165 : decode cX12_back 165 = .ok (.aload_n 0, 1) := by decide +kernel
theorem dX12_back_166 : decode cX12_back 166 = .ok (.aload 5, 2) := by decide +kernel
theorem dX12_back_168 : decode cX12_back 168 = .ok (.aload 6, 2) := by decide +kernel
theorem dX12_back_170 : decode cX12_back 170 = .ok (.invokevirtual 194, 3) := by decide +kernel
theorem dX12_back_173 : decode cX12_back 173 = .ok (.ireturn, 1) := by decide +kernel
theorem dX12_jump_0 : decode cX12_jump 0 = .ok (.aload_n 0, 1) := by decide +kernel
theorem dX12_jump_1 : decode cX12_jump 1 = .ok (.invokevirtual 48, 3) := by decide +kernel
theorem dX12_jump_4 : decode cX12_jump 4 = .ok (.aload_n 0, 1) := by decide +kernel
theorem dX12_jump_5 : decode cX12_jump 5 = .ok (.iload_n 1, 1) := by decide +kernel
theorem dX12_jump_6 : decode cX12_jump 6 = .ok (.invokevirtual 171, 3) := by decide +kernel
theorem dX12_jump_9 : decode cX12_jump 9 = .ok (.ifCond .ne 35, 3) := by decide +kernel
theorem dX12_jump_12 : decode cX12_jump 12 = .ok (.aload_n 0, 1) := by decide +kernel
theorem dX12_jump_13 : decode cX12_jump 13 = .ok (.aload_n 0, 1) := by decide +kernel
theorem dX12_jump_14 : decode cX12_jump 14 = .ok (.getfield 19, 3) := by decide +kernel
theorem dX12_jump_17 : decode cX12_jump 17 = .ok (.iload_n 1, 1) := by decide +kernel
theorem dX12_jump_18 : decode cX12_jump 18 = .ok (.invokeinterface 90 2, 5) := by decide +kernel
theorem dX12_jump_23 : decode cX12_jump 23 = .ok (.checkcast 129, 3) := by decide +kernel
theorem dX12_jump_26 : decode cX12_jump 26 = .ok (.getfield 186, 3) := by decide +kernel
theorem dX12_jump_29 : decode cX12_jump 29 = .ok (.ifnonnull 7, 3) := by decide +kernel
theorem dX12_jump_32 : decode cX12_jump 32 = .ok (.iconst 1, 1) := by decide +kernel
theorem dX12_jump_33 : decode cX12_jump 33 = .ok (.goto 4, 3) := by decide +kernel
theorem dX12_jump_36 : decode cX12_jump 36 = .ok (.iconst 0, 1) := by decide +kernel
theorem dX12_jump_37 : decode cX12_jump 37 = .ok (.iconst 2, 1) := by decide +kernel
theorem dX12_jump_38 : decode cX12_jump 38 = .ok (.invokevirtual 67, 3) := by decide +kernel
theorem dX12_jump_41 : decode cX12_jump 41 = .ok (.ifCond .eq 7, 3) := by decide +kernel
theorem dX12_jump_44 : decode cX12_jump 44 = .ok (.iconst (-1), 1) := by decide +kernel
theorem dX12_jump_45 : decode cX12_jump 45 = .ok (.goto 19, 3) := by decide +kernel
theorem dX12_jump_48 : decode cX12_jump 48 = .ok (.aload_n 0, 1) := by decide +kernel
theorem dX12_jump_49 : decode cX12_jump 49 = .ok (.getfield 19, 3) := by decide +kernel
theorem dX12_jump_52 : decode cX12_jump 52 = .ok (.iload_n 1, 1) := by decide +kernel
theorem dX12_jump_53 : decode cX12_jump 53 = .ok (.invokeinterface 90 2, 5) := by decide +kernel
theorem dX12_jump_58 : decode cX12_jump 58 = .ok (.checkcast 129, 3) := by decide +kernel
theorem dX12_jump_61 : decode cX12_jump 61 = .ok (.getfield 202, 3) := by decide +kernel
theorem dX12_jump_64 : decode cX12_jump 64 = .ok (.ireturn, 1) := by decide +kernel
theorem dX12_bestFirst_0 : decode cX12_bestFirst 0 = .ok (.aload_n 0, 1) := by decide +kernel
theorem dX12_bestFirst_1 : decode cX12_bestFirst 1 = .ok (.invokevirtual 48, 3) := by decide +kernel
theorem dX12_bestFirst_4 : decode cX12_bestFirst 4 = .ok (.aload_n 0, 1) := by decide +kernel
theorem dX12_bestFirst_5 : decode cX12_bestFirst 5 = .ok (.aload_n 0, 1) := by decide +kernel
theorem dX12_bestFirst_6 : decode cX12_bestFirst 6 = .ok (.getfield 19, 3) := by decide +kernel
theorem dX12_bestFirst_9 : decode cX12_bestFirst 9 = .ok (.iload_n 1, 1) := by decide +kernel
theorem dX12_bestFirst_10 : decode cX12_bestFirst 10 = .ok (.invokestatic 80, 3) := by decide +kernel
theorem dX12_bestFirst_13 : decode cX12_bestFirst 13 = .ok (.ifCond .eq 14, 3) := by decide +kernel
theorem dX12_bestFirst_16 : decode cX12_bestFirst 16 = .ok (.aload_n 0, 1) := by decide +kernel
theorem dX12_bestFirst_17 : decode cX12_bestFirst 17 = .ok (.getfield 16, 3) := by decide +kernel
theorem dX12_bestFirst_20 : decode cX12_bestFirst 20 = .ok (.iload_n 2, 1) := by decide +kernel
theorem dX12_bestFirst_21 : decode cX12_bestFirst 21 = .ok (.invokestatic 80, 3) := by decide +kernel
theorem dX12_bestFirst_24 : decode cX12_bestFirst 24 = .ok (.ifCond .ne 7, 3) := by decide +kernel
theorem dX12_bestFirst_27 : decode cX12_bestFirst 27 = .ok (.iconst 1, 1) := by decide +kernel
theorem dX12_bestFirst_28 : decode cX12_bestFirst 28 = .ok (.goto 4, 3) := by decide +kernel
theorem dX12_bestFirst_31 : decode cX12_bestFirst 31 = .ok (.iconst 0, 1) := by decide +kernel
theorem dX12_bestFirst_32 : decode cX12_bestFirst 32 = .ok (.iconst 1, 1) := by decide +kernel
theorem dX12_bestFirst_33 : decode cX12_bestFirst 33 = .ok (.invokevirtual 67, 3) := by decide +kernel
theorem dX12_bestFirst_36 : decode cX12_bestFirst 36 = .ok (.ifCond .ne 38, 3) := by decide +kernel
theorem dX12_bestFirst_39 : decode cX12_bestFirst 39 = .ok (.aload_n 0, 1) := by decide +kernel
theorem dX12_bestFirst_40 : decode cX12_bestFirst 40 = .ok (.ldc 179, 2) := by decide +kernel
theorem dX12_bestFirst_42 : decode cX12_bestFirst 42 = .ok (.iload 4, 2) := by decide +kernel
theorem dX12_bestFirst_44 : decode cX12_bestFirst 44 = .ok (.invokevirtual 53, 3) := by decide +kernel
theorem dX12_bestFirst_47 : decode cX12_bestFirst 47 = .ok (.ifCond .lt 15, 3) := by decide +kernel
theorem dX12_bestFirst_50 : decode cX12_bestFirst 50 = .ok (.iload_n 3, 1) := by decide +kernel
theorem dX12_bestFirst_51 : decode cX12_bestFirst 51 = .ok (.i2l, 1) := by decide +kernel
theorem dX12_bestFirst_52 : decode cX12_bestFirst 52 = .ok (.lconst 1, 1) := by decide +kernel
theorem dX12_bestFirst_53 : decode cX12_bestFirst 53 = .ok (.ldc2_w 181, 3) := by decide +kernel
theorem dX12_bestFirst_56 : decode cX12_bestFirst 56 = .ok (.invokestatic 44, 3) := by decide +kernel
theorem dX12_bestFirst_59 : decode cX12_bestFirst 59 = .ok (.ifCond .ne 7, 3) := by decide +kernel
theorem dX12_bestFirst_62 : decode cX12_bestFirst 62 = .ok (.iconst 1, 1) := by decide +kernel
theorem dX12_bestFirst_63 : decode cX12_bestFirst 63 = .ok (.goto 4, 3) := by decide +kernel
theorem dX12_bestFirst_66 : decode cX12_bestFirst 66 = .ok (.iconst 0, 1) := by decide +kernel
theorem dX12_bestFirst_67 : decode cX12_bestFirst 67 = .ok (.iconst 2, 1) := by decide +kernel
theorem dX12_bestFirst_68 : decode cX12_bestFirst 68 = .ok (.invokevirtual 67, 3) := by decide +kernel
theorem dX12_bestFirst_71 : decode cX12_bestFirst 71 = .ok (.ifCond .eq 5, 3) := by decide +kernel
theorem dX12_bestFirst_74 : decode cX12_bestFirst 74 = .ok (.iconst (-1), 1) := by decide +kernel
theorem dX12_bestFirst_75 : decode cX12_bestFirst 75 = .ok (.ireturn, 1) := by decide +kernel
theorem dX12_bestFirst_76 : decode cX12_bestFirst 76 = .ok (.aload_n 0, 1) := by decide +kernel
theorem dX12_bestFirst_77 : decode cX12_bestFirst 77 = .ok (.getfield 16, 3) := by decide +kernel
theorem dX12_bestFirst_80 : decode cX12_bestFirst 80 = .ok (.iload_n 2, 1) := by decide +kernel
theorem dX12_bestFirst_81 : decode cX12_bestFirst 81 = .ok (.invokeinterface 90 2, 5) := by decide +kernel
theorem dX12_bestFirst_86 : decode cX12_bestFirst 86 = .ok (.checkcast 98, 3) := by decide +kernel
theorem dX12_bestFirst_89 : decode cX12_bestFirst 89 = .ok (.astore 5, 2) := by decide +kernel
theorem dX12_bestFirst_91 : decode cX12_bestFirst 91 = .ok (.iconst (-1), 1) := by decide +kernel
theorem dX12_bestFirst_92 : decode cX12_bestFirst 92 = .ok (.istore 6, 2) := by decide +kernel
theorem dX12_bestFirst_94 : decode cX12_bestFirst 94 = .ok (.iconst 0, 1) := by decide +kernel
theorem dX12_bestFirst_95 : decode cX12_bestFirst 95 = .ok (.istore 7, 2) := by decide +kernel
theorem dX12_bestFirst_97 : decode cX12_bestFirst 97 = .ok (.iconst 0, 1) := by decide +kernel
theorem dX12_bestFirst_98 : decode cX12_bestFirst 98 = .ok (.istore 8, 2) := by decide +kernel
theorem dX12_bestFirst_100 : decode cX12_bestFirst 100 = .ok (.iload 8, 2) := by decide +kernel
theorem dX12_bestFirst_102 : decode cX12_bestFirst 102 = .ok (.iload_n 3, 1) := by decide +kernel
theorem dX12_bestFirst_103 : decode cX12_bestFirst 103 = .ok (.iadd, 1) := by decide +kernel
theorem dX12_bestFirst_104 : decode cX12_bestFirst 104 = .ok (.aload 5, 2) := by decide +kernel
theorem dX12_bestFirst_106 : decode cX12_bestFirst 106 = .ok (.getfield 103, 3) := by decide +kernel
theorem dX12_bestFirst_109 : decode cX12_bestFirst 109 = .ok (.arraylength, 1) := by decide +kernel
theorem dX12_bestFirst_110 : decode cX12_bestFirst 110 = .ok (.if_icmp .gt 73, 3) := by decide +kernel
theorem dX12_bestFirst_113 : decode cX12_bestFirst 113 = .ok (.new 157, 3) := by decide +kernel
theorem dX12_bestFirst_116 : decode cX12_bestFirst 116 = .ok (.dup, 1) := by decide +kernel
theorem dX12_bestFirst_117 : decode cX12_bestFirst 117 = .ok (.aload 5, 2) := by decide +kernel
theorem dX12_bestFirst_119 : decode cX12_bestFirst 119 = .ok (.iload 8, 2) := by decide +kernel
theorem dX12_bestFirst_121 : decode cX12_bestFirst 121 = .ok (.iload_n 3, 1) := by decide +kernel
theorem dX12_bestFirst_122 : decode cX12_bestFirst 122 = .ok (.invokespecial 183, 3) := by decide +kernel
theorem dX12_bestFirst_125 : decode cX12_bestFirst 125 = .ok (.iload 4, 2) := by decide +kernel
theorem dX12_bestFirst_127 : decode cX12_bestFirst 127 = .ok (.invokevirtual 198, 3) := by decide +kernel
theorem dX12_bestFirst_130 : decode cX12_bestFirst 130 = .ok (.istore 9, 2) := by decide +kernel
theorem dX12_bestFirst_132 : decode cX12_bestFirst 132 = .ok (.aload_n 0, 1) := by decide +kernel
theorem dX12_bestFirst_133 : decode cX12_bestFirst 133 = .ok (.getfield 19, 3) := by decide +kernel
theorem dX12_bestFirst_136 : decode cX12_bestFirst 136 = .ok (.iload_n 1, 1) := by decide +kernel
theorem dX12_bestFirst_137 : decode cX12_bestFirst 137 = .ok (.invokeinterface 90 2, 5) := by decide +kernel
theorem dX12_bestFirst_142 : decode cX12_bestFirst 142 = .ok (.checkcast 129, 3) := by decide +kernel
theorem dX12_bestFirst_145 : decode cX12_bestFirst 145 = .ok (.aload 5, 2) := by decide +kernel
theorem dX12_bestFirst_147 : decode cX12_bestFirst 147 = .ok (.iload 8, 2) := by decide +kernel
theorem dX12_bestFirst_149 : decode cX12_bestFirst 149 = .ok (.iload_n 3, 1) := by decide +kernel
theorem dX12_bestFirst_150 : decode cX12_bestFirst 150 = .ok (.invokestatic 190, 3) := by decide +kernel
theorem dX12_bestFirst_153 : decode cX12_bestFirst 153 = .ok (.ifCond .eq 24, 3) := by decide +kernel
theorem dX12_bestFirst_156 : decode cX12_bestFirst 156 = .ok (.iload 6, 2) := by decide +kernel
theorem dX12_bestFirst_158 : decode cX12_bestFirst 158 = .ok (.iconst (-1), 1) := by decide +kernel
theorem dX12_bestFirst_159 : decode cX12_bestFirst 159 = .ok (.if_icmp .eq 10, 3) := by decide +kernel
theorem dX12_bestFirst_162 : decode cX12_bestFirst 162 = .ok (.iload 9, 2) := by decide +kernel
theorem dX12_bestFirst_164 : decode cX12_bestFirst 164 = .ok (.iload 7, 2) := by decide +kernel
theorem dX12_bestFirst_166 : decode cX12_bestFirst 166 = .ok (.if_icmp .ge 11, 3) := by decide +kernel
theorem dX12_bestFirst_169 : decode cX12_bestFirst 169 = .ok (.iload 8, 2) := by decide +kernel
theorem dX12_bestFirst_171 : decode cX12_bestFirst 171 = .ok (.istore 6, 2) := by decide +kernel
theorem dX12_bestFirst_173 : decode cX12_bestFirst 173 = .ok (.iload 9, 2) := by decide +kernel
theorem dX12_bestFirst_175 : decode cX12_bestFirst 175 = .ok (.istore 7, 2) := by decide +kernel
theorem dX12_bestFirst_177 : decode cX12_bestFirst 177 = .ok (.iinc 8 1, 3) := by decide +kernel
theorem dX12_bestFirst_180 : decode cX12_bestFirst 180 = .ok (.goto (-80), 3) := by decide +kernel
theorem dX12_bestFirst_183 : decode cX12_bestFirst 183 = .ok (.aload_n 0, 1) := by decide +kernel
theorem dX12_bestFirst_184 : decode cX12_bestFirst 184 = .ok (.iload 6, 2) := by decide +kernel
theorem dX12_bestFirst_186 : decode cX12_bestFirst 186 = .ok (.iconst (-1), 1) := by decide +kernel
theorem dX12_bestFirst_187 : decode cX12_bestFirst 187 = .ok (.if_icmp .ne 7, 3) := by decide +kernel
theorem dX12_bestFirst_190 : decode cX12_bestFirst 190 = .ok (.iconst 1, 1) := by decide +kernel
theorem dX12_bestFirst_191 : decode cX12_bestFirst 191 = .ok (.goto 4, 3) := by decide +kernel
theorem dX12_bestFirst_194 : decode cX12_bestFirst 194 = .ok (.iconst 0, 1) := by decide +kernel
theorem dX12_bestFirst_195 : decode cX12_bestFirst 195 = .ok (.iconst 3, 1) := by decide +kernel
theorem dX12_bestFirst_196 : decode cX12_bestFirst 196 = .ok (.invokevirtual 67, 3) := by decide +kernel
theorem dX12_bestFirst_199 : decode cX12_bestFirst 199 = .ok (.ifCond .eq 7, 3) := by decide +kernel
theorem dX12_bestFirst_202 : decode cX12_bestFirst 202 = .ok (.iconst (-1), 1) := by decide +kernel
theorem dX12_bestFirst_203 : decode cX12_bestFirst 203 = .ok (.goto 5, 3) := by decide +kernel
theorem dX12_bestFirst_206 : decode cX12_bestFirst 206 = .ok (.iload 6, 2) := by decide +kernel
theorem dX12_bestFirst_208 : decode cX12_bestFirst 208 = .ok (.ireturn, 1) := by decide +kernel
theorem dX12_press_0 : decode cX12_press 0 = .ok (.aload_n 0, 1) := by decide +kernel
theorem dX12_press_1 : decode cX12_press 1 = .ok (.invokevirtual 48, 3) := by decide +kernel
theorem dX12_press_4 : decode cX12_press 4 = .ok (.aload_n 0, 1) := by decide +kernel
theorem dX12_press_5 : decode cX12_press 5 = .ok (.iload_n 1, 1) := by decide +kernel
theorem dX12_press_6 : decode cX12_press 6 = .ok (.invokevirtual 171, 3) := by decide +kernel
theorem dX12_press_9 : decode cX12_press 9 = .ok (.ifCond .ne 104, 3) := by decide +kernel
theorem dX12_press_12 : decode cX12_press 12 = .ok (.aload_n 0, 1) := by decide +kernel
theorem dX12_press_13 : decode cX12_press 13 = .ok (.iload_n 2, 1) := by decide +kernel
theorem dX12_press_14 : decode cX12_press 14 = .ok (.i2l, 1) := by decide +kernel
theorem dX12_press_15 : decode cX12_press 15 = .ok (.lconst 0, 1) := by decide +kernel
theorem dX12_press_16 : decode cX12_press 16 = .ok (.ldc2_w 216, 3) := by decide +kernel
theorem dX12_press_19 : decode cX12_press 19 = .ok (.invokestatic 44, 3) := by decide +kernel
theorem dX12_press_22 : decode cX12_press 22 = .ok (.ifCond .eq 28, 3) := by decide +kernel
theorem dX12_press_25 : decode cX12_press 25 = .ok (.iload_n 3, 1) := by decide +kernel
theorem dX12_press_26 : decode cX12_press 26 = .ok (.i2l, 1) := by decide +kernel
theorem dX12_press_27 : decode cX12_press 27 = .ok (.lconst 1, 1) := by decide +kernel
theorem dX12_press_28 : decode cX12_press 28 = .ok (.ldc2_w 218, 3) := by decide +kernel
theorem dX12_press_31 : decode cX12_press 31 = .ok (.invokestatic 44, 3) := by decide +kernel
theorem dX12_press_34 : decode cX12_press 34 = .ok (.ifCond .eq 16, 3) := by decide +kernel
theorem dX12_press_37 : decode cX12_press 37 = .ok (.iload 4, 2) := by decide +kernel
theorem dX12_press_39 : decode cX12_press 39 = .ok (.i2l, 1) := by decide +kernel
theorem dX12_press_40 : decode cX12_press 40 = .ok (.lconst 0, 1) := by decide +kernel
theorem dX12_press_41 : decode cX12_press 41 = .ok (.ldc2_w 216, 3) := by decide +kernel
theorem dX12_press_44 : decode cX12_press 44 = .ok (.invokestatic 44, 3) := by decide +kernel
theorem dX12_press_47 : decode cX12_press 47 = .ok (.ifCond .ne 7, 3) := by decide +kernel
theorem dX12_press_50 : decode cX12_press 50 = .ok (.iconst 1, 1) := by decide +kernel
theorem dX12_press_51 : decode cX12_press 51 = .ok (.goto 4, 3) := by decide +kernel
theorem dX12_press_54 : decode cX12_press 54 = .ok (.iconst 0, 1) := by decide +kernel
theorem dX12_press_55 : decode cX12_press 55 = .ok (.iconst 2, 1) := by decide +kernel
theorem dX12_press_56 : decode cX12_press 56 = .ok (.invokevirtual 67, 3) := by decide +kernel
theorem dX12_press_59 : decode cX12_press 59 = .ok (.ifCond .ne 54, 3) := by decide +kernel
theorem dX12_press_62 : decode cX12_press 62 = .ok (.aload_n 0, 1) := by decide +kernel
theorem dX12_press_63 : decode cX12_press 63 = .ok (.aload_n 0, 1) := by decide +kernel
theorem dX12_press_64 : decode cX12_press 64 = .ok (.getfield 19, 3) := by decide +kernel
theorem dX12_press_67 : decode cX12_press 67 = .ok (.iload_n 1, 1) := by decide +kernel
theorem dX12_press_68 : decode cX12_press 68 = .ok (.invokeinterface 90 2, 5) := by decide +kernel
theorem dX12_press_73 : decode cX12_press 73 = .ok (.checkcast 129, 3) := by decide +kernel
theorem dX12_press_76 : decode cX12_press 76 = .ok (.getfield 186, 3) := by decide +kernel
theorem dX12_press_79 : decode cX12_press 79 = .ok (.ifnull 22, 3) := by decide +kernel
theorem dX12_press_82 : decode cX12_press 82 = .ok (.aload_n 0, 1) := by decide +kernel
theorem dX12_press_83 : decode cX12_press 83 = .ok (.getfield 19, 3) := by decide +kernel
theorem dX12_press_86 : decode cX12_press 86 = .ok (.iload_n 1, 1) := by decide +kernel
theorem dX12_press_87 : decode cX12_press 87 = .ok (.invokeinterface 90 2, 5) := by decide +kernel
theorem dX12_press_92 : decode cX12_press 92 = .ok (.checkcast 129, 3) := by decide +kernel
theorem dX12_press_95 : decode cX12_press 95 = .ok (.getfield 210, 3) := by decide +kernel
theorem dX12_press_98 : decode cX12_press 98 = .ok (.ifCond .eq 7, 3) := by decide +kernel
theorem dX12_press_101 : decode cX12_press 101 = .ok (.iconst 1, 1) := by decide +kernel
theorem dX12_press_102 : decode cX12_press 102 = .ok (.goto 4, 3) := by decide +kernel
theorem dX12_press_105 : decode cX12_press 105 = .ok (.iconst 0, 1) := by decide +kernel
theorem dX12_press_106 : decode cX12_press 106 = .ok (.iconst 3, 1) := by decide +kernel
theorem dX12_press_107 : decode cX12_press 107 = .ok (.invokevirtual 67, 3) := by decide +kernel
theorem dX12_press_110 : decode cX12_press 110 = .ok (.ifCond .eq 5, 3) := by decide +kernel
theorem dX12_press_113 : decode cX12_press 113 = .ok (.iconst (-1), 1) := by decide +kernel
theorem dX12_press_114 : decode cX12_press 114 = .ok (.ireturn, 1) := by decide +kernel
theorem dX12_press_115 : decode cX12_press 115 = .ok (.aload_n 0, 1) := by decide +kernel
theorem dX12_press_116 : decode cX12_press 116 = .ok (.getfield 19, 3) := by decide +kernel
theorem dX12_press_119 : decode cX12_press 119 = .ok (.iload_n 1, 1) := by decide +kernel
theorem dX12_press_120 : decode cX12_press 120 = .ok (.invokeinterface 90 2, 5) := by decide +kernel
theorem dX12_press_125 : decode cX12_press 125 = .ok (.checkcast 129, 3) := by decide +kernel
theorem dX12_press_128 : decode cX12_press 128 = .ok (.astore 5, 2) := by decide +kernel
theorem dX12_press_130 : decode cX12_press 130 = .ok (.iload 4, 2) := by decide +kernel
theorem dX12_press_132 : decode cX12_press 132 = .ok (.iconst 4, 1) := by decide +kernel
theorem dX12_press_133 : decode cX12_press 133 = .ok (.iload_n 2, 1) := by decide +kernel
theorem dX12_press_134 : decode cX12_press 134 = .ok (.iconst 3, 1) := by decide +kernel
theorem dX12_press_135 : decode cX12_press 135 = .ok (.idiv, 1) := by decide +kernel
theorem dX12_press_136 : decode cX12_press 136 = .ok (.iadd, 1) := by decide +kernel
theorem dX12_press_137 : decode cX12_press 137 = .ok (.if_icmp .le 7, 3) := by decide +kernel
theorem dX12_press_140 : decode cX12_press 140 = .ok (.iconst 2, 1) := by decide +kernel
theorem dX12_press_141 : decode cX12_press 141 = .ok (.goto 4, 3) := by decide +kernel
theorem dX12_press_144 : decode cX12_press 144 = .ok (.iconst 0, 1) := by decide +kernel
theorem dX12_press_145 : decode cX12_press 145 = .ok (.iload_n 3, 1) := by decide +kernel
theorem dX12_press_146 : decode cX12_press 146 = .ok (.bipush 20, 2) := by decide +kernel
theorem dX12_press_148 : decode cX12_press 148 = .ok (.aload_n 0, 1) := by decide +kernel
theorem dX12_press_149 : decode cX12_press 149 = .ok (.getfield 22, 3) := by decide +kernel
theorem dX12_press_152 : decode cX12_press 152 = .ok (.iload_n 1, 1) := by decide +kernel
theorem dX12_press_153 : decode cX12_press 153 = .ok (.invokeinterface 90 2, 5) := by decide +kernel
theorem dX12_press_158 : decode cX12_press 158 = .ok (.checkcast 135, 3) := by decide +kernel
theorem dX12_press_161 : decode cX12_press 161 = .ok (.invokevirtual 220, 3) := by decide +kernel
theorem dX12_press_164 : decode cX12_press 164 = .ok (.iconst 4, 1) := by decide +kernel
theorem dX12_press_165 : decode cX12_press 165 = .ok (.idiv, 1) := by decide +kernel
theorem dX12_press_166 : decode cX12_press 166 = .ok (.iadd, 1) := by decide +kernel
theorem dX12_press_167 : decode cX12_press 167 = .ok (.iload_n 2, 1) := by decide +kernel
theorem dX12_press_168 : decode cX12_press 168 = .ok (.iconst 3, 1) := by decide +kernel
theorem dX12_press_169 : decode cX12_press 169 = .ok (.idiv, 1) := by decide +kernel
theorem dX12_press_170 : decode cX12_press 170 = .ok (.isub, 1) := by decide +kernel
theorem dX12_press_171 : decode cX12_press 171 = .ok (.if_icmp .ge 7, 3) := by decide +kernel
theorem dX12_press_174 : decode cX12_press 174 = .ok (.iconst 1, 1) := by decide +kernel
theorem dX12_press_175 : decode cX12_press 175 = .ok (.goto 4, 3) := by decide +kernel
theorem dX12_press_178 : decode cX12_press 178 = .ok (.iconst 0, 1) := by decide +kernel
theorem dX12_press_179 : decode cX12_press 179 = .ok (.iadd, 1) := by decide +kernel
theorem dX12_press_180 : decode cX12_press 180 = .ok (.istore 6, 2) := by decide +kernel
theorem dX12_press_182 : decode cX12_press 182 = .ok (.aload 5, 2) := by decide +kernel
theorem dX12_press_184 : decode cX12_press 184 = .ok (.iconst 1, 1) := by decide +kernel
theorem dX12_press_185 : decode cX12_press 185 = .ok (.putfield 210, 3) := by decide +kernel
theorem dX12_press_188 : decode cX12_press 188 = .ok (.aload 5, 2) := by decide +kernel
theorem dX12_press_190 : decode cX12_press 190 = .ok (.aload_n 0, 1) := by decide +kernel
theorem dX12_press_191 : decode cX12_press 191 = .ok (.getfield 28, 3) := by decide +kernel
theorem dX12_press_194 : decode cX12_press 194 = .ok (.putfield 223, 3) := by decide +kernel
theorem dX12_press_197 : decode cX12_press 197 = .ok (.aload 5, 2) := by decide +kernel
theorem dX12_press_199 : decode cX12_press 199 = .ok (.iload 6, 2) := by decide +kernel
theorem dX12_press_201 : decode cX12_press 201 = .ok (.aload 5, 2) := by decide +kernel
theorem dX12_press_203 : decode cX12_press 203 = .ok (.getfield 186, 3) := by decide +kernel
theorem dX12_press_206 : decode cX12_press 206 = .ok (.getfield 161, 3) := by decide +kernel
theorem dX12_press_209 : decode cX12_press 209 = .ok (.imul, 1) := by decide +kernel
theorem dX12_press_210 : decode cX12_press 210 = .ok (.putfield 226, 3) := by decide +kernel
theorem dX12_press_213 : decode cX12_press 213 = .ok (.aload 5, 2) := by decide +kernel
theorem dX12_press_215 : decode cX12_press 215 = .ok (.getfield 226, 3) := by decide +kernel
theorem dX12_press_218 : decode cX12_press 218 = .ok (.ireturn, 1) := by decide +kernel
theorem dX12_slit_0 : decode cX12_slit 0 = .ok (.aload_n 0, 1) := by decide +kernel
theorem dX12_slit_1 : decode cX12_slit 1 = .ok (.invokevirtual 48, 3) := by decide +kernel
theorem dX12_slit_4 : decode cX12_slit 4 = .ok (.aload_n 0, 1) := by decide +kernel
theorem dX12_slit_5 : decode cX12_slit 5 = .ok (.iload_n 1, 1) := by decide +kernel
theorem dX12_slit_6 : decode cX12_slit 6 = .ok (.invokevirtual 171, 3) := by decide +kernel
theorem dX12_slit_9 : decode cX12_slit 9 = .ok (.ifCond .ne 35, 3) := by decide +kernel
theorem dX12_slit_12 : decode cX12_slit 12 = .ok (.aload_n 0, 1) := by decide +kernel
theorem dX12_slit_13 : decode cX12_slit 13 = .ok (.aload_n 0, 1) := by decide +kernel
theorem dX12_slit_14 : decode cX12_slit 14 = .ok (.getfield 19, 3) := by decide +kernel
theorem dX12_slit_17 : decode cX12_slit 17 = .ok (.iload_n 1, 1) := by decide +kernel
theorem dX12_slit_18 : decode cX12_slit 18 = .ok (.invokeinterface 90 2, 5) := by decide +kernel
theorem dX12_slit_23 : decode cX12_slit 23 = .ok (.checkcast 129, 3) := by decide +kernel
theorem dX12_slit_26 : decode cX12_slit 26 = .ok (.getfield 226, 3) := by decide +kernel
theorem dX12_slit_29 : decode cX12_slit 29 = .ok (.ifCond .ne 7, 3) := by decide +kernel
theorem dX12_slit_32 : decode cX12_slit 32 = .ok (.iconst 1, 1) := by decide +kernel
theorem dX12_slit_33 : decode cX12_slit 33 = .ok (.goto 4, 3) := by decide +kernel
theorem dX12_slit_36 : decode cX12_slit 36 = .ok (.iconst 0, 1) := by decide +kernel
theorem dX12_slit_37 : decode cX12_slit 37 = .ok (.iconst 2, 1) := by decide +kernel
theorem dX12_slit_38 : decode cX12_slit 38 = .ok (.invokevirtual 67, 3) := by decide +kernel
theorem dX12_slit_41 : decode cX12_slit 41 = .ok (.ifCond .eq 5, 3) := by decide +kernel
theorem dX12_slit_44 : decode cX12_slit 44 = .ok (.iconst (-1), 1) := by decide +kernel
theorem dX12_slit_45 : decode cX12_slit 45 = .ok (.ireturn, 1) := by decide +kernel
theorem dX12_slit_46 : decode cX12_slit 46 = .ok (.aload_n 0, 1) := by decide +kernel
theorem dX12_slit_47 : decode cX12_slit 47 = .ok (.getfield 19, 3) := by decide +kernel
theorem dX12_slit_50 : decode cX12_slit 50 = .ok (.iload_n 1, 1) := by decide +kernel
theorem dX12_slit_51 : decode cX12_slit 51 = .ok (.invokeinterface 90 2, 5) := by decide +kernel
theorem dX12_slit_56 : decode cX12_slit 56 = .ok (.checkcast 129, 3) := by decide +kernel
theorem dX12_slit_59 : decode cX12_slit 59 = .ok (.dup, 1) := by decide +kernel
theorem dX12_slit_60 : decode cX12_slit 60 = .ok (.getfield 226, 3) := by decide +kernel
theorem dX12_slit_63 : decode cX12_slit 63 = .ok (.iconst 1, 1) := by decide +kernel
theorem dX12_slit_64 : decode cX12_slit 64 = .ok (.isub, 1) := by decide +kernel
theorem dX12_slit_65 : decode cX12_slit 65 = .ok (.putfield 226, 3) := by decide +kernel
theorem dX12_slit_68 : decode cX12_slit 68 = .ok (.aload_n 0, 1) := by decide +kernel
theorem dX12_slit_69 : decode cX12_slit 69 = .ok (.getfield 19, 3) := by decide +kernel
theorem dX12_slit_72 : decode cX12_slit 72 = .ok (.iload_n 1, 1) := by decide +kernel
theorem dX12_slit_73 : decode cX12_slit 73 = .ok (.invokeinterface 90 2, 5) := by decide +kernel
theorem dX12_slit_78 : decode cX12_slit 78 = .ok (.checkcast 129, 3) := by decide +kernel
theorem dX12_slit_81 : decode cX12_slit 81 = .ok (.getfield 226, 3) := by decide +kernel
theorem dX12_slit_84 : decode cX12_slit 84 = .ok (.ireturn, 1) := by decide +kernel
theorem dX12_air_0 : decode cX12_air 0 = .ok (.aload_n 0, 1) := by decide +kernel
theorem dX12_air_1 : decode cX12_air 1 = .ok (.invokevirtual 48, 3) := by decide +kernel
theorem dX12_air_4 : decode cX12_air 4 = .ok (.aload_n 0, 1) := by decide +kernel
theorem dX12_air_5 : decode cX12_air 5 = .ok (.iload_n 1, 1) := by decide +kernel
theorem dX12_air_6 : decode cX12_air 6 = .ok (.i2l, 1) := by decide +kernel
theorem dX12_air_7 : decode cX12_air 7 = .ok (.ldc2_w 229, 3) := by decide +kernel
theorem dX12_air_10 : decode cX12_air 10 = .ok (.ldc2_w 125, 3) := by decide +kernel
theorem dX12_air_13 : decode cX12_air 13 = .ok (.invokestatic 44, 3) := by decide +kernel
theorem dX12_air_16 : decode cX12_air 16 = .ok (.ifCond .ne 7, 3) := by decide +kernel
theorem dX12_air_19 : decode cX12_air 19 = .ok (.iconst 1, 1) := by decide +kernel
theorem dX12_air_20 : decode cX12_air 20 = .ok (.goto 4, 3) := by decide +kernel
theorem dX12_air_23 : decode cX12_air 23 = .ok (.iconst 0, 1) := by decide +kernel
theorem dX12_air_24 : decode cX12_air 24 = .ok (.iconst 1, 1) := by decide +kernel
theorem dX12_air_25 : decode cX12_air 25 = .ok (.invokevirtual 67, 3) := by decide +kernel
theorem dX12_air_28 : decode cX12_air 28 = .ok (.ifCond .eq 5, 3) := by decide +kernel
theorem dX12_air_31 : decode cX12_air 31 = .ok (.iconst (-1), 1) := by decide +kernel
theorem dX12_air_32 : decode cX12_air 32 = .ok (.ireturn, 1) := by decide +kernel
theorem dX12_air_33 : decode cX12_air 33 = .ok (.aload_n 0, 1) := by decide +kernel
theorem dX12_air_34 : decode cX12_air 34 = .ok (.getfield 28, 3) := by decide +kernel
theorem dX12_air_37 : decode cX12_air 37 = .ok (.istore_n 2, 1) := by decide +kernel
theorem dX12_air_38 : decode cX12_air 38 = .ok (.aload_n 0, 1) := by decide +kernel
theorem dX12_air_39 : decode cX12_air 39 = .ok (.iload_n 1, 1) := by decide +kernel
theorem dX12_air_40 : decode cX12_air 40 = .ok (.putfield 28, 3) := by decide +kernel
theorem dX12_air_43 : decode cX12_air 43 = .ok (.iload_n 2, 1) := by decide +kernel
theorem dX12_air_44 : decode cX12_air 44 = .ok (.ireturn, 1) := by decide +kernel
theorem dX12_pull_0 : decode cX12_pull 0 = .ok (.aload_n 0, 1) := by decide +kernel
theorem dX12_pull_1 : decode cX12_pull 1 = .ok (.ifnonnull 7, 3) := by decide +kernel
theorem dX12_pull_4 : decode cX12_pull 4 = .ok (.iconst 0, 1) := by decide +kernel
theorem dX12_pull_5 : decode cX12_pull 5 = .ok (.goto 27, 3) := by decide +kernel
theorem dX12_pull_8 : decode cX12_pull 8 = .ok (.getstatic 231, 3) := by decide +kernel
theorem dX12_pull_11 : decode cX12_pull 11 = .ok (.aload_n 0, 1) := by decide +kernel
theorem dX12_pull_12 : decode cX12_pull 12 = .ok (.getfield 164, 3) := by decide +kernel
theorem dX12_pull_15 : decode cX12_pull 15 = .ok (.getfield 142, 3) := by decide +kernel
theorem dX12_pull_18 : decode cX12_pull 18 = .ok (.getfield 235, 3) := by decide +kernel
theorem dX12_pull_21 : decode cX12_pull 21 = .ok (.iaload, 1) := by decide +kernel
theorem dX12_pull_22 : decode cX12_pull 22 = .ok (.aload_n 0, 1) := by decide +kernel
theorem dX12_pull_23 : decode cX12_pull 23 = .ok (.getfield 164, 3) := by decide +kernel
theorem dX12_pull_26 : decode cX12_pull 26 = .ok (.getfield 238, 3) := by decide +kernel
theorem dX12_pull_29 : decode cX12_pull 29 = .ok (.imul, 1) := by decide +kernel
theorem dX12_pull_30 : decode cX12_pull 30 = .ok (.iload_n 1, 1) := by decide +kernel
theorem dX12_pull_31 : decode cX12_pull 31 = .ok (.imul, 1) := by decide +kernel
theorem dX12_pull_32 : decode cX12_pull 32 = .ok (.ireturn, 1) := by decide +kernel
theorem dX12_cupOf_0 : decode cX12_cupOf 0 = .ok (.iload_n 1, 1) := by decide +kernel
theorem dX12_cupOf_1 : decode cX12_cupOf 1 = .ok (.aload_n 0, 1) := by decide +kernel
theorem dX12_cupOf_2 : decode cX12_cupOf 2 = .ok (.getfield 223, 3) := by decide +kernel
theorem dX12_cupOf_5 : decode cX12_cupOf 5 = .ok (.isub, 1) := by decide +kernel
theorem dX12_cupOf_6 : decode cX12_cupOf 6 = .ok (.istore_n 2, 1) := by decide +kernel
theorem dX12_cupOf_7 : decode cX12_cupOf 7 = .ok (.bipush 10, 2) := by decide +kernel
theorem dX12_cupOf_9 : decode cX12_cupOf 9 = .ok (.aload_n 0, 1) := by decide +kernel
theorem dX12_cupOf_10 : decode cX12_cupOf 10 = .ok (.getfield 186, 3) := by decide +kernel
theorem dX12_cupOf_13 : decode cX12_cupOf 13 = .ok (.iload_n 2, 1) := by decide +kernel
theorem dX12_cupOf_14 : decode cX12_cupOf 14 = .ok (.invokestatic 241, 3) := by decide +kernel
theorem dX12_cupOf_17 : decode cX12_cupOf 17 = .ok (.aload_n 0, 1) := by decide +kernel
theorem dX12_cupOf_18 : decode cX12_cupOf 18 = .ok (.getfield 207, 3) := by decide +kernel
theorem dX12_cupOf_21 : decode cX12_cupOf 21 = .ok (.iload_n 2, 1) := by decide +kernel
theorem dX12_cupOf_22 : decode cX12_cupOf 22 = .ok (.invokestatic 241, 3) := by decide +kernel
theorem dX12_cupOf_25 : decode cX12_cupOf 25 = .ok (.isub, 1) := by decide +kernel
theorem dX12_cupOf_26 : decode cX12_cupOf 26 = .ok (.imul, 1) := by decide +kernel
theorem dX12_cupOf_27 : decode cX12_cupOf 27 = .ok (.aload_n 0, 1) := by decide +kernel
theorem dX12_cupOf_28 : decode cX12_cupOf 28 = .ok (.getfield 245, 3) := by decide +kernel
theorem dX12_cupOf_31 : decode cX12_cupOf 31 = .ok (.idiv, 1) := by decide +kernel
theorem dX12_cupOf_32 : decode cX12_cupOf 32 = .ok (.ireturn, 1) := by decide +kernel
theorem dX12_isFlat_0 : decode cX12_isFlat 0 = .ok (.aload_n 0, 1) := by decide +kernel
theorem dX12_isFlat_1 : decode cX12_isFlat 1 = .ok (.iload_n 1, 1) := by decide +kernel
theorem dX12_isFlat_2 : decode cX12_isFlat 2 = .ok (.invokestatic 248, 3) := by decide +kernel
theorem dX12_isFlat_5 : decode cX12_isFlat 5 = .ok (.i2l, 1) := by decide +kernel
theorem dX12_isFlat_6 : decode cX12_isFlat 6 = .ok (.ldc2_w 251, 3) := by decide +kernel
theorem dX12_isFlat_9 : decode cX12_isFlat 9 = .ok (.ldc2_w 253, 3) := by decide +kernel
theorem dX12_isFlat_12 : decode cX12_isFlat 12 = .ok (.invokestatic 44, 3) := by decide +kernel
theorem dX12_isFlat_15 : decode cX12_isFlat 15 = .ok (.ireturn, 1) := by decide +kernel
theorem dX12_cup_0 : decode cX12_cup 0 = .ok (.aload_n 0, 1) := by decide +kernel
theorem dX12_cup_1 : decode cX12_cup 1 = .ok (.invokevirtual 48, 3) := by decide +kernel
theorem dX12_cup_4 : decode cX12_cup 4 = .ok (.aload_n 0, 1) := by decide +kernel
theorem dX12_cup_5 : decode cX12_cup 5 = .ok (.iload_n 1, 1) := by decide +kernel
theorem dX12_cup_6 : decode cX12_cup 6 = .ok (.invokevirtual 171, 3) := by decide +kernel
theorem dX12_cup_9 : decode cX12_cup 9 = .ok (.ifCond .ne 62, 3) := by decide +kernel
theorem dX12_cup_12 : decode cX12_cup 12 = .ok (.aload_n 0, 1) := by decide +kernel
theorem dX12_cup_13 : decode cX12_cup 13 = .ok (.iload_n 2, 1) := by decide +kernel
theorem dX12_cup_14 : decode cX12_cup 14 = .ok (.i2l, 1) := by decide +kernel
theorem dX12_cup_15 : decode cX12_cup 15 = .ok (.ldc2_w 229, 3) := by decide +kernel
theorem dX12_cup_18 : decode cX12_cup 18 = .ok (.ldc2_w 125, 3) := by decide +kernel
theorem dX12_cup_21 : decode cX12_cup 21 = .ok (.invokestatic 44, 3) := by decide +kernel
theorem dX12_cup_24 : decode cX12_cup 24 = .ok (.ifCond .ne 7, 3) := by decide +kernel
theorem dX12_cup_27 : decode cX12_cup 27 = .ok (.iconst 1, 1) := by decide +kernel
theorem dX12_cup_28 : decode cX12_cup 28 = .ok (.goto 4, 3) := by decide +kernel
theorem dX12_cup_31 : decode cX12_cup 31 = .ok (.iconst 0, 1) := by decide +kernel
theorem dX12_cup_32 : decode cX12_cup 32 = .ok (.iconst 2, 1) := by decide +kernel
theorem dX12_cup_33 : decode cX12_cup 33 = .ok (.invokevirtual 67, 3) := by decide +kernel
theorem dX12_cup_36 : decode cX12_cup 36 = .ok (.ifCond .ne 35, 3) := by decide +kernel
theorem dX12_cup_39 : decode cX12_cup 39 = .ok (.aload_n 0, 1) := by decide +kernel
theorem dX12_cup_40 : decode cX12_cup 40 = .ok (.aload_n 0, 1) := by decide +kernel
theorem dX12_cup_41 : decode cX12_cup 41 = .ok (.getfield 19, 3) := by decide +kernel
theorem dX12_cup_44 : decode cX12_cup 44 = .ok (.iload_n 1, 1) := by decide +kernel
theorem dX12_cup_45 : decode cX12_cup 45 = .ok (.invokeinterface 90 2, 5) := by decide +kernel
theorem dX12_cup_50 : decode cX12_cup 50 = .ok (.checkcast 129, 3) := by decide +kernel
theorem dX12_cup_53 : decode cX12_cup 53 = .ok (.getfield 210, 3) := by decide +kernel
theorem dX12_cup_56 : decode cX12_cup 56 = .ok (.ifCond .ne 7, 3) := by decide +kernel
theorem dX12_cup_59 : decode cX12_cup 59 = .ok (.iconst 1, 1) := by decide +kernel
theorem dX12_cup_60 : decode cX12_cup 60 = .ok (.goto 4, 3) := by decide +kernel
theorem dX12_cup_63 : decode cX12_cup 63 = .ok (.iconst 0, 1) := by decide +kernel
theorem dX12_cup_64 : decode cX12_cup 64 = .ok (.iconst 3, 1) := by decide +kernel
theorem dX12_cup_65 : decode cX12_cup 65 = .ok (.invokevirtual 67, 3) := by decide +kernel
theorem dX12_cup_68 : decode cX12_cup 68 = .ok (.ifCond .eq 7, 3) := by decide +kernel
theorem dX12_cup_71 : decode cX12_cup 71 = .ok (.iconst (-1), 1) := by decide +kernel
theorem dX12_cup_72 : decode cX12_cup 72 = .ok (.goto 20, 3) := by decide +kernel
theorem dX12_cup_75 : decode cX12_cup 75 = .ok (.aload_n 0, 1) := by decide +kernel
theorem dX12_cup_76 : decode cX12_cup 76 = .ok (.getfield 19, 3) := by decide +kernel
theorem dX12_cup_79 : decode cX12_cup 79 = .ok (.iload_n 1, 1) := by decide +kernel
theorem dX12_cup_80 : decode cX12_cup 80 = .ok (.invokeinterface 90 2, 5) := by decide +kernel
theorem dX12_cup_85 : decode cX12_cup 85 = .ok (.checkcast 129, 3) := by decide +kernel
theorem dX12_cup_88 : decode cX12_cup 88 = .ok (.iload_n 2, 1) := by decide +kernel
theorem dX12_cup_89 : decode cX12_cup 89 = .ok (.invokestatic 248, 3) := by decide +kernel
theorem dX12_cup_92 : decode cX12_cup 92 = .ok (.ireturn, 1) := by decide +kernel
theorem dX12_isFlat__0 : decode cX12_isFlat_ 0 = .ok (.aload_n 0, 1) := by decide +kernel
theorem dX12_isFlat__1 : decode cX12_isFlat_ 1 = .ok (.invokevirtual 48, 3) := by decide +kernel
theorem dX12_isFlat__4 : decode cX12_isFlat_ 4 = .ok (.aload_n 0, 1) := by decide +kernel
theorem dX12_isFlat__5 : decode cX12_isFlat_ 5 = .ok (.iload_n 1, 1) := by decide +kernel
theorem dX12_isFlat__6 : decode cX12_isFlat_ 6 = .ok (.invokevirtual 171, 3) := by decide +kernel
theorem dX12_isFlat__9 : decode cX12_isFlat_ 9 = .ok (.ifCond .ne 62, 3) := by decide +kernel
theorem dX12_isFlat__12 : decode cX12_isFlat_ 12 = .ok (.aload_n 0, 1) := by decide +kernel
theorem dX12_isFlat__13 : decode cX12_isFlat_ 13 = .ok (.aload_n 0, 1) := by decide +kernel
theorem dX12_isFlat__14 : decode cX12_isFlat_ 14 = .ok (.getfield 19, 3) := by decide +kernel
theorem dX12_isFlat__17 : decode cX12_isFlat_ 17 = .ok (.iload_n 1, 1) := by decide +kernel
theorem dX12_isFlat__18 : decode cX12_isFlat_ 18 = .ok (.invokeinterface 90 2, 5) := by decide +kernel
theorem dX12_isFlat__23 : decode cX12_isFlat_ 23 = .ok (.checkcast 129, 3) := by decide +kernel
theorem dX12_isFlat__26 : decode cX12_isFlat_ 26 = .ok (.getfield 210, 3) := by decide +kernel
theorem dX12_isFlat__29 : decode cX12_isFlat_ 29 = .ok (.ifCond .ne 7, 3) := by decide +kernel
theorem dX12_isFlat__32 : decode cX12_isFlat_ 32 = .ok (.iconst 1, 1) := by decide +kernel
theorem dX12_isFlat__33 : decode cX12_isFlat_ 33 = .ok (.goto 4, 3) := by decide +kernel
theorem dX12_isFlat__36 : decode cX12_isFlat_ 36 = .ok (.iconst 0, 1) := by decide +kernel
theorem dX12_isFlat__37 : decode cX12_isFlat_ 37 = .ok (.iconst 2, 1) := by decide +kernel
theorem dX12_isFlat__38 : decode cX12_isFlat_ 38 = .ok (.invokevirtual 67, 3) := by decide +kernel
theorem dX12_isFlat__41 : decode cX12_isFlat_ 41 = .ok (.ifCond .ne 30, 3) := by decide +kernel
theorem dX12_isFlat__44 : decode cX12_isFlat_ 44 = .ok (.aload_n 0, 1) := by decide +kernel
theorem dX12_isFlat__45 : decode cX12_isFlat_ 45 = .ok (.getfield 19, 3) := by decide +kernel
theorem dX12_isFlat__48 : decode cX12_isFlat_ 48 = .ok (.iload_n 1, 1) := by decide +kernel
theorem dX12_isFlat__49 : decode cX12_isFlat_ 49 = .ok (.invokeinterface 90 2, 5) := by decide +kernel
theorem dX12_isFlat__54 : decode cX12_isFlat_ 54 = .ok (.checkcast 129, 3) := by decide +kernel
theorem dX12_isFlat__57 : decode cX12_isFlat_ 57 = .ok (.aload_n 0, 1) := by decide +kernel
theorem dX12_isFlat__58 : decode cX12_isFlat_ 58 = .ok (.getfield 28, 3) := by decide +kernel
theorem dX12_isFlat__61 : decode cX12_isFlat_ 61 = .ok (.invokestatic 255, 3) := by decide +kernel
theorem dX12_isFlat__64 : decode cX12_isFlat_ 64 = .ok (.ifCond .eq 7, 3) := by decide +kernel
theorem dX12_isFlat__67 : decode cX12_isFlat_ 67 = .ok (.iconst 1, 1) := by decide +kernel
theorem dX12_isFlat__68 : decode cX12_isFlat_ 68 = .ok (.goto 4, 3) := by decide +kernel
theorem dX12_isFlat__71 : decode cX12_isFlat_ 71 = .ok (.iconst 0, 1) := by decide +kernel
theorem dX12_isFlat__72 : decode cX12_isFlat_ 72 = .ok (.ireturn, 1) := by decide +kernel
theorem dX12_cupMonth_0 : decode cX12_cupMonth 0 = .ok (.aload_n 0, 1) := by decide +kernel
theorem dX12_cupMonth_1 : decode cX12_cupMonth 1 = .ok (.invokevirtual 48, 3) := by decide +kernel
theorem dX12_cupMonth_4 : decode cX12_cupMonth 4 = .ok (.aload_n 0, 1) := by decide +kernel
theorem dX12_cupMonth_5 : decode cX12_cupMonth 5 = .ok (.iload_n 1, 1) := by decide +kernel
theorem dX12_cupMonth_6 : decode cX12_cupMonth 6 = .ok (.invokevirtual 171, 3) := by decide +kernel
theorem dX12_cupMonth_9 : decode cX12_cupMonth 9 = .ok (.ifCond .ne 35, 3) := by decide +kernel
theorem dX12_cupMonth_12 : decode cX12_cupMonth 12 = .ok (.aload_n 0, 1) := by decide +kernel
theorem dX12_cupMonth_13 : decode cX12_cupMonth 13 = .ok (.aload_n 0, 1) := by decide +kernel
theorem dX12_cupMonth_14 : decode cX12_cupMonth 14 = .ok (.getfield 19, 3) := by decide +kernel
theorem dX12_cupMonth_17 : decode cX12_cupMonth 17 = .ok (.iload_n 1, 1) := by decide +kernel
theorem dX12_cupMonth_18 : decode cX12_cupMonth 18 = .ok (.invokeinterface 90 2, 5) := by decide +kernel
theorem dX12_cupMonth_23 : decode cX12_cupMonth 23 = .ok (.checkcast 129, 3) := by decide +kernel
theorem dX12_cupMonth_26 : decode cX12_cupMonth 26 = .ok (.getfield 210, 3) := by decide +kernel
theorem dX12_cupMonth_29 : decode cX12_cupMonth 29 = .ok (.ifCond .ne 7, 3) := by decide +kernel
theorem dX12_cupMonth_32 : decode cX12_cupMonth 32 = .ok (.iconst 1, 1) := by decide +kernel
theorem dX12_cupMonth_33 : decode cX12_cupMonth 33 = .ok (.goto 4, 3) := by decide +kernel
theorem dX12_cupMonth_36 : decode cX12_cupMonth 36 = .ok (.iconst 0, 1) := by decide +kernel
theorem dX12_cupMonth_37 : decode cX12_cupMonth 37 = .ok (.iconst 2, 1) := by decide +kernel
theorem dX12_cupMonth_38 : decode cX12_cupMonth 38 = .ok (.invokevirtual 67, 3) := by decide +kernel
theorem dX12_cupMonth_41 : decode cX12_cupMonth 41 = .ok (.ifCond .eq 5, 3) := by decide +kernel
theorem dX12_cupMonth_44 : decode cX12_cupMonth 44 = .ok (.iconst (-1), 1) := by decide +kernel
theorem dX12_cupMonth_45 : decode cX12_cupMonth 45 = .ok (.ireturn, 1) := by decide +kernel
theorem dX12_cupMonth_46 : decode cX12_cupMonth 46 = .ok (.iconst (-1), 1) := by decide +kernel
theorem dX12_cupMonth_47 : decode cX12_cupMonth 47 = .ok (.istore_n 2, 1) := by decide +kernel
theorem dX12_cupMonth_48 : decode cX12_cupMonth 48 = .ok (.bipush 11, 2) := by decide +kernel
theorem dX12_cupMonth_50 : decode cX12_cupMonth 50 = .ok (.istore_n 3, 1) := by decide +kernel
theorem dX12_cupMonth_51 : decode cX12_cupMonth 51 = .ok (.iload_n 3, 1) := by decide +kernel
theorem dX12_cupMonth_52 : decode cX12_cupMonth 52 = .ok (.ifCond .lt 57, 3) := by decide +kernel
theorem dX12_cupMonth_55 : decode cX12_cupMonth 55 = .ok (.iconst 4, 1) := by decide +kernel
theorem dX12_cupMonth_56 : decode cX12_cupMonth 56 = .ok (.bipush 20, 2) := by decide +kernel
theorem dX12_cupMonth_58 : decode cX12_cupMonth 58 = .ok (.aload_n 0, 1) := by decide +kernel
theorem dX12_cupMonth_59 : decode cX12_cupMonth 59 = .ok (.getfield 28, 3) := by decide +kernel
theorem dX12_cupMonth_62 : decode cX12_cupMonth 62 = .ok (.getstatic 259, 3) := by decide +kernel
theorem dX12_cupMonth_65 : decode cX12_cupMonth 65 = .ok (.iload_n 3, 1) := by decide +kernel
theorem dX12_cupMonth_66 : decode cX12_cupMonth 66 = .ok (.iaload, 1) := by decide +kernel
theorem dX12_cupMonth_67 : decode cX12_cupMonth 67 = .ok (.iadd, 1) := by decide +kernel
theorem dX12_cupMonth_68 : decode cX12_cupMonth 68 = .ok (.invokestatic 262, 3) := by decide +kernel
theorem dX12_cupMonth_71 : decode cX12_cupMonth 71 = .ok (.invokestatic 268, 3) := by decide +kernel
theorem dX12_cupMonth_74 : decode cX12_cupMonth 74 = .ok (.istore 4, 2) := by decide +kernel
theorem dX12_cupMonth_76 : decode cX12_cupMonth 76 = .ok (.aload_n 0, 1) := by decide +kernel
theorem dX12_cupMonth_77 : decode cX12_cupMonth 77 = .ok (.getfield 19, 3) := by decide +kernel
theorem dX12_cupMonth_80 : decode cX12_cupMonth 80 = .ok (.iload_n 1, 1) := by decide +kernel
theorem dX12_cupMonth_81 : decode cX12_cupMonth 81 = .ok (.invokeinterface 90 2, 5) := by decide +kernel
theorem dX12_cupMonth_86 : decode cX12_cupMonth 86 = .ok (.checkcast 129, 3) := by decide +kernel
theorem dX12_cupMonth_89 : decode cX12_cupMonth 89 = .ok (.iload 4, 2) := by decide +kernel
theorem dX12_cupMonth_91 : decode cX12_cupMonth 91 = .ok (.invokestatic 255, 3) := by decide +kernel
theorem dX12_cupMonth_94 : decode cX12_cupMonth 94 = .ok (.ifCond .eq 7, 3) := by decide +kernel
theorem dX12_cupMonth_97 : decode cX12_cupMonth 97 = .ok (.iload_n 2, 1) := by decide +kernel
theorem dX12_cupMonth_98 : decode cX12_cupMonth 98 = .ok (.goto 4, 3) := by decide +kernel
theorem dX12_cupMonth_101 : decode cX12_cupMonth 101 = .ok (.iload_n 3, 1) := by decide +kernel
theorem dX12_cupMonth_102 : decode cX12_cupMonth 102 = .ok (.istore_n 2, 1) := by decide +kernel
theorem dX12_cupMonth_103 : decode cX12_cupMonth 103 = .ok (.iinc 3 (-1), 3) := by decide +kernel
theorem dX12_cupMonth_106 : decode cX12_cupMonth 106 = .ok (.goto (-55), 3) := by decide +kernel
theorem dX12_cupMonth_109 : decode cX12_cupMonth 109 = .ok (.aload_n 0, 1) := by decide +kernel
theorem dX12_cupMonth_110 : decode cX12_cupMonth 110 = .ok (.iload_n 2, 1) := by decide +kernel
theorem dX12_cupMonth_111 : decode cX12_cupMonth 111 = .ok (.iconst (-1), 1) := by decide +kernel
theorem dX12_cupMonth_112 : decode cX12_cupMonth 112 = .ok (.if_icmp .ne 7, 3) := by decide +kernel
theorem dX12_cupMonth_115 : decode cX12_cupMonth 115 = .ok (.iconst 1, 1) := by decide +kernel
theorem dX12_cupMonth_116 : decode cX12_cupMonth 116 = .ok (.goto 4, 3) := by decide +kernel
theorem dX12_cupMonth_119 : decode cX12_cupMonth 119 = .ok (.iconst 0, 1) := by decide +kernel
theorem dX12_cupMonth_120 : decode cX12_cupMonth 120 = .ok (.iconst 3, 1) := by decide +kernel
theorem dX12_cupMonth_121 : decode cX12_cupMonth 121 = .ok (.invokevirtual 67, 3) := by decide +kernel
theorem dX12_cupMonth_124 : decode cX12_cupMonth 124 = .ok (.ifCond .eq 7, 3) := by decide +kernel
theorem dX12_cupMonth_127 : decode cX12_cupMonth 127 = .ok (.iconst (-1), 1) := by decide +kernel
theorem dX12_cupMonth_128 : decode cX12_cupMonth 128 = .ok (.goto 4, 3) := by decide +kernel
theorem dX12_cupMonth_131 : decode cX12_cupMonth 131 = .ok (.iload_n 2, 1) := by decide +kernel
theorem dX12_cupMonth_132 : decode cX12_cupMonth 132 = .ok (.ireturn, 1) := by decide +kernel
theorem dX12_scrape_0 : decode cX12_scrape 0 = .ok (.aload_n 0, 1) := by decide +kernel
theorem dX12_scrape_1 : decode cX12_scrape 1 = .ok (.invokevirtual 48, 3) := by decide +kernel
theorem dX12_scrape_4 : decode cX12_scrape 4 = .ok (.aload_n 0, 1) := by decide +kernel
theorem dX12_scrape_5 : decode cX12_scrape 5 = .ok (.iload_n 1, 1) := by decide +kernel
theorem dX12_scrape_6 : decode cX12_scrape 6 = .ok (.invokevirtual 171, 3) := by decide +kernel
theorem dX12_scrape_9 : decode cX12_scrape 9 = .ok (.ifCond .ne 81, 3) := by decide +kernel
theorem dX12_scrape_12 : decode cX12_scrape 12 = .ok (.aload_n 0, 1) := by decide +kernel
theorem dX12_scrape_13 : decode cX12_scrape 13 = .ok (.iload_n 2, 1) := by decide +kernel
theorem dX12_scrape_14 : decode cX12_scrape 14 = .ok (.i2l, 1) := by decide +kernel
theorem dX12_scrape_15 : decode cX12_scrape 15 = .ok (.lconst 1, 1) := by decide +kernel
theorem dX12_scrape_16 : decode cX12_scrape 16 = .ok (.ldc2_w 218, 3) := by decide +kernel
theorem dX12_scrape_19 : decode cX12_scrape 19 = .ok (.invokestatic 44, 3) := by decide +kernel
theorem dX12_scrape_22 : decode cX12_scrape 22 = .ok (.ifCond .ne 7, 3) := by decide +kernel
theorem dX12_scrape_25 : decode cX12_scrape 25 = .ok (.iconst 1, 1) := by decide +kernel
theorem dX12_scrape_26 : decode cX12_scrape 26 = .ok (.goto 4, 3) := by decide +kernel
theorem dX12_scrape_29 : decode cX12_scrape 29 = .ok (.iconst 0, 1) := by decide +kernel
theorem dX12_scrape_30 : decode cX12_scrape 30 = .ok (.iconst 2, 1) := by decide +kernel
theorem dX12_scrape_31 : decode cX12_scrape 31 = .ok (.invokevirtual 67, 3) := by decide +kernel
theorem dX12_scrape_34 : decode cX12_scrape 34 = .ok (.ifCond .ne 56, 3) := by decide +kernel
theorem dX12_scrape_37 : decode cX12_scrape 37 = .ok (.aload_n 0, 1) := by decide +kernel
theorem dX12_scrape_38 : decode cX12_scrape 38 = .ok (.aload_n 0, 1) := by decide +kernel
theorem dX12_scrape_39 : decode cX12_scrape 39 = .ok (.getfield 19, 3) := by decide +kernel
theorem dX12_scrape_42 : decode cX12_scrape 42 = .ok (.iload_n 1, 1) := by decide +kernel
theorem dX12_scrape_43 : decode cX12_scrape 43 = .ok (.invokeinterface 90 2, 5) := by decide +kernel
theorem dX12_scrape_48 : decode cX12_scrape 48 = .ok (.checkcast 129, 3) := by decide +kernel
theorem dX12_scrape_51 : decode cX12_scrape 51 = .ok (.getfield 210, 3) := by decide +kernel
theorem dX12_scrape_54 : decode cX12_scrape 54 = .ok (.ifCond .eq 24, 3) := by decide +kernel
theorem dX12_scrape_57 : decode cX12_scrape 57 = .ok (.aload_n 0, 1) := by decide +kernel
theorem dX12_scrape_58 : decode cX12_scrape 58 = .ok (.getfield 19, 3) := by decide +kernel
theorem dX12_scrape_61 : decode cX12_scrape 61 = .ok (.iload_n 1, 1) := by decide +kernel
theorem dX12_scrape_62 : decode cX12_scrape 62 = .ok (.invokeinterface 90 2, 5) := by decide +kernel
theorem dX12_scrape_67 : decode cX12_scrape 67 = .ok (.checkcast 129, 3) := by decide +kernel
theorem dX12_scrape_70 : decode cX12_scrape 70 = .ok (.invokevirtual 271, 3) := by decide +kernel
theorem dX12_scrape_73 : decode cX12_scrape 73 = .ok (.bipush 10, 2) := by decide +kernel
theorem dX12_scrape_75 : decode cX12_scrape 75 = .ok (.if_icmp .gt 7, 3) := by decide +kernel
theorem dX12_scrape_78 : decode cX12_scrape 78 = .ok (.iconst 1, 1) := by decide +kernel
theorem dX12_scrape_79 : decode cX12_scrape 79 = .ok (.goto 4, 3) := by decide +kernel
theorem dX12_scrape_82 : decode cX12_scrape 82 = .ok (.iconst 0, 1) := by decide +kernel
theorem dX12_scrape_83 : decode cX12_scrape 83 = .ok (.iconst 3, 1) := by decide +kernel
theorem dX12_scrape_84 : decode cX12_scrape 84 = .ok (.invokevirtual 67, 3) := by decide +kernel
theorem dX12_scrape_87 : decode cX12_scrape 87 = .ok (.ifCond .eq 5, 3) := by decide +kernel
theorem dX12_scrape_90 : decode cX12_scrape 90 = .ok (.iconst (-1), 1) := by decide +kernel
theorem dX12_scrape_91 : decode cX12_scrape 91 = .ok (.ireturn, 1) := by decide +kernel
theorem dX12_scrape_92 : decode cX12_scrape 92 = .ok (.aload_n 0, 1) := by decide +kernel
theorem dX12_scrape_93 : decode cX12_scrape 93 = .ok (.getfield 19, 3) := by decide +kernel
theorem dX12_scrape_96 : decode cX12_scrape 96 = .ok (.iload_n 1, 1) := by decide +kernel
theorem dX12_scrape_97 : decode cX12_scrape 97 = .ok (.invokeinterface 90 2, 5) := by decide +kernel
theorem dX12_scrape_102 : decode cX12_scrape 102 = .ok (.checkcast 129, 3) := by decide +kernel
theorem dX12_scrape_105 : decode cX12_scrape 105 = .ok (.dup, 1) := by decide +kernel
theorem dX12_scrape_106 : decode cX12_scrape 106 = .ok (.getfield 274, 3) := by decide +kernel
theorem dX12_scrape_109 : decode cX12_scrape 109 = .ok (.iload_n 2, 1) := by decide +kernel
theorem dX12_scrape_110 : decode cX12_scrape 110 = .ok (.iadd, 1) := by decide +kernel
theorem dX12_scrape_111 : decode cX12_scrape 111 = .ok (.putfield 274, 3) := by decide +kernel
theorem dX12_scrape_114 : decode cX12_scrape 114 = .ok (.aload_n 0, 1) := by decide +kernel
theorem dX12_scrape_115 : decode cX12_scrape 115 = .ok (.getfield 19, 3) := by decide +kernel
theorem dX12_scrape_118 : decode cX12_scrape 118 = .ok (.iload_n 1, 1) := by decide +kernel
theorem dX12_scrape_119 : decode cX12_scrape 119 = .ok (.invokeinterface 90 2, 5) := by decide +kernel
theorem dX12_scrape_124 : decode cX12_scrape 124 = .ok (.checkcast 129, 3) := by decide +kernel
theorem dX12_scrape_127 : decode cX12_scrape 127 = .ok (.invokevirtual 271, 3) := by decide +kernel
theorem dX12_scrape_130 : decode cX12_scrape 130 = .ok (.ireturn, 1) := by decide +kernel
theorem dX12_isThrough_0 : decode cX12_isThrough 0 = .ok (.aload_n 0, 1) := by decide +kernel
theorem dX12_isThrough_1 : decode cX12_isThrough 1 = .ok (.invokevirtual 48, 3) := by decide +kernel
theorem dX12_isThrough_4 : decode cX12_isThrough 4 = .ok (.aload_n 0, 1) := by decide +kernel
theorem dX12_isThrough_5 : decode cX12_isThrough 5 = .ok (.iload_n 1, 1) := by decide +kernel
theorem dX12_isThrough_6 : decode cX12_isThrough 6 = .ok (.invokevirtual 171, 3) := by decide +kernel
theorem dX12_isThrough_9 : decode cX12_isThrough 9 = .ok (.ifCond .ne 47, 3) := by decide +kernel
