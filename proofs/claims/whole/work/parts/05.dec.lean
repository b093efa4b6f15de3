theorem dX12_isThrough_12 : decode cX12_isThrough 12 = .ok (.aload_n 0, 1) := by decide +kernel
theorem dX12_isThrough_13 : decode cX12_isThrough 13 = .ok (.getfield 19, 3) := by decide +kernel
theorem dX12_isThrough_16 : decode cX12_isThrough 16 = .ok (.iload_n 1, 1) := by decide +kernel
theorem dX12_isThrough_17 : decode cX12_isThrough 17 = .ok (.invokeinterface 90 2, 5) := by decide +kernel
theorem dX12_isThrough_22 : decode cX12_isThrough 22 = .ok (.checkcast 129, 3) := by decide +kernel
theorem dX12_isThrough_25 : decode cX12_isThrough 25 = .ok (.getfield 186, 3) := by decide +kernel
theorem dX12_isThrough_28 : decode cX12_isThrough 28 = .ok (.ifnull 28, 3) := by decide +kernel
theorem dX12_isThrough_31 : decode cX12_isThrough 31 = .ok (.aload_n 0, 1) := by decide +kernel
theorem dX12_isThrough_32 : decode cX12_isThrough 32 = .ok (.getfield 19, 3) := by decide +kernel
theorem dX12_isThrough_35 : decode cX12_isThrough 35 = .ok (.iload_n 1, 1) := by decide +kernel
theorem dX12_isThrough_36 : decode cX12_isThrough 36 = .ok (.invokeinterface 90 2, 5) := by decide +kernel
theorem dX12_isThrough_41 : decode cX12_isThrough 41 = .ok (.checkcast 129, 3) := by decide +kernel
theorem dX12_isThrough_44 : decode cX12_isThrough 44 = .ok (.invokevirtual 271, 3) := by decide +kernel
theorem dX12_isThrough_47 : decode cX12_isThrough 47 = .ok (.bipush 10, 2) := by decide +kernel
theorem dX12_isThrough_49 : decode cX12_isThrough 49 = .ok (.if_icmp .gt 7, 3) := by decide +kernel
theorem dX12_isThrough_52 : decode cX12_isThrough 52 = .ok (.iconst 1, 1) := by decide +kernel
theorem dX12_isThrough_53 : decode cX12_isThrough 53 = .ok (.goto 4, 3) := by decide +kernel
theorem dX12_isThrough_56 : decode cX12_isThrough 56 = .ok (.iconst 0, 1) := by decide +kernel
theorem dX12_isThrough_57 : decode cX12_isThrough 57 = .ok (.ireturn, 1) := by decide +kernel
theorem dX12_pad_0 : decode cX12_pad 0 = .ok (.aload_n 0, 1) := by decide +kernel
theorem dX12_pad_1 : decode cX12_pad 1 = .ok (.invokevirtual 48, 3) := by decide +kernel
theorem dX12_pad_4 : decode cX12_pad 4 = .ok (.aload_n 0, 1) := by decide +kernel
theorem dX12_pad_5 : decode cX12_pad 5 = .ok (.iload_n 1, 1) := by decide +kernel
theorem dX12_pad_6 : decode cX12_pad 6 = .ok (.invokevirtual 171, 3) := by decide +kernel
theorem dX12_pad_9 : decode cX12_pad 9 = .ok (.ifCond .ne 60, 3) := by decide +kernel
theorem dX12_pad_12 : decode cX12_pad 12 = .ok (.aload_n 0, 1) := by decide +kernel
theorem dX12_pad_13 : decode cX12_pad 13 = .ok (.iload_n 2, 1) := by decide +kernel
theorem dX12_pad_14 : decode cX12_pad 14 = .ok (.i2l, 1) := by decide +kernel
theorem dX12_pad_15 : decode cX12_pad 15 = .ok (.lconst 1, 1) := by decide +kernel
theorem dX12_pad_16 : decode cX12_pad 16 = .ok (.ldc2_w 277, 3) := by decide +kernel
theorem dX12_pad_19 : decode cX12_pad 19 = .ok (.invokestatic 44, 3) := by decide +kernel
theorem dX12_pad_22 : decode cX12_pad 22 = .ok (.ifCond .ne 7, 3) := by decide +kernel
theorem dX12_pad_25 : decode cX12_pad 25 = .ok (.iconst 1, 1) := by decide +kernel
theorem dX12_pad_26 : decode cX12_pad 26 = .ok (.goto 4, 3) := by decide +kernel
theorem dX12_pad_29 : decode cX12_pad 29 = .ok (.iconst 0, 1) := by decide +kernel
theorem dX12_pad_30 : decode cX12_pad 30 = .ok (.iconst 2, 1) := by decide +kernel
theorem dX12_pad_31 : decode cX12_pad 31 = .ok (.invokevirtual 67, 3) := by decide +kernel
theorem dX12_pad_34 : decode cX12_pad 34 = .ok (.ifCond .ne 35, 3) := by decide +kernel
theorem dX12_pad_37 : decode cX12_pad 37 = .ok (.aload_n 0, 1) := by decide +kernel
theorem dX12_pad_38 : decode cX12_pad 38 = .ok (.aload_n 0, 1) := by decide +kernel
theorem dX12_pad_39 : decode cX12_pad 39 = .ok (.getfield 19, 3) := by decide +kernel
theorem dX12_pad_42 : decode cX12_pad 42 = .ok (.iload_n 1, 1) := by decide +kernel
theorem dX12_pad_43 : decode cX12_pad 43 = .ok (.invokeinterface 90 2, 5) := by decide +kernel
theorem dX12_pad_48 : decode cX12_pad 48 = .ok (.checkcast 129, 3) := by decide +kernel
theorem dX12_pad_51 : decode cX12_pad 51 = .ok (.getfield 210, 3) := by decide +kernel
theorem dX12_pad_54 : decode cX12_pad 54 = .ok (.ifCond .ne 7, 3) := by decide +kernel
theorem dX12_pad_57 : decode cX12_pad 57 = .ok (.iconst 1, 1) := by decide +kernel
theorem dX12_pad_58 : decode cX12_pad 58 = .ok (.goto 4, 3) := by decide +kernel
theorem dX12_pad_61 : decode cX12_pad 61 = .ok (.iconst 0, 1) := by decide +kernel
theorem dX12_pad_62 : decode cX12_pad 62 = .ok (.iconst 3, 1) := by decide +kernel
theorem dX12_pad_63 : decode cX12_pad 63 = .ok (.invokevirtual 67, 3) := by decide +kernel
theorem dX12_pad_66 : decode cX12_pad 66 = .ok (.ifCond .eq 5, 3) := by decide +kernel
theorem dX12_pad_69 : decode cX12_pad 69 = .ok (.iconst (-1), 1) := by decide +kernel
theorem dX12_pad_70 : decode cX12_pad 70 = .ok (.ireturn, 1) := by decide +kernel
theorem dX12_pad_71 : decode cX12_pad 71 = .ok (.aload_n 0, 1) := by decide +kernel
theorem dX12_pad_72 : decode cX12_pad 72 = .ok (.getfield 19, 3) := by decide +kernel
theorem dX12_pad_75 : decode cX12_pad 75 = .ok (.iload_n 1, 1) := by decide +kernel
theorem dX12_pad_76 : decode cX12_pad 76 = .ok (.invokeinterface 90 2, 5) := by decide +kernel
theorem dX12_pad_81 : decode cX12_pad 81 = .ok (.checkcast 129, 3) := by decide +kernel
theorem dX12_pad_84 : decode cX12_pad 84 = .ok (.astore_n 3, 1) := by decide +kernel
theorem dX12_pad_85 : decode cX12_pad 85 = .ok (.iconst 0, 1) := by decide +kernel
theorem dX12_pad_86 : decode cX12_pad 86 = .ok (.istore 4, 2) := by decide +kernel
theorem dX12_pad_88 : decode cX12_pad 88 = .ok (.iload 4, 2) := by decide +kernel
theorem dX12_pad_90 : decode cX12_pad 90 = .ok (.iload_n 2, 1) := by decide +kernel
theorem dX12_pad_91 : decode cX12_pad 91 = .ok (.if_icmp .ge 71, 3) := by decide +kernel
theorem dX12_pad_94 : decode cX12_pad 94 = .ok (.aload_n 3, 1) := by decide +kernel
theorem dX12_pad_95 : decode cX12_pad 95 = .ok (.aload_n 3, 1) := by decide +kernel
theorem dX12_pad_96 : decode cX12_pad 96 = .ok (.getfield 279, 3) := by decide +kernel
theorem dX12_pad_99 : decode cX12_pad 99 = .ok (.iconst 3, 1) := by decide +kernel
theorem dX12_pad_100 : decode cX12_pad 100 = .ok (.if_icmp .ge 17, 3) := by decide +kernel
theorem dX12_pad_103 : decode cX12_pad 103 = .ok (.bipush 99, 2) := by decide +kernel
theorem dX12_pad_105 : decode cX12_pad 105 = .ok (.aload_n 3, 1) := by decide +kernel
theorem dX12_pad_106 : decode cX12_pad 106 = .ok (.getfield 282, 3) := by decide +kernel
theorem dX12_pad_109 : decode cX12_pad 109 = .ok (.iconst 2, 1) := by decide +kernel
theorem dX12_pad_110 : decode cX12_pad 110 = .ok (.iadd, 1) := by decide +kernel
theorem dX12_pad_111 : decode cX12_pad 111 = .ok (.invokestatic 262, 3) := by decide +kernel
theorem dX12_pad_114 : decode cX12_pad 114 = .ok (.goto 7, 3) := by decide +kernel
theorem dX12_pad_117 : decode cX12_pad 117 = .ok (.aload_n 3, 1) := by decide +kernel
theorem dX12_pad_118 : decode cX12_pad 118 = .ok (.getfield 282, 3) := by decide +kernel
theorem dX12_pad_121 : decode cX12_pad 121 = .ok (.putfield 282, 3) := by decide +kernel
theorem dX12_pad_124 : decode cX12_pad 124 = .ok (.aload_n 3, 1) := by decide +kernel
theorem dX12_pad_125 : decode cX12_pad 125 = .ok (.dup, 1) := by decide +kernel
theorem dX12_pad_126 : decode cX12_pad 126 = .ok (.getfield 285, 3) := by decide +kernel
theorem dX12_pad_129 : decode cX12_pad 129 = .ok (.aload_n 3, 1) := by decide +kernel
theorem dX12_pad_130 : decode cX12_pad 130 = .ok (.getfield 279, 3) := by decide +kernel
theorem dX12_pad_133 : decode cX12_pad 133 = .ok (.iconst 3, 1) := by decide +kernel
theorem dX12_pad_134 : decode cX12_pad 134 = .ok (.if_icmp .ge 7, 3) := by decide +kernel
theorem dX12_pad_137 : decode cX12_pad 137 = .ok (.iconst 0, 1) := by decide +kernel
theorem dX12_pad_138 : decode cX12_pad 138 = .ok (.goto 4, 3) := by decide +kernel
theorem dX12_pad_141 : decode cX12_pad 141 = .ok (.iconst 1, 1) := by decide +kernel
theorem dX12_pad_142 : decode cX12_pad 142 = .ok (.iadd, 1) := by decide +kernel
theorem dX12_pad_143 : decode cX12_pad 143 = .ok (.putfield 285, 3) := by decide +kernel
theorem dX12_pad_146 : decode cX12_pad 146 = .ok (.aload_n 3, 1) := by decide +kernel
theorem dX12_pad_147 : decode cX12_pad 147 = .ok (.dup, 1) := by decide +kernel
theorem dX12_pad_148 : decode cX12_pad 148 = .ok (.getfield 279, 3) := by decide +kernel
theorem dX12_pad_151 : decode cX12_pad 151 = .ok (.iconst 1, 1) := by decide +kernel
theorem dX12_pad_152 : decode cX12_pad 152 = .ok (.iadd, 1) := by decide +kernel
theorem dX12_pad_153 : decode cX12_pad 153 = .ok (.putfield 279, 3) := by decide +kernel
theorem dX12_pad_156 : decode cX12_pad 156 = .ok (.iinc 4 1, 3) := by decide +kernel
theorem dX12_pad_159 : decode cX12_pad 159 = .ok (.goto (-71), 3) := by decide +kernel
theorem dX12_pad_162 : decode cX12_pad 162 = .ok (.aload_n 3, 1) := by decide +kernel
theorem dX12_pad_163 : decode cX12_pad 163 = .ok (.getfield 282, 3) := by decide +kernel
theorem dX12_pad_166 : decode cX12_pad 166 = .ok (.ireturn, 1) := by decide +kernel
theorem dX12_rest_0 : decode cX12_rest 0 = .ok (.aload_n 0, 1) := by decide +kernel
theorem dX12_rest_1 : decode cX12_rest 1 = .ok (.invokevirtual 48, 3) := by decide +kernel
theorem dX12_rest_4 : decode cX12_rest 4 = .ok (.iconst 0, 1) := by decide +kernel
theorem dX12_rest_5 : decode cX12_rest 5 = .ok (.istore_n 1, 1) := by decide +kernel
theorem dX12_rest_6 : decode cX12_rest 6 = .ok (.aload_n 0, 1) := by decide +kernel
theorem dX12_rest_7 : decode cX12_rest 7 = .ok (.getfield 19, 3) := by decide +kernel
theorem dX12_rest_10 : decode cX12_rest 10 = .ok (.invokeinterface 288 1, 5) := by decide +kernel
theorem dX12_rest_15 : decode cX12_rest 15 = .ok (.astore_n 2, 1) := by decide +kernel
theorem dX12_rest_16 : decode cX12_rest 16 = .ok (.aload_n 2, 1) := by decide +kernel
theorem dX12_rest_17 : decode cX12_rest 17 = .ok (.invokeinterface 292 1, 5) := by decide +kernel
theorem dX12_rest_22 : decode cX12_rest 22 = .ok (.ifCond .eq 36, 3) := by decide +kernel
theorem dX12_rest_25 : decode cX12_rest 25 = .ok (.aload_n 2, 1) := by decide +kernel
theorem dX12_rest_26 : decode cX12_rest 26 = .ok (.invokeinterface 298 1, 5) := by decide +kernel
theorem dX12_rest_31 : decode cX12_rest 31 = .ok (.checkcast 129, 3) := by decide +kernel
theorem dX12_rest_34 : decode cX12_rest 34 = .ok (.astore_n 3, 1) := by decide +kernel
theorem dX12_rest_35 : decode cX12_rest 35 = .ok (.iload_n 1, 1) := by decide +kernel
theorem dX12_rest_36 : decode cX12_rest 36 = .ok (.aload_n 3, 1) := by decide +kernel
theorem dX12_rest_37 : decode cX12_rest 37 = .ok (.getfield 279, 3) := by decide +kernel
theorem dX12_rest_40 : decode cX12_rest 40 = .ok (.ifCond .le 7, 3) := by decide +kernel
theorem dX12_rest_43 : decode cX12_rest 43 = .ok (.iconst 1, 1) := by decide +kernel
theorem dX12_rest_44 : decode cX12_rest 44 = .ok (.goto 4, 3) := by decide +kernel
theorem dX12_rest_47 : decode cX12_rest 47 = .ok (.iconst 0, 1) := by decide +kernel
theorem dX12_rest_48 : decode cX12_rest 48 = .ok (.iadd, 1) := by decide +kernel
theorem dX12_rest_49 : decode cX12_rest 49 = .ok (.istore_n 1, 1) := by decide +kernel
theorem dX12_rest_50 : decode cX12_rest 50 = .ok (.aload_n 3, 1) := by decide +kernel
theorem dX12_rest_51 : decode cX12_rest 51 = .ok (.iconst 0, 1) := by decide +kernel
theorem dX12_rest_52 : decode cX12_rest 52 = .ok (.putfield 279, 3) := by decide +kernel
theorem dX12_rest_55 : decode cX12_rest 55 = .ok (.goto (-39), 3) := by decide +kernel
theorem dX12_rest_58 : decode cX12_rest 58 = .ok (.iload_n 1, 1) := by decide +kernel
theorem dX12_rest_59 : decode cX12_rest 59 = .ok (.ireturn, 1) := by decide +kernel
theorem dX12_ghosts_0 : decode cX12_ghosts 0 = .ok (.aload_n 0, 1) := by decide +kernel
theorem dX12_ghosts_1 : decode cX12_ghosts 1 = .ok (.invokevirtual 48, 3) := by decide +kernel
theorem dX12_ghosts_4 : decode cX12_ghosts 4 = .ok (.aload_n 0, 1) := by decide +kernel
theorem dX12_ghosts_5 : decode cX12_ghosts 5 = .ok (.iload_n 1, 1) := by decide +kernel
theorem dX12_ghosts_6 : decode cX12_ghosts 6 = .ok (.invokevirtual 171, 3) := by decide +kernel
theorem dX12_ghosts_9 : decode cX12_ghosts 9 = .ok (.ifCond .eq 7, 3) := by decide +kernel
theorem dX12_ghosts_12 : decode cX12_ghosts 12 = .ok (.iconst (-1), 1) := by decide +kernel
theorem dX12_ghosts_13 : decode cX12_ghosts 13 = .ok (.goto 19, 3) := by decide +kernel
theorem dX12_ghosts_16 : decode cX12_ghosts 16 = .ok (.aload_n 0, 1) := by decide +kernel
theorem dX12_ghosts_17 : decode cX12_ghosts 17 = .ok (.getfield 19, 3) := by decide +kernel
theorem dX12_ghosts_20 : decode cX12_ghosts 20 = .ok (.iload_n 1, 1) := by decide +kernel
theorem dX12_ghosts_21 : decode cX12_ghosts 21 = .ok (.invokeinterface 90 2, 5) := by decide +kernel
theorem dX12_ghosts_26 : decode cX12_ghosts 26 = .ok (.checkcast 129, 3) := by decide +kernel
theorem dX12_ghosts_29 : decode cX12_ghosts 29 = .ok (.getfield 285, 3) := by decide +kernel
theorem dX12_ghosts_32 : decode cX12_ghosts 32 = .ok (.ireturn, 1) := by decide +kernel
theorem dX12_beside_0 : decode cX12_beside 0 = .ok (.iload_n 0, 1) := by decide +kernel
theorem dX12_beside_1 : decode cX12_beside 1 = .ok (.bipush 8, 2) := by decide +kernel
theorem dX12_beside_3 : decode cX12_beside 3 = .ok (.idiv, 1) := by decide +kernel
theorem dX12_beside_4 : decode cX12_beside 4 = .ok (.iload_n 1, 1) := by decide +kernel
theorem dX12_beside_5 : decode cX12_beside 5 = .ok (.ifCond .ne 7, 3) := by decide +kernel
theorem dX12_beside_8 : decode cX12_beside 8 = .ok (.iconst (-1), 1) := by decide +kernel
theorem dX12_beside_9 : decode cX12_beside 9 = .ok (.goto 13, 3) := by decide +kernel
theorem dX12_beside_12 : decode cX12_beside 12 = .ok (.iload_n 1, 1) := by decide +kernel
theorem dX12_beside_13 : decode cX12_beside 13 = .ok (.iconst 1, 1) := by decide +kernel
theorem dX12_beside_14 : decode cX12_beside 14 = .ok (.if_icmp .ne 7, 3) := by decide +kernel
theorem dX12_beside_17 : decode cX12_beside 17 = .ok (.iconst 1, 1) := by decide +kernel
theorem dX12_beside_18 : decode cX12_beside 18 = .ok (.goto 4, 3) := by decide +kernel
theorem dX12_beside_21 : decode cX12_beside 21 = .ok (.iconst 0, 1) := by decide +kernel
theorem dX12_beside_22 : decode cX12_beside 22 = .ok (.iadd, 1) := by decide +kernel
theorem dX12_beside_23 : decode cX12_beside 23 = .ok (.istore_n 2, 1) := by decide +kernel
theorem dX12_beside_24 : decode cX12_beside 24 = .ok (.iload_n 0, 1) := by decide +kernel
theorem dX12_beside_25 : decode cX12_beside 25 = .ok (.bipush 8, 2) := by decide +kernel
theorem dX12_beside_27 : decode cX12_beside 27 = .ok (.irem, 1) := by decide +kernel
theorem dX12_beside_28 : decode cX12_beside 28 = .ok (.iload_n 1, 1) := by decide +kernel
theorem dX12_beside_29 : decode cX12_beside 29 = .ok (.iconst 2, 1) := by decide +kernel
theorem dX12_beside_30 : decode cX12_beside 30 = .ok (.if_icmp .ne 7, 3) := by decide +kernel
theorem dX12_beside_33 : decode cX12_beside 33 = .ok (.iconst (-1), 1) := by decide +kernel
theorem dX12_beside_34 : decode cX12_beside 34 = .ok (.goto 13, 3) := by decide +kernel
theorem dX12_beside_37 : decode cX12_beside 37 = .ok (.iload_n 1, 1) := by decide +kernel
theorem dX12_beside_38 : decode cX12_beside 38 = .ok (.iconst 3, 1) := by decide +kernel
theorem dX12_beside_39 : decode cX12_beside 39 = .ok (.if_icmp .ne 7, 3) := by decide +kernel
theorem dX12_beside_42 : decode cX12_beside 42 = .ok (.iconst 1, 1) := by decide +kernel
theorem dX12_beside_43 : decode cX12_beside 43 = .ok (.goto 4, 3) := by decide +kernel
theorem dX12_beside_46 : decode cX12_beside 46 = .ok (.iconst 0, 1) := by decide +kernel
theorem dX12_beside_47 : decode cX12_beside 47 = .ok (.iadd, 1) := by decide +kernel
theorem dX12_beside_48 : decode cX12_beside 48 = .ok (.istore_n 3, 1) := by decide +kernel
theorem dX12_beside_49 : decode cX12_beside 49 = .ok (.iload_n 2, 1) := by decide +kernel
theorem dX12_beside_50 : decode cX12_beside 50 = .ok (.i2l, 1) := by decide +kernel
theorem dX12_beside_51 : decode cX12_beside 51 = .ok (.lconst 0, 1) := by decide +kernel
theorem dX12_beside_52 : decode cX12_beside 52 = .ok (.ldc2_w 302, 3) := by decide +kernel
theorem dX12_beside_55 : decode cX12_beside 55 = .ok (.invokestatic 44, 3) := by decide +kernel
theorem dX12_beside_58 : decode cX12_beside 58 = .ok (.ifCond .eq 24, 3) := by decide +kernel
theorem dX12_beside_61 : decode cX12_beside 61 = .ok (.iload_n 3, 1) := by decide +kernel
theorem dX12_beside_62 : decode cX12_beside 62 = .ok (.i2l, 1) := by decide +kernel
theorem dX12_beside_63 : decode cX12_beside 63 = .ok (.lconst 0, 1) := by decide +kernel
theorem dX12_beside_64 : decode cX12_beside 64 = .ok (.ldc2_w 302, 3) := by decide +kernel
theorem dX12_beside_67 : decode cX12_beside 67 = .ok (.invokestatic 44, 3) := by decide +kernel
theorem dX12_beside_70 : decode cX12_beside 70 = .ok (.ifCond .eq 12, 3) := by decide +kernel
theorem dX12_beside_73 : decode cX12_beside 73 = .ok (.bipush 8, 2) := by decide +kernel
theorem dX12_beside_75 : decode cX12_beside 75 = .ok (.iload_n 2, 1) := by decide +kernel
theorem dX12_beside_76 : decode cX12_beside 76 = .ok (.imul, 1) := by decide +kernel
theorem dX12_beside_77 : decode cX12_beside 77 = .ok (.iload_n 3, 1) := by decide +kernel
theorem dX12_beside_78 : decode cX12_beside 78 = .ok (.iadd, 1) := by decide +kernel
theorem dX12_beside_79 : decode cX12_beside 79 = .ok (.goto 4, 3) := by decide +kernel
theorem dX12_beside_82 : decode cX12_beside 82 = .ok (.iconst (-1), 1) := by decide +kernel
theorem dX12_beside_83 : decode cX12_beside 83 = .ok (.ireturn, 1) := by decide +kernel
theorem dX12_most_0 : decode cX12_most 0 = .ok (.iconst 0, 1) := by decide +kernel
theorem dX12_most_1 : decode cX12_most 1 = .ok (.istore_n 1, 1) := by decide +kernel
theorem dX12_most_2 : decode cX12_most 2 = .ok (.aload_n 0, 1) := by decide +kernel
theorem dX12_most_3 : decode cX12_most 3 = .ok (.astore_n 2, 1) := by decide +kernel
theorem dX12_most_4 : decode cX12_most 4 = .ok (.aload_n 2, 1) := by decide +kernel
theorem dX12_most_5 : decode cX12_most 5 = .ok (.arraylength, 1) := by decide +kernel
theorem dX12_most_6 : decode cX12_most 6 = .ok (.istore_n 3, 1) := by decide +kernel
theorem dX12_most_7 : decode cX12_most 7 = .ok (.iconst 0, 1) := by decide +kernel
theorem dX12_most_8 : decode cX12_most 8 = .ok (.istore 4, 2) := by decide +kernel
theorem dX12_most_10 : decode cX12_most 10 = .ok (.iload 4, 2) := by decide +kernel
theorem dX12_most_12 : decode cX12_most 12 = .ok (.iload_n 3, 1) := by decide +kernel
theorem dX12_most_13 : decode cX12_most 13 = .ok (.if_icmp .ge 24, 3) := by decide +kernel
theorem dX12_most_16 : decode cX12_most 16 = .ok (.aload_n 2, 1) := by decide +kernel
theorem dX12_most_17 : decode cX12_most 17 = .ok (.iload 4, 2) := by decide +kernel
theorem dX12_most_19 : decode cX12_most 19 = .ok (.iaload, 1) := by decide +kernel
theorem dX12_most_20 : decode cX12_most 20 = .ok (.istore 5, 2) := by decide +kernel
theorem dX12_most_22 : decode cX12_most 22 = .ok (.iload_n 1, 1) := by decide +kernel
theorem dX12_most_23 : decode cX12_most 23 = .ok (.iload 5, 2) := by decide +kernel
theorem dX12_most_25 : decode cX12_most 25 = .ok (.iconst 1, 1) := by decide +kernel
theorem dX12_most_26 : decode cX12_most 26 = .ok (.iadd, 1) := by decide +kernel
theorem dX12_most_27 : decode cX12_most 27 = .ok (.invokestatic 268, 3) := by decide +kernel
theorem dX12_most_30 : decode cX12_most 30 = .ok (.istore_n 1, 1) := by decide +kernel
theorem dX12_most_31 : decode cX12_most 31 = .ok (.iinc 4 1, 3) := by decide +kernel
theorem dX12_most_34 : decode cX12_most 34 = .ok (.goto (-24), 3) := by decide +kernel
theorem dX12_most_37 : decode cX12_most 37 = .ok (.iload_n 1, 1) := by decide +kernel
theorem dX12_most_38 : decode cX12_most 38 = .ok (.ireturn, 1) := by decide +kernel
theorem dX12_picture_0 : decode cX12_picture 0 = .ok (.aload_n 0, 1) := by decide +kernel
theorem dX12_picture_1 : decode cX12_picture 1 = .ok (.invokevirtual 48, 3) := by decide +kernel
theorem dX12_picture_4 : decode cX12_picture 4 = .ok (.aload_n 0, 1) := by decide +kernel
theorem dX12_picture_5 : decode cX12_picture 5 = .ok (.aload_n 0, 1) := by decide +kernel
theorem dX12_picture_6 : decode cX12_picture 6 = .ok (.getfield 32, 3) := by decide +kernel
theorem dX12_picture_9 : decode cX12_picture 9 = .ok (.invokeinterface 38 1, 5) := by decide +kernel
theorem dX12_picture_14 : decode cX12_picture 14 = .ok (.iconst 4, 1) := by decide +kernel
theorem dX12_picture_15 : decode cX12_picture 15 = .ok (.if_icmp .ne 7, 3) := by decide +kernel
theorem dX12_picture_18 : decode cX12_picture 18 = .ok (.iconst 1, 1) := by decide +kernel
theorem dX12_picture_19 : decode cX12_picture 19 = .ok (.goto 4, 3) := by decide +kernel
theorem dX12_picture_22 : decode cX12_picture 22 = .ok (.iconst 0, 1) := by decide +kernel
theorem dX12_picture_23 : decode cX12_picture 23 = .ok (.iconst 1, 1) := by decide +kernel
theorem dX12_picture_24 : decode cX12_picture 24 = .ok (.invokevirtual 67, 3) := by decide +kernel
theorem dX12_picture_27 : decode cX12_picture 27 = .ok (.ifCond .eq 5, 3) := by decide +kernel
theorem dX12_picture_30 : decode cX12_picture 30 = .ok (.iconst (-1), 1) := by decide +kernel
theorem dX12_picture_31 : decode cX12_picture 31 = .ok (.ireturn, 1) := by decide +kernel
theorem dX12_picture_32 : decode cX12_picture 32 = .ok (.aload_n 0, 1) := by decide +kernel
theorem dX12_picture_33 : decode cX12_picture 33 = .ok (.getfield 32, 3) := by decide +kernel
theorem dX12_picture_36 : decode cX12_picture 36 = .ok (.new 304, 3) := by decide +kernel
theorem dX12_picture_39 : decode cX12_picture 39 = .ok (.dup, 1) := by decide +kernel
theorem dX12_picture_40 : decode cX12_picture 40 = .ok (.invokespecial 306, 3) := by decide +kernel
theorem dX12_picture_43 : decode cX12_picture 43 = .ok (.invokeinterface 76 2, 5) := by decide +kernel
theorem dX12_picture_48 : decode cX12_picture 48 = .ok (.pop, 1) := by decide +kernel
theorem dX12_picture_49 : decode cX12_picture 49 = .ok (.aload_n 0, 1) := by decide +kernel
theorem dX12_picture_50 : decode cX12_picture 50 = .ok (.getfield 32, 3) := by decide +kernel
theorem dX12_picture_53 : decode cX12_picture 53 = .ok (.invokeinterface 38 1, 5) := by decide +kernel
theorem dX12_picture_58 : decode cX12_picture 58 = .ok (.iconst 1, 1) := by decide +kernel
theorem dX12_picture_59 : decode cX12_picture 59 = .ok (.isub, 1) := by decide +kernel
theorem dX12_picture_60 : decode cX12_picture 60 = .ok (.ireturn, 1) := by decide +kernel
theorem dX12_noPicture_0 : decode cX12_noPicture 0 = .ok (.aload_n 0, 1) := by decide +kernel
theorem dX12_noPicture_1 : decode cX12_noPicture 1 = .ok (.aload_n 0, 1) := by decide +kernel
theorem dX12_noPicture_2 : decode cX12_noPicture 2 = .ok (.getfield 32, 3) := by decide +kernel
theorem dX12_noPicture_5 : decode cX12_noPicture 5 = .ok (.iload_n 1, 1) := by decide +kernel
theorem dX12_noPicture_6 : decode cX12_noPicture 6 = .ok (.invokestatic 80, 3) := by decide +kernel
theorem dX12_noPicture_9 : decode cX12_noPicture 9 = .ok (.ifCond .ne 7, 3) := by decide +kernel
theorem dX12_noPicture_12 : decode cX12_noPicture 12 = .ok (.iconst 1, 1) := by decide +kernel
theorem dX12_noPicture_13 : decode cX12_noPicture 13 = .ok (.goto 4, 3) := by decide +kernel
theorem dX12_noPicture_16 : decode cX12_noPicture 16 = .ok (.iconst 0, 1) := by decide +kernel
theorem dX12_noPicture_17 : decode cX12_noPicture 17 = .ok (.iconst 1, 1) := by decide +kernel
theorem dX12_noPicture_18 : decode cX12_noPicture 18 = .ok (.invokevirtual 67, 3) := by decide +kernel
theorem dX12_noPicture_21 : decode cX12_noPicture 21 = .ok (.ireturn, 1) := by decide +kernel
theorem dX12_draw_0 : decode cX12_draw 0 = .ok (.aload_n 0, 1) := by decide +kernel
theorem dX12_draw_1 : decode cX12_draw 1 = .ok (.invokevirtual 48, 3) := by decide +kernel
theorem dX12_draw_4 : decode cX12_draw 4 = .ok (.aload_n 0, 1) := by decide +kernel
theorem dX12_draw_5 : decode cX12_draw 5 = .ok (.iload_n 1, 1) := by decide +kernel
theorem dX12_draw_6 : decode cX12_draw 6 = .ok (.invokevirtual 307, 3) := by decide +kernel
theorem dX12_draw_9 : decode cX12_draw 9 = .ok (.ifCond .ne 102, 3) := by decide +kernel
theorem dX12_draw_12 : decode cX12_draw 12 = .ok (.aload_n 0, 1) := by decide +kernel
theorem dX12_draw_13 : decode cX12_draw 13 = .ok (.iload 5, 2) := by decide +kernel
theorem dX12_draw_15 : decode cX12_draw 15 = .ok (.i2l, 1) := by decide +kernel
theorem dX12_draw_16 : decode cX12_draw 16 = .ok (.ldc2_w 310, 3) := by decide +kernel
theorem dX12_draw_19 : decode cX12_draw 19 = .ok (.ldc2_w 312, 3) := by decide +kernel
theorem dX12_draw_22 : decode cX12_draw 22 = .ok (.invokestatic 44, 3) := by decide +kernel
theorem dX12_draw_25 : decode cX12_draw 25 = .ok (.ifCond .eq 42, 3) := by decide +kernel
theorem dX12_draw_28 : decode cX12_draw 28 = .ok (.iload_n 2, 1) := by decide +kernel
theorem dX12_draw_29 : decode cX12_draw 29 = .ok (.i2l, 1) := by decide +kernel
theorem dX12_draw_30 : decode cX12_draw 30 = .ok (.lconst 0, 1) := by decide +kernel
theorem dX12_draw_31 : decode cX12_draw 31 = .ok (.ldc2_w 302, 3) := by decide +kernel
theorem dX12_draw_34 : decode cX12_draw 34 = .ok (.invokestatic 44, 3) := by decide +kernel
theorem dX12_draw_37 : decode cX12_draw 37 = .ok (.ifCond .eq 30, 3) := by decide +kernel
theorem dX12_draw_40 : decode cX12_draw 40 = .ok (.iload_n 3, 1) := by decide +kernel
theorem dX12_draw_41 : decode cX12_draw 41 = .ok (.i2l, 1) := by decide +kernel
theorem dX12_draw_42 : decode cX12_draw 42 = .ok (.lconst 0, 1) := by decide +kernel
theorem dX12_draw_43 : decode cX12_draw 43 = .ok (.ldc2_w 302, 3) := by decide +kernel
theorem dX12_draw_46 : decode cX12_draw 46 = .ok (.invokestatic 44, 3) := by decide +kernel
theorem dX12_draw_49 : decode cX12_draw 49 = .ok (.ifCond .eq 18, 3) := by decide +kernel
theorem dX12_draw_52 : decode cX12_draw 52 = .ok (.iload 4, 2) := by decide +kernel
theorem dX12_draw_54 : decode cX12_draw 54 = .ok (.i2l, 1) := by decide +kernel
theorem dX12_draw_55 : decode cX12_draw 55 = .ok (.lconst 1, 1) := by decide +kernel
theorem dX12_draw_56 : decode cX12_draw 56 = .ok (.bipush 8, 2) := by decide +kernel
theorem dX12_draw_58 : decode cX12_draw 58 = .ok (.iload_n 3, 1) := by decide +kernel
theorem dX12_draw_59 : decode cX12_draw 59 = .ok (.isub, 1) := by decide +kernel
theorem dX12_draw_60 : decode cX12_draw 60 = .ok (.i2l, 1) := by decide +kernel
theorem dX12_draw_61 : decode cX12_draw 61 = .ok (.invokestatic 44, 3) := by decide +kernel
theorem dX12_draw_64 : decode cX12_draw 64 = .ok (.ifCond .ne 7, 3) := by decide +kernel
theorem dX12_draw_67 : decode cX12_draw 67 = .ok (.iconst 1, 1) := by decide +kernel
theorem dX12_draw_68 : decode cX12_draw 68 = .ok (.goto 4, 3) := by decide +kernel
theorem dX12_draw_71 : decode cX12_draw 71 = .ok (.iconst 0, 1) := by decide +kernel
theorem dX12_draw_72 : decode cX12_draw 72 = .ok (.iconst 2, 1) := by decide +kernel
theorem dX12_draw_73 : decode cX12_draw 73 = .ok (.invokevirtual 67, 3) := by decide +kernel
theorem dX12_draw_76 : decode cX12_draw 76 = .ok (.ifCond .ne 35, 3) := by decide +kernel
theorem dX12_draw_79 : decode cX12_draw 79 = .ok (.aload_n 0, 1) := by decide +kernel
theorem dX12_draw_80 : decode cX12_draw 80 = .ok (.aload_n 0, 1) := by decide +kernel
theorem dX12_draw_81 : decode cX12_draw 81 = .ok (.getfield 32, 3) := by decide +kernel
theorem dX12_draw_84 : decode cX12_draw 84 = .ok (.iload_n 1, 1) := by decide +kernel
theorem dX12_draw_85 : decode cX12_draw 85 = .ok (.invokeinterface 90 2, 5) := by decide +kernel
theorem dX12_draw_90 : decode cX12_draw 90 = .ok (.checkcast 304, 3) := by decide +kernel
theorem dX12_draw_93 : decode cX12_draw 93 = .ok (.getfield 314, 3) := by decide +kernel
theorem dX12_draw_96 : decode cX12_draw 96 = .ok (.ifnull 7, 3) := by decide +kernel
theorem dX12_draw_99 : decode cX12_draw 99 = .ok (.iconst 1, 1) := by decide +kernel
theorem dX12_draw_100 : decode cX12_draw 100 = .ok (.goto 4, 3) := by decide +kernel
theorem dX12_draw_103 : decode cX12_draw 103 = .ok (.iconst 0, 1) := by decide +kernel
theorem dX12_draw_104 : decode cX12_draw 104 = .ok (.iconst 3, 1) := by decide +kernel
theorem dX12_draw_105 : decode cX12_draw 105 = .ok (.invokevirtual 67, 3) := by decide +kernel
theorem dX12_draw_108 : decode cX12_draw 108 = .ok (.ifCond .eq 5, 3) := by decide +kernel
theorem dX12_draw_111 : decode cX12_draw 111 = .ok (.iconst (-1), 1) := by decide +kernel
theorem dX12_draw_112 : decode cX12_draw 112 = .ok (.ireturn, 1) := by decide +kernel
theorem dX12_draw_113 : decode cX12_draw 113 = .ok (.iload_n 3, 1) := by decide +kernel
theorem dX12_draw_114 : decode cX12_draw 114 = .ok (.istore 6, 2) := by decide +kernel
theorem dX12_draw_116 : decode cX12_draw 116 = .ok (.iload 6, 2) := by decide +kernel
theorem dX12_draw_118 : decode cX12_draw 118 = .ok (.iload_n 3, 1) := by decide +kernel
theorem dX12_draw_119 : decode cX12_draw 119 = .ok (.iload 4, 2) := by decide +kernel
theorem dX12_draw_121 : decode cX12_draw 121 = .ok (.iadd, 1) := by decide +kernel
theorem dX12_draw_122 : decode cX12_draw 122 = .ok (.if_icmp .ge 38, 3) := by decide +kernel
theorem dX12_draw_125 : decode cX12_draw 125 = .ok (.aload_n 0, 1) := by decide +kernel
theorem dX12_draw_126 : decode cX12_draw 126 = .ok (.getfield 32, 3) := by decide +kernel
theorem dX12_draw_129 : decode cX12_draw 129 = .ok (.iload_n 1, 1) := by decide +kernel
theorem dX12_draw_130 : decode cX12_draw 130 = .ok (.invokeinterface 90 2, 5) := by decide +kernel
theorem dX12_draw_135 : decode cX12_draw 135 = .ok (.checkcast 304, 3) := by decide +kernel
theorem dX12_draw_138 : decode cX12_draw 138 = .ok (.getfield 317, 3) := by decide +kernel
theorem dX12_draw_141 : decode cX12_draw 141 = .ok (.bipush 8, 2) := by decide +kernel
theorem dX12_draw_143 : decode cX12_draw 143 = .ok (.iload_n 2, 1) := by decide +kernel
theorem dX12_draw_144 : decode cX12_draw 144 = .ok (.imul, 1) := by decide +kernel
theorem dX12_draw_145 : decode cX12_draw 145 = .ok (.iload 6, 2) := by decide +kernel
theorem dX12_draw_147 : decode cX12_draw 147 = .ok (.iadd, 1) := by decide +kernel
theorem dX12_draw_148 : decode cX12_draw 148 = .ok (.iload 5, 2) := by decide +kernel
theorem dX12_draw_150 : decode cX12_draw 150 = .ok (.bipush 97, 2) := by decide +kernel
theorem dX12_draw_152 : decode cX12_draw 152 = .ok (.isub, 1) := by decide +kernel
theorem dX12_draw_153 : decode cX12_draw 153 = .ok (.iastore, 1) := by decide +kernel
theorem dX12_draw_154 : decode cX12_draw 154 = .ok (.iinc 6 1, 3) := by decide +kernel
theorem dX12_draw_157 : decode cX12_draw 157 = .ok (.goto (-41), 3) := by decide +kernel
theorem dX12_draw_160 : decode cX12_draw 160 = .ok (.aload_n 0, 1) := by decide +kernel
theorem dX12_draw_161 : decode cX12_draw 161 = .ok (.getfield 32, 3) := by decide +kernel
theorem dX12_draw_164 : decode cX12_draw 164 = .ok (.iload_n 1, 1) := by decide +kernel
theorem dX12_draw_165 : decode cX12_draw 165 = .ok (.invokeinterface 90 2, 5) := by decide +kernel
theorem dX12_draw_170 : decode cX12_draw 170 = .ok (.checkcast 304, 3) := by decide +kernel
theorem dX12_draw_173 : decode cX12_draw 173 = .ok (.invokevirtual 320, 3) := by decide +kernel
theorem dX12_draw_176 : decode cX12_draw 176 = .ok (.invokestatic 324, 3) := by decide +kernel
theorem dX12_draw_179 : decode cX12_draw 179 = .ok (.ireturn, 1) := by decide +kernel
theorem dX12_noPlace_0 : decode cX12_noPlace 0 = .ok (.aload_n 0, 1) := by decide +kernel
theorem dX12_noPlace_1 : decode cX12_noPlace 1 = .ok (.aload_n 0, 1) := by decide +kernel
theorem dX12_noPlace_2 : decode cX12_noPlace 2 = .ok (.getfield 32, 3) := by decide +kernel
theorem dX12_noPlace_5 : decode cX12_noPlace 5 = .ok (.iload_n 1, 1) := by decide +kernel
theorem dX12_noPlace_6 : decode cX12_noPlace 6 = .ok (.invokestatic 80, 3) := by decide +kernel
theorem dX12_noPlace_9 : decode cX12_noPlace 9 = .ok (.ifCond .eq 27, 3) := by decide +kernel
theorem dX12_noPlace_12 : decode cX12_noPlace 12 = .ok (.iload_n 2, 1) := by decide +kernel
theorem dX12_noPlace_13 : decode cX12_noPlace 13 = .ok (.i2l, 1) := by decide +kernel
theorem dX12_noPlace_14 : decode cX12_noPlace 14 = .ok (.lconst 0, 1) := by decide +kernel
theorem dX12_noPlace_15 : decode cX12_noPlace 15 = .ok (.ldc2_w 302, 3) := by decide +kernel
theorem dX12_noPlace_18 : decode cX12_noPlace 18 = .ok (.invokestatic 44, 3) := by decide +kernel
theorem dX12_noPlace_21 : decode cX12_noPlace 21 = .ok (.ifCond .eq 15, 3) := by decide +kernel
theorem dX12_noPlace_24 : decode cX12_noPlace 24 = .ok (.iload_n 3, 1) := by decide +kernel
theorem dX12_noPlace_25 : decode cX12_noPlace 25 = .ok (.i2l, 1) := by decide +kernel
theorem dX12_noPlace_26 : decode cX12_noPlace 26 = .ok (.lconst 0, 1) := by decide +kernel
theorem dX12_noPlace_27 : decode cX12_noPlace 27 = .ok (.ldc2_w 302, 3) := by decide +kernel
theorem dX12_noPlace_30 : decode cX12_noPlace 30 = .ok (.invokestatic 44, 3) := by decide +kernel
theorem dX12_noPlace_33 : decode cX12_noPlace 33 = .ok (.ifCond .ne 7, 3) := by decide +kernel
theorem dX12_noPlace_36 : decode cX12_noPlace 36 = .ok (.iconst 1, 1) := by decide +kernel
theorem dX12_noPlace_37 : decode cX12_noPlace 37 = .ok (.goto 4, 3) := by decide +kernel
theorem dX12_noPlace_40 : decode cX12_noPlace 40 = .ok (.iconst 0, 1) := by decide +kernel
theorem dX12_noPlace_41 : decode cX12_noPlace 41 = .ok (.iconst 1, 1) := by decide +kernel
theorem dX12_noPlace_42 : decode cX12_noPlace 42 = .ok (.invokevirtual 67, 3) := by decide +kernel
theorem dX12_noPlace_45 : decode cX12_noPlace 45 = .ok (.ireturn, 1) := by decide +kernel
theorem dX12_fieldAt_0 : decode cX12_fieldAt 0 = .ok (.aload_n 0, 1) := by decide +kernel
theorem dX12_fieldAt_1 : decode cX12_fieldAt 1 = .ok (.invokevirtual 48, 3) := by decide +kernel
theorem dX12_fieldAt_4 : decode cX12_fieldAt 4 = .ok (.aload_n 0, 1) := by decide +kernel
theorem dX12_fieldAt_5 : decode cX12_fieldAt 5 = .ok (.iload_n 1, 1) := by decide +kernel
theorem dX12_fieldAt_6 : decode cX12_fieldAt 6 = .ok (.iload_n 2, 1) := by decide +kernel
theorem dX12_fieldAt_7 : decode cX12_fieldAt 7 = .ok (.iload_n 3, 1) := by decide +kernel
theorem dX12_fieldAt_8 : decode cX12_fieldAt 8 = .ok (.invokevirtual 328, 3) := by decide +kernel
theorem dX12_fieldAt_11 : decode cX12_fieldAt 11 = .ok (.ifCond .eq 8, 3) := by decide +kernel
theorem dX12_fieldAt_14 : decode cX12_fieldAt 14 = .ok (.bipush 32, 2) := by decide +kernel
theorem dX12_fieldAt_16 : decode cX12_fieldAt 16 = .ok (.goto 30, 3) := by decide +kernel
theorem dX12_fieldAt_19 : decode cX12_fieldAt 19 = .ok (.bipush 97, 2) := by decide +kernel
theorem dX12_fieldAt_21 : decode cX12_fieldAt 21 = .ok (.aload_n 0, 1) := by decide +kernel
theorem dX12_fieldAt_22 : decode cX12_fieldAt 22 = .ok (.getfield 32, 3) := by decide +kernel
theorem dX12_fieldAt_25 : decode cX12_fieldAt 25 = .ok (.iload_n 1, 1) := by decide +kernel
theorem dX12_fieldAt_26 : decode cX12_fieldAt 26 = .ok (.invokeinterface 90 2, 5) := by decide +kernel
theorem dX12_fieldAt_31 : decode cX12_fieldAt 31 = .ok (.checkcast 304, 3) := by decide +kernel
theorem dX12_fieldAt_34 : decode cX12_fieldAt 34 = .ok (.getfield 317, 3) := by decide +kernel
theorem dX12_fieldAt_37 : decode cX12_fieldAt 37 = .ok (.bipush 8, 2) := by decide +kernel
theorem dX12_fieldAt_39 : decode cX12_fieldAt 39 = .ok (.iload_n 2, 1) := by decide +kernel
theorem dX12_fieldAt_40 : decode cX12_fieldAt 40 = .ok (.imul, 1) := by decide +kernel
theorem dX12_fieldAt_41 : decode cX12_fieldAt 41 = .ok (.iload_n 3, 1) := by decide +kernel
theorem dX12_fieldAt_42 : decode cX12_fieldAt 42 = .ok (.iadd, 1) := by decide +kernel
theorem dX12_fieldAt_43 : decode cX12_fieldAt 43 = .ok (.iaload, 1) := by decide +kernel
theorem dX12_fieldAt_44 : decode cX12_fieldAt 44 = .ok (.iadd, 1) := by decide +kernel
theorem dX12_fieldAt_45 : decode cX12_fieldAt 45 = .ok (.i2c, 1) := by decide +kernel
theorem dX12_fieldAt_46 : decode cX12_fieldAt 46 = .ok (.ireturn, 1) := by decide +kernel
theorem dX12_pieces_0 : decode cX12_pieces 0 = .ok (.aload_n 0, 1) := by decide +kernel
theorem dX12_pieces_1 : decode cX12_pieces 1 = .ok (.invokevirtual 48, 3) := by decide +kernel
theorem dX12_pieces_4 : decode cX12_pieces 4 = .ok (.aload_n 0, 1) := by decide +kernel
theorem dX12_pieces_5 : decode cX12_pieces 5 = .ok (.iload_n 1, 1) := by decide +kernel
theorem dX12_pieces_6 : decode cX12_pieces 6 = .ok (.invokevirtual 307, 3) := by decide +kernel
theorem dX12_pieces_9 : decode cX12_pieces 9 = .ok (.ifCond .eq 7, 3) := by decide +kernel
theorem dX12_pieces_12 : decode cX12_pieces 12 = .ok (.iconst (-1), 1) := by decide +kernel
theorem dX12_pieces_13 : decode cX12_pieces 13 = .ok (.goto 22, 3) := by decide +kernel
theorem dX12_pieces_16 : decode cX12_pieces 16 = .ok (.aload_n 0, 1) := by decide +kernel
theorem dX12_pieces_17 : decode cX12_pieces 17 = .ok (.getfield 32, 3) := by decide +kernel
theorem dX12_pieces_20 : decode cX12_pieces 20 = .ok (.iload_n 1, 1) := by decide +kernel
theorem dX12_pieces_21 : decode cX12_pieces 21 = .ok (.invokeinterface 90 2, 5) := by decide +kernel
theorem dX12_pieces_26 : decode cX12_pieces 26 = .ok (.checkcast 304, 3) := by decide +kernel
theorem dX12_pieces_29 : decode cX12_pieces 29 = .ok (.invokevirtual 320, 3) := by decide +kernel
theorem dX12_pieces_32 : decode cX12_pieces 32 = .ok (.invokestatic 324, 3) := by decide +kernel
theorem dX12_pieces_35 : decode cX12_pieces 35 = .ok (.ireturn, 1) := by decide +kernel
theorem dX12_islands_0 : decode cX12_islands 0 = .ok (.aload_n 0, 1) := by decide +kernel
theorem dX12_islands_1 : decode cX12_islands 1 = .ok (.invokevirtual 48, 3) := by decide +kernel
theorem dX12_islands_4 : decode cX12_islands 4 = .ok (.aload_n 0, 1) := by decide +kernel
theorem dX12_islands_5 : decode cX12_islands 5 = .ok (.iload_n 1, 1) := by decide +kernel
theorem dX12_islands_6 : decode cX12_islands 6 = .ok (.invokevirtual 307, 3) := by decide +kernel
theorem dX12_islands_9 : decode cX12_islands 9 = .ok (.ifCond .eq 5, 3) := by decide +kernel
theorem dX12_islands_12 : decode cX12_islands 12 = .ok (.iconst (-1), 1) := by decide +kernel
theorem dX12_islands_13 : decode cX12_islands 13 = .ok (.ireturn, 1) := by decide +kernel
theorem dX12_islands_14 : decode cX12_islands 14 = .ok (.aload_n 0, 1) := by decide +kernel
theorem dX12_islands_15 : decode cX12_islands 15 = .ok (.getfield 32, 3) := by decide +kernel
theorem dX12_islands_18 : decode cX12_islands 18 = .ok (.iload_n 1, 1) := by decide +kernel
theorem dX12_islands_19 : decode cX12_islands 19 = .ok (.invokeinterface 90 2, 5) := by decide +kernel
theorem dX12_islands_24 : decode cX12_islands 24 = .ok (.checkcast 304, 3) := by decide +kernel
theorem dX12_islands_27 : decode cX12_islands 27 = .ok (.astore_n 2, 1) := by decide +kernel
theorem dX12_islands_28 : decode cX12_islands 28 = .ok (.aload_n 2, 1) := by decide +kernel
theorem dX12_islands_29 : decode cX12_islands 29 = .ok (.invokevirtual 320, 3) := by decide +kernel
theorem dX12_islands_32 : decode cX12_islands 32 = .ok (.astore_n 3, 1) := by decide +kernel
theorem dX12_islands_33 : decode cX12_islands 33 = .ok (.iconst 0, 1) := by decide +kernel
theorem dX12_islands_34 : decode cX12_islands 34 = .ok (.istore 4, 2) := by decide +kernel
theorem dX12_islands_36 : decode cX12_islands 36 = .ok (.iconst 0, 1) := by decide +kernel
theorem dX12_islands_37 : decode cX12_islands 37 = .ok (.istore 5, 2) := by decide +kernel
theorem dX12_islands_39 : decode cX12_islands 39 = .ok (.iload 5, 2) := by decide +kernel
theorem dX12_islands_41 : decode cX12_islands 41 = .ok (.aload_n 3, 1) := by decide +kernel
theorem dX12_islands_42 : decode cX12_islands 42 = .ok (.invokestatic 324, 3) := by decide +kernel
theorem dX12_islands_45 : decode cX12_islands 45 = .ok (.if_icmp .ge 151, 3) := by decide +kernel
theorem dX12_islands_48 : decode cX12_islands 48 = .ok (.iconst 1, 1) := by decide +kernel
theorem dX12_islands_49 : decode cX12_islands 49 = .ok (.istore 6, 2) := by decide +kernel
theorem dX12_islands_51 : decode cX12_islands 51 = .ok (.iconst (-1), 1) := by decide +kernel
theorem dX12_islands_52 : decode cX12_islands 52 = .ok (.istore 7, 2) := by decide +kernel
theorem dX12_islands_54 : decode cX12_islands 54 = .ok (.iconst 0, 1) := by decide +kernel
theorem dX12_islands_55 : decode cX12_islands 55 = .ok (.istore 8, 2) := by decide +kernel
theorem dX12_islands_57 : decode cX12_islands 57 = .ok (.iload 8, 2) := by decide +kernel
theorem dX12_islands_59 : decode cX12_islands 59 = .ok (.bipush 64, 2) := by decide +kernel
theorem dX12_islands_61 : decode cX12_islands 61 = .ok (.if_icmp .ge 114, 3) := by decide +kernel
theorem dX12_islands_64 : decode cX12_islands 64 = .ok (.iconst 0, 1) := by decide +kernel
theorem dX12_islands_65 : decode cX12_islands 65 = .ok (.istore 9, 2) := by decide +kernel
theorem dX12_islands_67 : decode cX12_islands 67 = .ok (.iload 9, 2) := by decide +kernel
theorem dX12_islands_69 : decode cX12_islands 69 = .ok (.iconst 4, 1) := by decide +kernel
theorem dX12_islands_70 : decode cX12_islands 70 = .ok (.if_icmp .ge 99, 3) := by decide +kernel
theorem dX12_islands_73 : decode cX12_islands 73 = .ok (.aload_n 3, 1) := by decide +kernel
theorem dX12_islands_74 : decode cX12_islands 74 = .ok (.iload 8, 2) := by decide +kernel
theorem dX12_islands_76 : decode cX12_islands 76 = .ok (.iaload, 1) := by decide +kernel
theorem dX12_islands_77 : decode cX12_islands 77 = .ok (.iload 5, 2) := by decide +kernel
theorem dX12_islands_79 : decode cX12_islands 79 = .ok (.if_icmp .ne 90, 3) := by decide +kernel
theorem dX12_islands_82 : decode cX12_islands 82 = .ok (.iload 8, 2) := by decide +kernel
theorem dX12_islands_84 : decode cX12_islands 84 = .ok (.iload 9, 2) := by decide +kernel
theorem dX12_islands_86 : decode cX12_islands 86 = .ok (.invokestatic 331, 3) := by decide +kernel
theorem dX12_islands_89 : decode cX12_islands 89 = .ok (.istore 10, 2) := by decide +kernel
theorem dX12_islands_91 : decode cX12_islands 91 = .ok (.iload 6, 2) := by decide +kernel
theorem dX12_islands_93 : decode cX12_islands 93 = .ok (.ifCond .eq 13, 3) := by decide +kernel
theorem dX12_islands_96 : decode cX12_islands 96 = .ok (.iload 10, 2) := by decide +kernel
theorem dX12_islands_98 : decode cX12_islands 98 = .ok (.iconst (-1), 1) := by decide +kernel
theorem dX12_islands_99 : decode cX12_islands 99 = .ok (.if_icmp .eq 7, 3) := by decide +kernel
theorem dX12_islands_102 : decode cX12_islands 102 = .ok (.iconst 1, 1) := by decide +kernel
theorem dX12_islands_103 : decode cX12_islands 103 = .ok (.goto 4, 3) := by decide +kernel
theorem dX12_islands_106 : decode cX12_islands 106 = .ok (.iconst 0, 1) := by decide +kernel
theorem dX12_islands_107 : decode cX12_islands 107 = .ok (.istore 6, 2) := by decide +kernel
theorem dX12_islands_109 : decode cX12_islands 109 = .ok (.iload 10, 2) := by decide +kernel
theorem dX12_islands_111 : decode cX12_islands 111 = .ok (.iconst (-1), 1) := by decide +kernel
theorem dX12_islands_112 : decode cX12_islands 112 = .ok (.if_icmp .eq 51, 3) := by decide +kernel
theorem dX12_islands_115 : decode cX12_islands 115 = .ok (.aload_n 3, 1) := by decide +kernel
theorem dX12_islands_116 : decode cX12_islands 116 = .ok (.iload 10, 2) := by decide +kernel
theorem dX12_islands_118 : decode cX12_islands 118 = .ok (.iaload, 1) := by decide +kernel
theorem dX12_islands_119 : decode cX12_islands 119 = .ok (.iload 5, 2) := by decide +kernel
theorem dX12_islands_121 : decode cX12_islands 121 = .ok (.if_icmp .eq 42, 3) := by decide +kernel
theorem dX12_islands_124 : decode cX12_islands 124 = .ok (.iload 6, 2) := by decide +kernel
theorem dX12_islands_126 : decode cX12_islands 126 = .ok (.ifCond .eq 25, 3) := by decide +kernel
theorem dX12_islands_129 : decode cX12_islands 129 = .ok (.iload 7, 2) := by decide +kernel
theorem dX12_islands_131 : decode cX12_islands 131 = .ok (.iconst (-1), 1) := by decide +kernel
theorem dX12_islands_132 : decode cX12_islands 132 = .ok (.if_icmp .eq 15, 3) := by decide +kernel
theorem dX12_islands_135 : decode cX12_islands 135 = .ok (.iload 7, 2) := by decide +kernel
theorem dX12_islands_137 : decode cX12_islands 137 = .ok (.aload_n 2, 1) := by decide +kernel
theorem dX12_islands_138 : decode cX12_islands 138 = .ok (.getfield 317, 3) := by decide +kernel
theorem dX12_islands_141 : decode cX12_islands 141 = .ok (.iload 10, 2) := by decide +kernel
theorem dX12_islands_143 : decode cX12_islands 143 = .ok (.iaload, 1) := by decide +kernel
theorem dX12_islands_144 : decode cX12_islands 144 = .ok (.if_icmp .ne 7, 3) := by decide +kernel
theorem dX12_islands_147 : decode cX12_islands 147 = .ok (.iconst 1, 1) := by decide +kernel
theorem dX12_islands_148 : decode cX12_islands 148 = .ok (.goto 4, 3) := by decide +kernel
theorem dX12_islands_151 : decode cX12_islands 151 = .ok (.iconst 0, 1) := by decide +kernel
theorem dX12_islands_152 : decode cX12_islands 152 = .ok (.istore 6, 2) := by decide +kernel
theorem dX12_islands_154 : decode cX12_islands 154 = .ok (.aload_n 2, 1) := by decide +kernel
theorem dX12_islands_155 : decode cX12_islands 155 = .ok (.getfield 317, 3) := by decide +kernel
theorem dX12_islands_158 : decode cX12_islands 158 = .ok (.iload 10, 2) := by decide +kernel
theorem dX12_islands_160 : decode cX12_islands 160 = .ok (.iaload, 1) := by decide +kernel
theorem dX12_islands_161 : decode cX12_islands 161 = .ok (.istore 7, 2) := by decide +kernel
theorem dX12_islands_163 : decode cX12_islands 163 = .ok (.iinc 9 1, 3) := by decide +kernel
theorem dX12_islands_166 : decode cX12_islands 166 = .ok (.goto (-99), 3) := by decide +kernel
theorem dX12_islands_169 : decode cX12_islands 169 = .ok (.iinc 8 1, 3) := by decide +kernel
theorem dX12_islands_172 : decode cX12_islands 172 = .ok (.goto (-115), 3) := by decide +kernel
theorem dX12_islands_175 : decode cX12_islands 175 = .ok (.iload 4, 2) := by decide +kernel
theorem dX12_islands_177 : decode cX12_islands 177 = .ok (.iload 6, 2) := by decide +kernel
theorem dX12_islands_179 : decode cX12_islands 179 = .ok (.ifCond .eq 7, 3) := by decide +kernel
theorem dX12_islands_182 : decode cX12_islands 182 = .ok (.iconst 1, 1) := by decide +kernel
theorem dX12_islands_183 : decode cX12_islands 183 = .ok (.goto 4, 3) := by decide +kernel
theorem dX12_islands_186 : decode cX12_islands 186 = .ok (.iconst 0, 1) := by decide +kernel
theorem dX12_islands_187 : decode cX12_islands 187 = .ok (.iadd, 1) := by decide +kernel
theorem dX12_islands_188 : decode cX12_islands 188 = .ok (.istore 4, 2) := by decide +kernel
theorem dX12_islands_190 : decode cX12_islands 190 = .ok (.iinc 5 1, 3) := by decide +kernel
theorem dX12_islands_193 : decode cX12_islands 193 = .ok (.goto (-154), 3) := by decide +kernel
theorem dX12_islands_196 : decode cX12_islands 196 = .ok (.iload 4, 2) := by decide +kernel
theorem dX12_islands_198 : decode cX12_islands 198 = .ok (.ireturn, 1) := by decide +kernel
theorem dX12_saw_0 : decode cX12_saw 0 = .ok (.aload_n 0, 1) := by decide +kernel
theorem dX12_saw_1 : decode cX12_saw 1 = .ok (.invokevirtual 48, 3) := by decide +kernel
theorem dX12_saw_4 : decode cX12_saw 4 = .ok (.aload_n 0, 1) := by decide +kernel
theorem dX12_saw_5 : decode cX12_saw 5 = .ok (.iload_n 1, 1) := by decide +kernel
theorem dX12_saw_6 : decode cX12_saw 6 = .ok (.invokevirtual 307, 3) := by decide +kernel
theorem dX12_saw_9 : decode cX12_saw 9 = .ok (.ifCond .ne 42, 3) := by decide +kernel
theorem dX12_saw_12 : decode cX12_saw 12 = .ok (.aload_n 0, 1) := by decide +kernel
theorem dX12_saw_13 : decode cX12_saw 13 = .ok (.iload_n 2, 1) := by decide +kernel
theorem dX12_saw_14 : decode cX12_saw 14 = .ok (.iload_n 3, 1) := by decide +kernel
theorem dX12_saw_15 : decode cX12_saw 15 = .ok (.iload 4, 2) := by decide +kernel
theorem dX12_saw_17 : decode cX12_saw 17 = .ok (.invokevirtual 175, 3) := by decide +kernel
theorem dX12_saw_20 : decode cX12_saw 20 = .ok (.ifCond .ne 31, 3) := by decide +kernel
theorem dX12_saw_23 : decode cX12_saw 23 = .ok (.aload_n 0, 1) := by decide +kernel
theorem dX12_saw_24 : decode cX12_saw 24 = .ok (.iload 4, 2) := by decide +kernel
theorem dX12_saw_26 : decode cX12_saw 26 = .ok (.i2l, 1) := by decide +kernel
theorem dX12_saw_27 : decode cX12_saw 27 = .ok (.ldc2_w 334, 3) := by decide +kernel
theorem dX12_saw_30 : decode cX12_saw 30 = .ok (.ldc2_w 181, 3) := by decide +kernel
theorem dX12_saw_33 : decode cX12_saw 33 = .ok (.invokestatic 44, 3) := by decide +kernel
theorem dX12_saw_36 : decode cX12_saw 36 = .ok (.ifCond .ne 7, 3) := by decide +kernel
theorem dX12_saw_39 : decode cX12_saw 39 = .ok (.iconst 1, 1) := by decide +kernel
theorem dX12_saw_40 : decode cX12_saw 40 = .ok (.goto 4, 3) := by decide +kernel
theorem dX12_saw_43 : decode cX12_saw 43 = .ok (.iconst 0, 1) := by decide +kernel
theorem dX12_saw_44 : decode cX12_saw 44 = .ok (.iconst 2, 1) := by decide +kernel
theorem dX12_saw_45 : decode cX12_saw 45 = .ok (.invokevirtual 67, 3) := by decide +kernel
theorem dX12_saw_48 : decode cX12_saw 48 = .ok (.ifCond .eq 5, 3) := by decide +kernel
theorem dX12_saw_51 : decode cX12_saw 51 = .ok (.iconst (-1), 1) := by decide +kernel
theorem dX12_saw_52 : decode cX12_saw 52 = .ok (.ireturn, 1) := by decide +kernel
theorem dX12_saw_53 : decode cX12_saw 53 = .ok (.aload_n 0, 1) := by decide +kernel
theorem dX12_saw_54 : decode cX12_saw 54 = .ok (.getfield 16, 3) := by decide +kernel
theorem dX12_saw_57 : decode cX12_saw 57 = .ok (.iload_n 2, 1) := by decide +kernel
theorem dX12_saw_58 : decode cX12_saw 58 = .ok (.invokeinterface 90 2, 5) := by decide +kernel
theorem dX12_saw_63 : decode cX12_saw 63 = .ok (.checkcast 98, 3) := by decide +kernel
theorem dX12_saw_66 : decode cX12_saw 66 = .ok (.astore 5, 2) := by decide +kernel
theorem dX12_saw_68 : decode cX12_saw 68 = .ok (.aload_n 0, 1) := by decide +kernel
theorem dX12_saw_69 : decode cX12_saw 69 = .ok (.getfield 32, 3) := by decide +kernel
theorem dX12_saw_72 : decode cX12_saw 72 = .ok (.iload_n 1, 1) := by decide +kernel
theorem dX12_saw_73 : decode cX12_saw 73 = .ok (.invokeinterface 90 2, 5) := by decide +kernel
theorem dX12_saw_78 : decode cX12_saw 78 = .ok (.checkcast 304, 3) := by decide +kernel
theorem dX12_saw_81 : decode cX12_saw 81 = .ok (.getfield 314, 3) := by decide +kernel
theorem dX12_saw_84 : decode cX12_saw 84 = .ok (.ifnonnull 7, 3) := by decide +kernel
theorem dX12_saw_87 : decode cX12_saw 87 = .ok (.iconst 1, 1) := by decide +kernel
theorem dX12_saw_88 : decode cX12_saw 88 = .ok (.goto 4, 3) := by decide +kernel
theorem dX12_saw_91 : decode cX12_saw 91 = .ok (.iconst 0, 1) := by decide +kernel
theorem dX12_saw_92 : decode cX12_saw 92 = .ok (.istore 6, 2) := by decide +kernel
theorem dX12_saw_94 : decode cX12_saw 94 = .ok (.bipush (-64), 2) := by decide +kernel
theorem dX12_saw_96 : decode cX12_saw 96 = .ok (.iload 4, 2) := by decide +kernel
theorem dX12_saw_98 : decode cX12_saw 98 = .ok (.imul, 1) := by decide +kernel
theorem dX12_saw_99 : decode cX12_saw 99 = .ok (.istore 7, 2) := by decide +kernel
theorem dX12_saw_101 : decode cX12_saw 101 = .ok (.iload_n 3, 1) := by decide +kernel
theorem dX12_saw_102 : decode cX12_saw 102 = .ok (.istore 8, 2) := by decide +kernel
theorem dX12_saw_104 : decode cX12_saw 104 = .ok (.iload 8, 2) := by decide +kernel
theorem dX12_saw_106 : decode cX12_saw 106 = .ok (.iload_n 3, 1) := by decide +kernel
theorem dX12_saw_107 : decode cX12_saw 107 = .ok (.iload 4, 2) := by decide +kernel
theorem dX12_saw_109 : decode cX12_saw 109 = .ok (.iadd, 1) := by decide +kernel
theorem dX12_saw_110 : decode cX12_saw 110 = .ok (.if_icmp .ge 56, 3) := by decide +kernel
theorem dX12_saw_113 : decode cX12_saw 113 = .ok (.iload 6, 2) := by decide +kernel
theorem dX12_saw_115 : decode cX12_saw 115 = .ok (.ifCond .eq 30, 3) := by decide +kernel
theorem dX12_saw_118 : decode cX12_saw 118 = .ok (.aload 5, 2) := by decide +kernel
theorem dX12_saw_120 : decode cX12_saw 120 = .ok (.getfield 103, 3) := by decide +kernel
theorem dX12_saw_123 : decode cX12_saw 123 = .ok (.iload 8, 2) := by decide +kernel
theorem dX12_saw_125 : decode cX12_saw 125 = .ok (.baload, 1) := by decide +kernel
theorem dX12_saw_126 : decode cX12_saw 126 = .ok (.ifCond .ne 19, 3) := by decide +kernel
theorem dX12_saw_129 : decode cX12_saw 129 = .ok (.aload 5, 2) := by decide +kernel
theorem dX12_saw_131 : decode cX12_saw 131 = .ok (.iload 8, 2) := by decide +kernel
theorem dX12_saw_133 : decode cX12_saw 133 = .ok (.invokevirtual 114, 3) := by decide +kernel
theorem dX12_saw_136 : decode cX12_saw 136 = .ok (.bipush 80, 2) := by decide +kernel
theorem dX12_saw_138 : decode cX12_saw 138 = .ok (.if_icmp .lt 7, 3) := by decide +kernel
theorem dX12_saw_141 : decode cX12_saw 141 = .ok (.iconst 1, 1) := by decide +kernel
theorem dX12_saw_142 : decode cX12_saw 142 = .ok (.goto 4, 3) := by decide +kernel
theorem dX12_saw_145 : decode cX12_saw 145 = .ok (.iconst 0, 1) := by decide +kernel
theorem dX12_saw_146 : decode cX12_saw 146 = .ok (.istore 6, 2) := by decide +kernel
theorem dX12_saw_148 : decode cX12_saw 148 = .ok (.iload 7, 2) := by decide +kernel
theorem dX12_saw_150 : decode cX12_saw 150 = .ok (.aload 5, 2) := by decide +kernel
theorem dX12_saw_152 : decode cX12_saw 152 = .ok (.iload 8, 2) := by decide +kernel
theorem dX12_saw_154 : decode cX12_saw 154 = .ok (.invokevirtual 117, 3) := by decide +kernel
theorem dX12_saw_157 : decode cX12_saw 157 = .ok (.iadd, 1) := by decide +kernel
theorem dX12_saw_158 : decode cX12_saw 158 = .ok (.istore 7, 2) := by decide +kernel
theorem dX12_saw_160 : decode cX12_saw 160 = .ok (.iinc 8 1, 3) := by decide +kernel
theorem dX12_saw_163 : decode cX12_saw 163 = .ok (.goto (-59), 3) := by decide +kernel
theorem dX12_saw_166 : decode cX12_saw 166 = .ok (.aload_n 0, 1) := by decide +kernel
theorem dX12_saw_167 : decode cX12_saw 167 = .ok (.iload 6, 2) := by decide +kernel
theorem dX12_saw_169 : decode cX12_saw 169 = .ok (.ifCond .ne 7, 3) := by decide +kernel
theorem dX12_saw_172 : decode cX12_saw 172 = .ok (.iconst 1, 1) := by decide +kernel
theorem dX12_saw_173 : decode cX12_saw 173 = .ok (.goto 4, 3) := by decide +kernel
theorem dX12_saw_176 : decode cX12_saw 176 = .ok (.iconst 0, 1) := by decide +kernel
theorem dX12_saw_177 : decode cX12_saw 177 = .ok (.iconst 3, 1) := by decide +kernel
theorem dX12_saw_178 : decode cX12_saw 178 = .ok (.invokevirtual 67, 3) := by decide +kernel
theorem dX12_saw_181 : decode cX12_saw 181 = .ok (.ifCond .eq 5, 3) := by decide +kernel
theorem dX12_saw_184 : decode cX12_saw 184 = .ok (.iconst (-1), 1) := by decide +kernel
theorem dX12_saw_185 : decode cX12_saw 185 = .ok (.ireturn, 1) := by decide +kernel
theorem dX12_saw_186 : decode cX12_saw 186 = .ok (.iload_n 3, 1) := by decide +kernel
theorem dX12_saw_187 : decode cX12_saw 187 = .ok (.istore 8, 2) := by decide +kernel
theorem dX12_saw_189 : decode cX12_saw 189 = .ok (.iload 8, 2) := by decide +kernel
theorem dX12_saw_191 : decode cX12_saw 191 = .ok (.iload_n 3, 1) := by decide +kernel
theorem dX12_saw_192 : decode cX12_saw 192 = .ok (.iload 4, 2) := by decide +kernel
theorem dX12_saw_194 : decode cX12_saw 194 = .ok (.iadd, 1) := by decide +kernel
theorem dX12_saw_195 : decode cX12_saw 195 = .ok (.if_icmp .ge 18, 3) := by decide +kernel
theorem dX12_saw_198 : decode cX12_saw 198 = .ok (.aload 5, 2) := by decide +kernel
theorem dX12_saw_200 : decode cX12_saw 200 = .ok (.getfield 103, 3) := by decide +kernel
theorem dX12_saw_203 : decode cX12_saw 203 = .ok (.iload 8, 2) := by decide +kernel
theorem dX12_saw_205 : decode cX12_saw 205 = .ok (.iconst 1, 1) := by decide +kernel
theorem dX12_saw_206 : decode cX12_saw 206 = .ok (.bastore, 1) := by decide +kernel
theorem dX12_saw_207 : decode cX12_saw 207 = .ok (.iinc 8 1, 3) := by decide +kernel
theorem dX12_saw_210 : decode cX12_saw 210 = .ok (.goto (-21), 3) := by decide +kernel
theorem dX12_saw_213 : decode cX12_saw 213 = .ok (.aload_n 0, 1) := by decide +kernel
theorem dX12_saw_214 : decode cX12_saw 214 = .ok (.getfield 32, 3) := by decide +kernel
theorem dX12_saw_217 : decode cX12_saw 217 = .ok (.iload_n 1, 1) := by decide +kernel
theorem dX12_saw_218 : decode cX12_saw 218 = .ok (.invokeinterface 90 2, 5) := by decide +kernel
theorem dX12_saw_223 : decode cX12_saw 223 = .ok (.checkcast 304, 3) := by decide +kernel
theorem dX12_saw_226 : decode cX12_saw 226 = .ok (.new 157, 3) := by decide +kernel
theorem dX12_saw_229 : decode cX12_saw 229 = .ok (.dup, 1) := by decide +kernel
theorem dX12_saw_230 : decode cX12_saw 230 = .ok (.aload 5, 2) := by decide +kernel
theorem dX12_saw_232 : decode cX12_saw 232 = .ok (.iload_n 3, 1) := by decide +kernel
theorem dX12_saw_233 : decode cX12_saw 233 = .ok (.iload 4, 2) := by decide +kernel
theorem dX12_saw_235 : decode cX12_saw 235 = .ok (.invokespecial 183, 3) := by decide +kernel
theorem dX12_saw_238 : decode cX12_saw 238 = .ok (.putfield 314, 3) := by decide +kernel
theorem dX12_saw_241 : decode cX12_saw 241 = .ok (.aload_n 0, 1) := by decide +kernel
theorem dX12_saw_242 : decode cX12_saw 242 = .ok (.dup, 1) := by decide +kernel
theorem dX12_saw_243 : decode cX12_saw 243 = .ok (.getfield 336, 3) := by decide +kernel
theorem dX12_saw_246 : decode cX12_saw 246 = .ok (.bipush 64, 2) := by decide +kernel
theorem dX12_saw_248 : decode cX12_saw 248 = .ok (.iload 4, 2) := by decide +kernel
theorem dX12_saw_250 : decode cX12_saw 250 = .ok (.imul, 1) := by decide +kernel
theorem dX12_saw_251 : decode cX12_saw 251 = .ok (.iadd, 1) := by decide +kernel
theorem dX12_saw_252 : decode cX12_saw 252 = .ok (.putfield 336, 3) := by decide +kernel
theorem dX12_saw_255 : decode cX12_saw 255 = .ok (.aload_n 0, 1) := by decide +kernel
theorem dX12_saw_256 : decode cX12_saw 256 = .ok (.dup, 1) := by decide +kernel
theorem dX12_saw_257 : decode cX12_saw 257 = .ok (.getfield 168, 3) := by decide +kernel
theorem dX12_saw_260 : decode cX12_saw 260 = .ok (.iload 7, 2) := by decide +kernel
theorem dX12_saw_262 : decode cX12_saw 262 = .ok (.iadd, 1) := by decide +kernel
theorem dX12_saw_263 : decode cX12_saw 263 = .ok (.putfield 168, 3) := by decide +kernel
theorem dX12_saw_266 : decode cX12_saw 266 = .ok (.iload 7, 2) := by decide +kernel
theorem dX12_saw_268 : decode cX12_saw 268 = .ok (.ireturn, 1) := by decide +kernel
theorem dX12_leafOf_0 : decode cX12_leafOf 0 = .ok (.aload_n 0, 1) := by decide +kernel
theorem dX12_leafOf_1 : decode cX12_leafOf 1 = .ok (.getfield 314, 3) := by decide +kernel
theorem dX12_leafOf_4 : decode cX12_leafOf 4 = .ok (.getfield 156, 3) := by decide +kernel
theorem dX12_leafOf_7 : decode cX12_leafOf 7 = .ok (.aload_n 0, 1) := by decide +kernel
theorem dX12_leafOf_8 : decode cX12_leafOf 8 = .ok (.getfield 317, 3) := by decide +kernel
theorem dX12_leafOf_11 : decode cX12_leafOf 11 = .ok (.iload_n 2, 1) := by decide +kernel
theorem dX12_leafOf_12 : decode cX12_leafOf 12 = .ok (.iaload, 1) := by decide +kernel
theorem dX12_leafOf_13 : decode cX12_leafOf 13 = .ok (.iload_n 1, 1) := by decide +kernel
theorem dX12_leafOf_14 : decode cX12_leafOf 14 = .ok (.iadd, 1) := by decide +kernel
theorem dX12_leafOf_15 : decode cX12_leafOf 15 = .ok (.aload_n 0, 1) := by decide +kernel
theorem dX12_leafOf_16 : decode cX12_leafOf 16 = .ok (.getfield 314, 3) := by decide +kernel
theorem dX12_leafOf_19 : decode cX12_leafOf 19 = .ok (.getfield 161, 3) := by decide +kernel
theorem dX12_leafOf_22 : decode cX12_leafOf 22 = .ok (.irem, 1) := by decide +kernel
theorem dX12_leafOf_23 : decode cX12_leafOf 23 = .ok (.iadd, 1) := by decide +kernel
theorem dX12_leafOf_24 : decode cX12_leafOf 24 = .ok (.ireturn, 1) := by decide +kernel
theorem dX12_noCopy_0 : decode cX12_noCopy 0 = .ok (.aload_n 0, 1) := by decide +kernel
theorem dX12_noCopy_1 : decode cX12_noCopy 1 = .ok (.getfield 32, 3) := by decide +kernel
theorem dX12_noCopy_4 : decode cX12_noCopy 4 = .ok (.iload_n 1, 1) := by decide +kernel
theorem dX12_noCopy_5 : decode cX12_noCopy 5 = .ok (.invokeinterface 90 2, 5) := by decide +kernel
theorem dX12_noCopy_10 : decode cX12_noCopy 10 = .ok (.checkcast 304, 3) := by decide +kernel
theorem dX12_noCopy_13 : decode cX12_noCopy 13 = .ok (.getfield 314, 3) := by decide +kernel
theorem dX12_noCopy_16 : decode cX12_noCopy 16 = .ok (.astore_n 3, 1) := by decide +kernel
theorem dX12_noCopy_17 : decode cX12_noCopy 17 = .ok (.aload_n 0, 1) := by decide +kernel
theorem dX12_noCopy_18 : decode cX12_noCopy 18 = .ok (.aload_n 3, 1) := by decide +kernel
theorem dX12_noCopy_19 : decode cX12_noCopy 19 = .ok (.ifnull 19, 3) := by decide +kernel
theorem dX12_noCopy_22 : decode cX12_noCopy 22 = .ok (.iload_n 2, 1) := by decide +kernel
theorem dX12_noCopy_23 : decode cX12_noCopy 23 = .ok (.i2l, 1) := by decide +kernel
theorem dX12_noCopy_24 : decode cX12_noCopy 24 = .ok (.lconst 0, 1) := by decide +kernel
theorem dX12_noCopy_25 : decode cX12_noCopy 25 = .ok (.aload_n 3, 1) := by decide +kernel
theorem dX12_noCopy_26 : decode cX12_noCopy 26 = .ok (.getfield 161, 3) := by decide +kernel
theorem dX12_noCopy_29 : decode cX12_noCopy 29 = .ok (.iconst 1, 1) := by decide +kernel
theorem dX12_noCopy_30 : decode cX12_noCopy 30 = .ok (.isub, 1) := by decide +kernel
theorem dX12_noCopy_31 : decode cX12_noCopy 31 = .ok (.i2l, 1) := by decide +kernel
theorem dX12_noCopy_32 : decode cX12_noCopy 32 = .ok (.invokestatic 44, 3) := by decide +kernel
theorem dX12_noCopy_35 : decode cX12_noCopy 35 = .ok (.ifCond .ne 7, 3) := by decide +kernel
theorem dX12_noCopy_38 : decode cX12_noCopy 38 = .ok (.iconst 1, 1) := by decide +kernel
theorem dX12_noCopy_39 : decode cX12_noCopy 39 = .ok (.goto 4, 3) := by decide +kernel
theorem dX12_noCopy_42 : decode cX12_noCopy 42 = .ok (.iconst 0, 1) := by decide +kernel
theorem dX12_noCopy_43 : decode cX12_noCopy 43 = .ok (.iconst 2, 1) := by decide +kernel
theorem dX12_noCopy_44 : decode cX12_noCopy 44 = .ok (.invokevirtual 67, 3) := by decide +kernel
theorem dX12_noCopy_47 : decode cX12_noCopy 47 = .ok (.ireturn, 1) := by decide +kernel
theorem dX12_leafAt_0 : decode cX12_leafAt 0 = .ok (.aload_n 0, 1) := by decide +kernel
theorem dX12_leafAt_1 : decode cX12_leafAt 1 = .ok (.invokevirtual 48, 3) := by decide +kernel
theorem dX12_leafAt_4 : decode cX12_leafAt 4 = .ok (.aload_n 0, 1) := by decide +kernel
theorem dX12_leafAt_5 : decode cX12_leafAt 5 = .ok (.iload_n 1, 1) := by decide +kernel
theorem dX12_leafAt_6 : decode cX12_leafAt 6 = .ok (.iload_n 3, 1) := by decide +kernel
theorem dX12_leafAt_7 : decode cX12_leafAt 7 = .ok (.iload 4, 2) := by decide +kernel
theorem dX12_leafAt_9 : decode cX12_leafAt 9 = .ok (.invokevirtual 328, 3) := by decide +kernel
theorem dX12_leafAt_12 : decode cX12_leafAt 12 = .ok (.ifCond .ne 12, 3) := by decide +kernel
theorem dX12_leafAt_15 : decode cX12_leafAt 15 = .ok (.aload_n 0, 1) := by decide +kernel
theorem dX12_leafAt_16 : decode cX12_leafAt 16 = .ok (.iload_n 1, 1) := by decide +kernel
theorem dX12_leafAt_17 : decode cX12_leafAt 17 = .ok (.iload_n 2, 1) := by decide +kernel
theorem dX12_leafAt_18 : decode cX12_leafAt 18 = .ok (.invokevirtual 339, 3) := by decide +kernel
theorem dX12_leafAt_21 : decode cX12_leafAt 21 = .ok (.ifCond .eq 7, 3) := by decide +kernel
theorem dX12_leafAt_24 : decode cX12_leafAt 24 = .ok (.iconst (-1), 1) := by decide +kernel
theorem dX12_leafAt_25 : decode cX12_leafAt 25 = .ok (.goto 27, 3) := by decide +kernel
theorem dX12_leafAt_28 : decode cX12_leafAt 28 = .ok (.aload_n 0, 1) := by decide +kernel
theorem dX12_leafAt_29 : decode cX12_leafAt 29 = .ok (.getfield 32, 3) := by decide +kernel
theorem dX12_leafAt_32 : decode cX12_leafAt 32 = .ok (.iload_n 1, 1) := by decide +kernel
theorem dX12_leafAt_33 : decode cX12_leafAt 33 = .ok (.invokeinterface 90 2, 5) := by decide +kernel
theorem dX12_leafAt_38 : decode cX12_leafAt 38 = .ok (.checkcast 304, 3) := by decide +kernel
theorem dX12_leafAt_41 : decode cX12_leafAt 41 = .ok (.iload_n 2, 1) := by decide +kernel
theorem dX12_leafAt_42 : decode cX12_leafAt 42 = .ok (.bipush 8, 2) := by decide +kernel
theorem dX12_leafAt_44 : decode cX12_leafAt 44 = .ok (.iload_n 3, 1) := by decide +kernel
theorem dX12_leafAt_45 : decode cX12_leafAt 45 = .ok (.imul, 1) := by decide +kernel
theorem dX12_leafAt_46 : decode cX12_leafAt 46 = .ok (.iload 4, 2) := by decide +kernel
theorem dX12_leafAt_48 : decode cX12_leafAt 48 = .ok (.iadd, 1) := by decide +kernel
theorem dX12_leafAt_49 : decode cX12_leafAt 49 = .ok (.invokestatic 342, 3) := by decide +kernel
theorem dX12_leafAt_52 : decode cX12_leafAt 52 = .ok (.ireturn, 1) := by decide +kernel
theorem dX12_contrast_0 : decode cX12_contrast 0 = .ok (.aload_n 0, 1) := by decide +kernel
theorem dX12_contrast_1 : decode cX12_contrast 1 = .ok (.invokevirtual 48, 3) := by decide +kernel
theorem dX12_contrast_4 : decode cX12_contrast 4 = .ok (.aload_n 0, 1) := by decide +kernel
theorem dX12_contrast_5 : decode cX12_contrast 5 = .ok (.iload_n 1, 1) := by decide +kernel
theorem dX12_contrast_6 : decode cX12_contrast 6 = .ok (.invokevirtual 307, 3) := by decide +kernel
theorem dX12_contrast_9 : decode cX12_contrast 9 = .ok (.ifCond .ne 12, 3) := by decide +kernel
theorem dX12_contrast_12 : decode cX12_contrast 12 = .ok (.aload_n 0, 1) := by decide +kernel
theorem dX12_contrast_13 : decode cX12_contrast 13 = .ok (.iload_n 1, 1) := by decide +kernel
theorem dX12_contrast_14 : decode cX12_contrast 14 = .ok (.iload_n 2, 1) := by decide +kernel
theorem dX12_contrast_15 : decode cX12_contrast 15 = .ok (.invokevirtual 339, 3) := by decide +kernel
theorem dX12_contrast_18 : decode cX12_contrast 18 = .ok (.ifCond .eq 5, 3) := by decide +kernel
theorem dX12_contrast_21 : decode cX12_contrast 21 = .ok (.iconst (-1), 1) := by decide +kernel
theorem dX12_contrast_22 : decode cX12_contrast 22 = .ok (.ireturn, 1) := by decide +kernel
theorem dX12_contrast_23 : decode cX12_contrast 23 = .ok (.aload_n 0, 1) := by decide +kernel
theorem dX12_contrast_24 : decode cX12_contrast 24 = .ok (.getfield 32, 3) := by decide +kernel
theorem dX12_contrast_27 : decode cX12_contrast 27 = .ok (.iload_n 1, 1) := by decide +kernel
theorem dX12_contrast_28 : decode cX12_contrast 28 = .ok (.invokeinterface 90 2, 5) := by decide +kernel
theorem dX12_contrast_33 : decode cX12_contrast 33 = .ok (.checkcast 304, 3) := by decide +kernel
theorem dX12_contrast_36 : decode cX12_contrast 36 = .ok (.astore_n 3, 1) := by decide +kernel
theorem dX12_contrast_37 : decode cX12_contrast 37 = .ok (.iconst 0, 1) := by decide +kernel
theorem dX12_contrast_38 : decode cX12_contrast 38 = .ok (.istore 4, 2) := by decide +kernel
theorem dX12_contrast_40 : decode cX12_contrast 40 = .ok (.iconst 0, 1) := by decide +kernel
theorem dX12_contrast_41 : decode cX12_contrast 41 = .ok (.istore 5, 2) := by decide +kernel
theorem dX12_contrast_43 : decode cX12_contrast 43 = .ok (.iload 5, 2) := by decide +kernel
theorem dX12_contrast_45 : decode cX12_contrast 45 = .ok (.bipush 64, 2) := by decide +kernel
theorem dX12_contrast_47 : decode cX12_contrast 47 = .ok (.if_icmp .ge 99, 3) := by decide +kernel
theorem dX12_contrast_50 : decode cX12_contrast 50 = .ok (.iconst 1, 1) := by decide +kernel
theorem dX12_contrast_51 : decode cX12_contrast 51 = .ok (.istore 6, 2) := by decide +kernel
theorem dX12_contrast_53 : decode cX12_contrast 53 = .ok (.iload 6, 2) := by decide +kernel
theorem dX12_contrast_55 : decode cX12_contrast 55 = .ok (.iconst 4, 1) := by decide +kernel
theorem dX12_contrast_56 : decode cX12_contrast 56 = .ok (.if_icmp .ge 84, 3) := by decide +kernel
theorem dX12_contrast_59 : decode cX12_contrast 59 = .ok (.iload 5, 2) := by decide +kernel
theorem dX12_contrast_61 : decode cX12_contrast 61 = .ok (.iload 6, 2) := by decide +kernel
theorem dX12_contrast_63 : decode cX12_contrast 63 = .ok (.invokestatic 331, 3) := by decide +kernel
theorem dX12_contrast_66 : decode cX12_contrast 66 = .ok (.istore 7, 2) := by decide +kernel
theorem dX12_contrast_68 : decode cX12_contrast 68 = .ok (.iload 7, 2) := by decide +kernel
theorem dX12_contrast_70 : decode cX12_contrast 70 = .ok (.iconst (-1), 1) := by decide +kernel
theorem dX12_contrast_71 : decode cX12_contrast 71 = .ok (.if_icmp .eq 63, 3) := by decide +kernel
theorem dX12_contrast_74 : decode cX12_contrast 74 = .ok (.aload_n 3, 1) := by decide +kernel
theorem dX12_contrast_75 : decode cX12_contrast 75 = .ok (.getfield 317, 3) := by decide +kernel
theorem dX12_contrast_78 : decode cX12_contrast 78 = .ok (.iload 7, 2) := by decide +kernel
theorem dX12_contrast_80 : decode cX12_contrast 80 = .ok (.iaload, 1) := by decide +kernel
theorem dX12_contrast_81 : decode cX12_contrast 81 = .ok (.aload_n 3, 1) := by decide +kernel
theorem dX12_contrast_82 : decode cX12_contrast 82 = .ok (.getfield 317, 3) := by decide +kernel
theorem dX12_contrast_85 : decode cX12_contrast 85 = .ok (.iload 5, 2) := by decide +kernel
theorem dX12_contrast_87 : decode cX12_contrast 87 = .ok (.iaload, 1) := by decide +kernel
theorem dX12_contrast_88 : decode cX12_contrast 88 = .ok (.if_icmp .eq 46, 3) := by decide +kernel
theorem dX12_contrast_91 : decode cX12_contrast 91 = .ok (.iload 4, 2) := by decide +kernel
theorem dX12_contrast_93 : decode cX12_contrast 93 = .ok (.aload_n 3, 1) := by decide +kernel
theorem dX12_contrast_94 : decode cX12_contrast 94 = .ok (.getfield 314, 3) := by decide +kernel
theorem dX12_contrast_97 : decode cX12_contrast 97 = .ok (.getfield 164, 3) := by decide +kernel
theorem dX12_contrast_100 : decode cX12_contrast 100 = .ok (.aload_n 3, 1) := by decide +kernel
theorem dX12_contrast_101 : decode cX12_contrast 101 = .ok (.iload_n 2, 1) := by decide +kernel
theorem dX12_contrast_102 : decode cX12_contrast 102 = .ok (.iload 5, 2) := by decide +kernel
theorem dX12_contrast_104 : decode cX12_contrast 104 = .ok (.invokestatic 342, 3) := by decide +kernel
theorem dX12_contrast_107 : decode cX12_contrast 107 = .ok (.invokevirtual 120, 3) := by decide +kernel
theorem dX12_contrast_110 : decode cX12_contrast 110 = .ok (.aload_n 3, 1) := by decide +kernel
theorem dX12_contrast_111 : decode cX12_contrast 111 = .ok (.getfield 314, 3) := by decide +kernel
theorem dX12_contrast_114 : decode cX12_contrast 114 = .ok (.getfield 164, 3) := by decide +kernel
theorem dX12_contrast_117 : decode cX12_contrast 117 = .ok (.aload_n 3, 1) := by decide +kernel
theorem dX12_contrast_118 : decode cX12_contrast 118 = .ok (.iload_n 2, 1) := by decide +kernel
theorem dX12_contrast_119 : decode cX12_contrast 119 = .ok (.iload 7, 2) := by decide +kernel
theorem dX12_contrast_121 : decode cX12_contrast 121 = .ok (.invokestatic 342, 3) := by decide +kernel
theorem dX12_contrast_124 : decode cX12_contrast 124 = .ok (.invokevirtual 120, 3) := by decide +kernel
theorem dX12_contrast_127 : decode cX12_contrast 127 = .ok (.isub, 1) := by decide +kernel
theorem dX12_contrast_128 : decode cX12_contrast 128 = .ok (.invokestatic 346, 3) := by decide +kernel
theorem dX12_contrast_131 : decode cX12_contrast 131 = .ok (.iadd, 1) := by decide +kernel
theorem dX12_contrast_132 : decode cX12_contrast 132 = .ok (.istore 4, 2) := by decide +kernel
theorem dX12_contrast_134 : decode cX12_contrast 134 = .ok (.iinc 6 2, 3) := by decide +kernel
theorem dX12_contrast_137 : decode cX12_contrast 137 = .ok (.goto (-84), 3) := by decide +kernel
theorem dX12_contrast_140 : decode cX12_contrast 140 = .ok (.iinc 5 1, 3) := by decide +kernel
theorem dX12_contrast_143 : decode cX12_contrast 143 = .ok (.goto (-100), 3) := by decide +kernel
theorem dX12_contrast_146 : decode cX12_contrast 146 = .ok (.iload 4, 2) := by decide +kernel
theorem dX12_contrast_148 : decode cX12_contrast 148 = .ok (.ireturn, 1) := by decide +kernel
theorem dX12_sand_0 : decode cX12_sand 0 = .ok (.aload_n 0, 1) := by decide +kernel
theorem dX12_sand_1 : decode cX12_sand 1 = .ok (.invokevirtual 48, 3) := by decide +kernel
theorem dX12_sand_4 : decode cX12_sand 4 = .ok (.aload_n 0, 1) := by decide +kernel
theorem dX12_sand_5 : decode cX12_sand 5 = .ok (.iload_n 1, 1) := by decide +kernel
theorem dX12_sand_6 : decode cX12_sand 6 = .ok (.invokevirtual 307, 3) := by decide +kernel
theorem dX12_sand_9 : decode cX12_sand 9 = .ok (.ifCond .ne 89, 3) := by decide +kernel
theorem dX12_sand_12 : decode cX12_sand 12 = .ok (.aload_n 0, 1) := by decide +kernel
theorem dX12_sand_13 : decode cX12_sand 13 = .ok (.iload_n 2, 1) := by decide +kernel
theorem dX12_sand_14 : decode cX12_sand 14 = .ok (.i2l, 1) := by decide +kernel
theorem dX12_sand_15 : decode cX12_sand 15 = .ok (.ldc2_w 310, 3) := by decide +kernel
theorem dX12_sand_18 : decode cX12_sand 18 = .ok (.ldc2_w 312, 3) := by decide +kernel
theorem dX12_sand_21 : decode cX12_sand 21 = .ok (.invokestatic 44, 3) := by decide +kernel
theorem dX12_sand_24 : decode cX12_sand 24 = .ok (.ifCond .eq 30, 3) := by decide +kernel
theorem dX12_sand_27 : decode cX12_sand 27 = .ok (.iload_n 3, 1) := by decide +kernel
theorem dX12_sand_28 : decode cX12_sand 28 = .ok (.i2l, 1) := by decide +kernel
theorem dX12_sand_29 : decode cX12_sand 29 = .ok (.ldc2_w 59, 3) := by decide +kernel
theorem dX12_sand_32 : decode cX12_sand 32 = .ok (.ldc2_w 349, 3) := by decide +kernel
theorem dX12_sand_35 : decode cX12_sand 35 = .ok (.invokestatic 44, 3) := by decide +kernel
theorem dX12_sand_38 : decode cX12_sand 38 = .ok (.ifCond .eq 16, 3) := by decide +kernel
theorem dX12_sand_41 : decode cX12_sand 41 = .ok (.iload 4, 2) := by decide +kernel
theorem dX12_sand_43 : decode cX12_sand 43 = .ok (.i2l, 1) := by decide +kernel
theorem dX12_sand_44 : decode cX12_sand 44 = .ok (.lconst 1, 1) := by decide +kernel
theorem dX12_sand_45 : decode cX12_sand 45 = .ok (.ldc2_w 216, 3) := by decide +kernel
theorem dX12_sand_48 : decode cX12_sand 48 = .ok (.invokestatic 44, 3) := by decide +kernel
theorem dX12_sand_51 : decode cX12_sand 51 = .ok (.ifCond .ne 7, 3) := by decide +kernel
theorem dX12_sand_54 : decode cX12_sand 54 = .ok (.iconst 1, 1) := by decide +kernel
theorem dX12_sand_55 : decode cX12_sand 55 = .ok (.goto 4, 3) := by decide +kernel
theorem dX12_sand_58 : decode cX12_sand 58 = .ok (.iconst 0, 1) := by decide +kernel
theorem dX12_sand_59 : decode cX12_sand 59 = .ok (.iconst 2, 1) := by decide +kernel
theorem dX12_sand_60 : decode cX12_sand 60 = .ok (.invokevirtual 67, 3) := by decide +kernel
theorem dX12_sand_63 : decode cX12_sand 63 = .ok (.ifCond .ne 35, 3) := by decide +kernel
theorem dX12_sand_66 : decode cX12_sand 66 = .ok (.aload_n 0, 1) := by decide +kernel
theorem dX12_sand_67 : decode cX12_sand 67 = .ok (.aload_n 0, 1) := by decide +kernel
theorem dX12_sand_68 : decode cX12_sand 68 = .ok (.getfield 32, 3) := by decide +kernel
theorem dX12_sand_71 : decode cX12_sand 71 = .ok (.iload_n 1, 1) := by decide +kernel
theorem dX12_sand_72 : decode cX12_sand 72 = .ok (.invokeinterface 90 2, 5) := by decide +kernel
theorem dX12_sand_77 : decode cX12_sand 77 = .ok (.checkcast 304, 3) := by decide +kernel
theorem dX12_sand_80 : decode cX12_sand 80 = .ok (.getfield 314, 3) := by decide +kernel
theorem dX12_sand_83 : decode cX12_sand 83 = .ok (.ifnonnull 7, 3) := by decide +kernel
theorem dX12_sand_86 : decode cX12_sand 86 = .ok (.iconst 1, 1) := by decide +kernel
theorem dX12_sand_87 : decode cX12_sand 87 = .ok (.goto 4, 3) := by decide +kernel
theorem dX12_sand_90 : decode cX12_sand 90 = .ok (.iconst 0, 1) := by decide +kernel
theorem dX12_sand_91 : decode cX12_sand 91 = .ok (.iconst 3, 1) := by decide +kernel
theorem dX12_sand_92 : decode cX12_sand 92 = .ok (.invokevirtual 67, 3) := by decide +kernel
theorem dX12_sand_95 : decode cX12_sand 95 = .ok (.ifCond .eq 5, 3) := by decide +kernel
theorem dX12_sand_98 : decode cX12_sand 98 = .ok (.iconst (-1), 1) := by decide +kernel
theorem dX12_sand_99 : decode cX12_sand 99 = .ok (.ireturn, 1) := by decide +kernel
theorem dX12_sand_100 : decode cX12_sand 100 = .ok (.aload_n 0, 1) := by decide +kernel
theorem dX12_sand_101 : decode cX12_sand 101 = .ok (.getfield 32, 3) := by decide +kernel
theorem dX12_sand_104 : decode cX12_sand 104 = .ok (.iload_n 1, 1) := by decide +kernel
theorem dX12_sand_105 : decode cX12_sand 105 = .ok (.invokeinterface 90 2, 5) := by decide +kernel
theorem dX12_sand_110 : decode cX12_sand 110 = .ok (.checkcast 304, 3) := by decide +kernel
theorem dX12_sand_113 : decode cX12_sand 113 = .ok (.getfield 351, 3) := by decide +kernel
theorem dX12_sand_116 : decode cX12_sand 116 = .ok (.astore 5, 2) := by decide +kernel
theorem dX12_sand_118 : decode cX12_sand 118 = .ok (.aload 5, 2) := by decide +kernel
theorem dX12_sand_120 : decode cX12_sand 120 = .ok (.iload_n 2, 1) := by decide +kernel
theorem dX12_sand_121 : decode cX12_sand 121 = .ok (.bipush 97, 2) := by decide +kernel
theorem dX12_sand_123 : decode cX12_sand 123 = .ok (.isub, 1) := by decide +kernel
theorem dX12_sand_124 : decode cX12_sand 124 = .ok (.bipush 99, 2) := by decide +kernel
theorem dX12_sand_126 : decode cX12_sand 126 = .ok (.aload 5, 2) := by decide +kernel
theorem dX12_sand_128 : decode cX12_sand 128 = .ok (.iload_n 2, 1) := by decide +kernel
theorem dX12_sand_129 : decode cX12_sand 129 = .ok (.bipush 97, 2) := by decide +kernel
theorem dX12_sand_131 : decode cX12_sand 131 = .ok (.isub, 1) := by decide +kernel
theorem dX12_sand_132 : decode cX12_sand 132 = .ok (.iaload, 1) := by decide +kernel
theorem dX12_sand_133 : decode cX12_sand 133 = .ok (.iload_n 3, 1) := by decide +kernel
theorem dX12_sand_134 : decode cX12_sand 134 = .ok (.bipush 100, 2) := by decide +kernel
theorem dX12_sand_136 : decode cX12_sand 136 = .ok (.isub, 1) := by decide +kernel
theorem dX12_sand_137 : decode cX12_sand 137 = .ok (.iload 4, 2) := by decide +kernel
theorem dX12_sand_139 : decode cX12_sand 139 = .ok (.imul, 1) := by decide +kernel
theorem dX12_sand_140 : decode cX12_sand 140 = .ok (.bipush 50, 2) := by decide +kernel
theorem dX12_sand_142 : decode cX12_sand 142 = .ok (.idiv, 1) := by decide +kernel
theorem dX12_sand_143 : decode cX12_sand 143 = .ok (.iadd, 1) := by decide +kernel
theorem dX12_sand_144 : decode cX12_sand 144 = .ok (.invokestatic 262, 3) := by decide +kernel
theorem dX12_sand_147 : decode cX12_sand 147 = .ok (.iastore, 1) := by decide +kernel
theorem dX12_sand_148 : decode cX12_sand 148 = .ok (.aload 5, 2) := by decide +kernel
theorem dX12_sand_150 : decode cX12_sand 150 = .ok (.iload_n 2, 1) := by decide +kernel
theorem dX12_sand_151 : decode cX12_sand 151 = .ok (.bipush 97, 2) := by decide +kernel
theorem dX12_sand_153 : decode cX12_sand 153 = .ok (.isub, 1) := by decide +kernel
theorem dX12_sand_154 : decode cX12_sand 154 = .ok (.iaload, 1) := by decide +kernel
theorem dX12_sand_155 : decode cX12_sand 155 = .ok (.ireturn, 1) := by decide +kernel
theorem dX12_burnt_0 : decode cX12_burnt 0 = .ok (.aload_n 0, 1) := by decide +kernel
theorem dX12_burnt_1 : decode cX12_burnt 1 = .ok (.invokevirtual 48, 3) := by decide +kernel
theorem dX12_burnt_4 : decode cX12_burnt 4 = .ok (.aload_n 0, 1) := by decide +kernel
theorem dX12_burnt_5 : decode cX12_burnt 5 = .ok (.iload_n 1, 1) := by decide +kernel
theorem dX12_burnt_6 : decode cX12_burnt 6 = .ok (.invokevirtual 307, 3) := by decide +kernel
theorem dX12_burnt_9 : decode cX12_burnt 9 = .ok (.ifCond .eq 5, 3) := by decide +kernel
theorem dX12_burnt_12 : decode cX12_burnt 12 = .ok (.iconst (-1), 1) := by decide +kernel
theorem dX12_burnt_13 : decode cX12_burnt 13 = .ok (.ireturn, 1) := by decide +kernel
theorem dX12_burnt_14 : decode cX12_burnt 14 = .ok (.iconst 0, 1) := by decide +kernel
theorem dX12_burnt_15 : decode cX12_burnt 15 = .ok (.istore_n 2, 1) := by decide +kernel
theorem dX12_burnt_16 : decode cX12_burnt 16 = .ok (.aload_n 0, 1) := by decide +kernel
theorem dX12_burnt_17 : decode cX12_burnt 17 = .ok (.getfield 32, 3) := by decide +kernel
theorem dX12_burnt_20 : decode cX12_burnt 20 = .ok (.iload_n 1, 1) := by decide +kernel
theorem dX12_burnt_21 : decode cX12_burnt 21 = .ok (.invokeinterface 90 2, 5) := by decide +kernel
theorem dX12_burnt_26 : decode cX12_burnt 26 = .ok (.checkcast 304, 3) := by decide +kernel
theorem dX12_burnt_29 : decode cX12_burnt 29 = .ok (.getfield 351, 3) := by decide +kernel
theorem dX12_burnt_32 : decode cX12_burnt 32 = .ok (.astore_n 3, 1) := by decide +kernel
theorem dX12_burnt_33 : decode cX12_burnt 33 = .ok (.aload_n 3, 1) := by decide +kernel
theorem dX12_burnt_34 : decode cX12_burnt 34 = .ok (.arraylength, 1) := by decide +kernel
theorem dX12_burnt_35 : decode cX12_burnt 35 = .ok (.istore 4, 2) := by decide +kernel
theorem dX12_burnt_37 : decode cX12_burnt 37 = .ok (.iconst 0, 1) := by decide +kernel
theorem dX12_burnt_38 : decode cX12_burnt 38 = .ok (.istore 5, 2) := by decide +kernel
theorem dX12_burnt_40 : decode cX12_burnt 40 = .ok (.iload 5, 2) := by decide +kernel
theorem dX12_burnt_42 : decode cX12_burnt 42 = .ok (.iload 4, 2) := by decide +kernel
theorem dX12_burnt_44 : decode cX12_burnt 44 = .ok (.if_icmp .ge 30, 3) := by decide +kernel
theorem dX12_burnt_47 : decode cX12_burnt 47 = .ok (.aload_n 3, 1) := by decide +kernel
theorem dX12_burnt_48 : decode cX12_burnt 48 = .ok (.iload 5, 2) := by decide +kernel
theorem dX12_burnt_50 : decode cX12_burnt 50 = .ok (.iaload, 1) := by decide +kernel
theorem dX12_burnt_51 : decode cX12_burnt 51 = .ok (.istore 6, 2) := by decide +kernel
theorem dX12_burnt_53 : decode cX12_burnt 53 = .ok (.iload_n 2, 1) := by decide +kernel
theorem dX12_burnt_54 : decode cX12_burnt 54 = .ok (.iload 6, 2) := by decide +kernel
theorem dX12_burnt_56 : decode cX12_burnt 56 = .ok (.bipush 90, 2) := by decide +kernel
theorem dX12_burnt_58 : decode cX12_burnt 58 = .ok (.if_icmp .le 7, 3) := by decide +kernel
theorem dX12_burnt_61 : decode cX12_burnt 61 = .ok (.iconst 1, 1) := by decide +kernel
theorem dX12_burnt_62 : decode cX12_burnt 62 = .ok (.goto 4, 3) := by decide +kernel
theorem dX12_burnt_65 : decode cX12_burnt 65 = .ok (.iconst 0, 1) := by decide +kernel
theorem dX12_burnt_66 : decode cX12_burnt 66 = .ok (.iadd, 1) := by decide +kernel
theorem dX12_burnt_67 : decode cX12_burnt 67 = .ok (.istore_n 2, 1) := by decide +kernel
theorem dX12_burnt_68 : decode cX12_burnt 68 = .ok (.iinc 5 1, 3) := by decide +kernel
theorem dX12_burnt_71 : decode cX12_burnt 71 = .ok (.goto (-31), 3) := by decide +kernel
theorem dX12_burnt_74 : decode cX12_burnt 74 = .ok (.iload_n 2, 1) := by decide +kernel
theorem dX12_burnt_75 : decode cX12_burnt 75 = .ok (.ireturn, 1) := by decide +kernel
theorem dX12_gap_0 : decode cX12_gap 0 = .ok (.aload_n 0, 1) := by decide +kernel
theorem dX12_gap_1 : decode cX12_gap 1 = .ok (.invokevirtual 48, 3) := by decide +kernel
theorem dX12_gap_4 : decode cX12_gap 4 = .ok (.aload_n 0, 1) := by decide +kernel
theorem dX12_gap_5 : decode cX12_gap 5 = .ok (.iload_n 1, 1) := by decide +kernel
theorem dX12_gap_6 : decode cX12_gap 6 = .ok (.i2l, 1) := by decide +kernel
theorem dX12_gap_7 : decode cX12_gap 7 = .ok (.lconst 1, 1) := by decide +kernel
theorem dX12_gap_8 : decode cX12_gap 8 = .ok (.ldc2_w 218, 3) := by decide +kernel
theorem dX12_gap_11 : decode cX12_gap 11 = .ok (.invokestatic 44, 3) := by decide +kernel
theorem dX12_gap_14 : decode cX12_gap 14 = .ok (.ifCond .eq 29, 3) := by decide +kernel
theorem dX12_gap_17 : decode cX12_gap 17 = .ok (.iload_n 2, 1) := by decide +kernel
theorem dX12_gap_18 : decode cX12_gap 18 = .ok (.i2l, 1) := by decide +kernel
theorem dX12_gap_19 : decode cX12_gap 19 = .ok (.ldc2_w 86, 3) := by decide +kernel
theorem dX12_gap_22 : decode cX12_gap 22 = .ok (.ldc2_w 88, 3) := by decide +kernel
theorem dX12_gap_25 : decode cX12_gap 25 = .ok (.invokestatic 44, 3) := by decide +kernel
theorem dX12_gap_28 : decode cX12_gap 28 = .ok (.ifCond .eq 15, 3) := by decide +kernel
theorem dX12_gap_31 : decode cX12_gap 31 = .ok (.iload_n 3, 1) := by decide +kernel
theorem dX12_gap_32 : decode cX12_gap 32 = .ok (.i2l, 1) := by decide +kernel
theorem dX12_gap_33 : decode cX12_gap 33 = .ok (.lconst 0, 1) := by decide +kernel
theorem dX12_gap_34 : decode cX12_gap 34 = .ok (.ldc2_w 354, 3) := by decide +kernel
theorem dX12_gap_37 : decode cX12_gap 37 = .ok (.invokestatic 44, 3) := by decide +kernel
theorem dX12_gap_40 : decode cX12_gap 40 = .ok (.ifCond .ne 7, 3) := by decide +kernel
theorem dX12_gap_43 : decode cX12_gap 43 = .ok (.iconst 1, 1) := by decide +kernel
theorem dX12_gap_44 : decode cX12_gap 44 = .ok (.goto 4, 3) := by decide +kernel
theorem dX12_gap_47 : decode cX12_gap 47 = .ok (.iconst 0, 1) := by decide +kernel
theorem dX12_gap_48 : decode cX12_gap 48 = .ok (.iconst 1, 1) := by decide +kernel
theorem dX12_gap_49 : decode cX12_gap 49 = .ok (.invokevirtual 67, 3) := by decide +kernel
theorem dX12_gap_52 : decode cX12_gap 52 = .ok (.ifCond .eq 5, 3) := by decide +kernel
theorem dX12_gap_55 : decode cX12_gap 55 = .ok (.iconst (-1), 1) := by decide +kernel
theorem dX12_gap_56 : decode cX12_gap 56 = .ok (.ireturn, 1) := by decide +kernel
theorem dX12_gap_57 : decode cX12_gap 57 = .ok (.iconst 0, 1) := by decide +kernel
theorem dX12_gap_58 : decode cX12_gap 58 = .ok (.iload_n 1, 1) := by decide +kernel
theorem dX12_gap_59 : decode cX12_gap 59 = .ok (.bipush 10, 2) := by decide +kernel
theorem dX12_gap_61 : decode cX12_gap 61 = .ok (.iload_n 2, 1) := by decide +kernel
theorem dX12_gap_62 : decode cX12_gap 62 = .ok (.imul, 1) := by decide +kernel
theorem dX12_gap_63 : decode cX12_gap 63 = .ok (.getstatic 356, 3) := by decide +kernel
theorem dX12_gap_66 : decode cX12_gap 66 = .ok (.iload_n 3, 1) := by decide +kernel
theorem dX12_gap_67 : decode cX12_gap 67 = .ok (.iaload, 1) := by decide +kernel
theorem dX12_gap_68 : decode cX12_gap 68 = .ok (.imul, 1) := by decide +kernel
theorem dX12_gap_69 : decode cX12_gap 69 = .ok (.sipush 1000, 3) := by decide +kernel
theorem dX12_gap_72 : decode cX12_gap 72 = .ok (.idiv, 1) := by decide +kernel
theorem dX12_gap_73 : decode cX12_gap 73 = .ok (.isub, 1) := by decide +kernel
theorem dX12_gap_74 : decode cX12_gap 74 = .ok (.invokestatic 268, 3) := by decide +kernel
theorem dX12_gap_77 : decode cX12_gap 77 = .ok (.ireturn, 1) := by decide +kernel
theorem dX12_offcuts_0 : decode cX12_offcuts 0 = .ok (.aload_n 0, 1) := by decide +kernel
theorem dX12_offcuts_1 : decode cX12_offcuts 1 = .ok (.invokevirtual 48, 3) := by decide +kernel
theorem dX12_offcuts_4 : decode cX12_offcuts 4 = .ok (.iconst 0, 1) := by decide +kernel
theorem dX12_offcuts_5 : decode cX12_offcuts 5 = .ok (.istore_n 2, 1) := by decide +kernel
theorem dX12_offcuts_6 : decode cX12_offcuts 6 = .ok (.aload_n 0, 1) := by decide +kernel
theorem dX12_offcuts_7 : decode cX12_offcuts 7 = .ok (.getfield 25, 3) := by decide +kernel
theorem dX12_offcuts_10 : decode cX12_offcuts 10 = .ok (.invokeinterface 288 1, 5) := by decide +kernel
theorem dX12_offcuts_15 : decode cX12_offcuts 15 = .ok (.astore_n 3, 1) := by decide +kernel
theorem dX12_offcuts_16 : decode cX12_offcuts 16 = .ok (.aload_n 3, 1) := by decide +kernel
theorem dX12_offcuts_17 : decode cX12_offcuts 17 = .ok (.invokeinterface 292 1, 5) := by decide +kernel
theorem dX12_offcuts_22 : decode cX12_offcuts 22 = .ok (.ifCond .eq 33, 3) := by decide +kernel
theorem dX12_offcuts_25 : decode cX12_offcuts 25 = .ok (.aload_n 3, 1) := by decide +kernel
theorem dX12_offcuts_26 : decode cX12_offcuts 26 = .ok (.invokeinterface 298 1, 5) := by decide +kernel
theorem dX12_offcuts_31 : decode cX12_offcuts 31 = .ok (.checkcast 359, 3) := by decide +kernel
theorem dX12_offcuts_34 : decode cX12_offcuts 34 = .ok (.astore 4, 2) := by decide +kernel
theorem dX12_offcuts_36 : decode cX12_offcuts 36 = .ok (.iload_n 2, 1) := by decide +kernel
theorem dX12_offcuts_37 : decode cX12_offcuts 37 = .ok (.aload 4, 2) := by decide +kernel
theorem dX12_offcuts_39 : decode cX12_offcuts 39 = .ok (.iconst 0, 1) := by decide +kernel
theorem dX12_offcuts_40 : decode cX12_offcuts 40 = .ok (.iaload, 1) := by decide +kernel
theorem dX12_offcuts_41 : decode cX12_offcuts 41 = .ok (.iload_n 1, 1) := by decide +kernel
theorem dX12_offcuts_42 : decode cX12_offcuts 42 = .ok (.if_icmp .ne 7, 3) := by decide +kernel
theorem dX12_offcuts_45 : decode cX12_offcuts 45 = .ok (.iconst 1, 1) := by decide +kernel
theorem dX12_offcuts_46 : decode cX12_offcuts 46 = .ok (.goto 4, 3) := by decide +kernel
theorem dX12_offcuts_49 : decode cX12_offcuts 49 = .ok (.iconst 0, 1) := by decide +kernel
theorem dX12_offcuts_50 : decode cX12_offcuts 50 = .ok (.iadd, 1) := by decide +kernel
theorem dX12_offcuts_51 : decode cX12_offcuts 51 = .ok (.istore_n 2, 1) := by decide +kernel
theorem dX12_offcuts_52 : decode cX12_offcuts 52 = .ok (.goto (-36), 3) := by decide +kernel
theorem dX12_offcuts_55 : decode cX12_offcuts 55 = .ok (.iload_n 2, 1) := by decide +kernel
theorem dX12_offcuts_56 : decode cX12_offcuts 56 = .ok (.ireturn, 1) := by decide +kernel
theorem dX12_takeOffcut_0 : decode cX12_takeOffcut 0 = .ok (.aload_n 0, 1) := by decide +kernel
theorem dX12_takeOffcut_1 : decode cX12_takeOffcut 1 = .ok (.invokevirtual 48, 3) := by decide +kernel
theorem dX12_takeOffcut_4 : decode cX12_takeOffcut 4 = .ok (.aload_n 0, 1) := by decide +kernel
theorem dX12_takeOffcut_5 : decode cX12_takeOffcut 5 = .ok (.iload_n 1, 1) := by decide +kernel
theorem dX12_takeOffcut_6 : decode cX12_takeOffcut 6 = .ok (.i2l, 1) := by decide +kernel
theorem dX12_takeOffcut_7 : decode cX12_takeOffcut 7 = .ok (.ldc2_w 360, 3) := by decide +kernel
theorem dX12_takeOffcut_10 : decode cX12_takeOffcut 10 = .ok (.ldc2_w 362, 3) := by decide +kernel
theorem dX12_takeOffcut_13 : decode cX12_takeOffcut 13 = .ok (.invokestatic 44, 3) := by decide +kernel
theorem dX12_takeOffcut_16 : decode cX12_takeOffcut 16 = .ok (.ifCond .eq 15, 3) := by decide +kernel
theorem dX12_takeOffcut_19 : decode cX12_takeOffcut 19 = .ok (.iload_n 2, 1) := by decide +kernel
theorem dX12_takeOffcut_20 : decode cX12_takeOffcut 20 = .ok (.i2l, 1) := by decide +kernel
theorem dX12_takeOffcut_21 : decode cX12_takeOffcut 21 = .ok (.lconst 1, 1) := by decide +kernel
theorem dX12_takeOffcut_22 : decode cX12_takeOffcut 22 = .ok (.ldc2_w 125, 3) := by decide +kernel
theorem dX12_takeOffcut_25 : decode cX12_takeOffcut 25 = .ok (.invokestatic 44, 3) := by decide +kernel
theorem dX12_takeOffcut_28 : decode cX12_takeOffcut 28 = .ok (.ifCond .ne 7, 3) := by decide +kernel
theorem dX12_takeOffcut_31 : decode cX12_takeOffcut 31 = .ok (.iconst 1, 1) := by decide +kernel
theorem dX12_takeOffcut_32 : decode cX12_takeOffcut 32 = .ok (.goto 4, 3) := by decide +kernel
theorem dX12_takeOffcut_35 : decode cX12_takeOffcut 35 = .ok (.iconst 0, 1) := by decide +kernel
theorem dX12_takeOffcut_36 : decode cX12_takeOffcut 36 = .ok (.iconst 1, 1) := by decide +kernel
theorem dX12_takeOffcut_37 : decode cX12_takeOffcut 37 = .ok (.invokevirtual 67, 3) := by decide +kernel
theorem dX12_takeOffcut_40 : decode cX12_takeOffcut 40 = .ok (.ifCond .eq 5, 3) := by decide +kernel
theorem dX12_takeOffcut_43 : decode cX12_takeOffcut 43 = .ok (.iconst (-1), 1) := by decide +kernel
theorem dX12_takeOffcut_44 : decode cX12_takeOffcut 44 = .ok (.ireturn, 1) := by decide +kernel
theorem dX12_takeOffcut_45 : decode cX12_takeOffcut 45 = .ok (.iconst (-1), 1) := by decide +kernel
theorem dX12_takeOffcut_46 : decode cX12_takeOffcut 46 = .ok (.istore_n 3, 1) := by decide +kernel
theorem dX12_takeOffcut_47 : decode cX12_takeOffcut 47 = .ok (.iconst 0, 1) := by decide +kernel
theorem dX12_takeOffcut_48 : decode cX12_takeOffcut 48 = .ok (.istore 4, 2) := by decide +kernel
theorem dX12_takeOffcut_50 : decode cX12_takeOffcut 50 = .ok (.iload 4, 2) := by decide +kernel
theorem dX12_takeOffcut_52 : decode cX12_takeOffcut 52 = .ok (.aload_n 0, 1) := by decide +kernel
theorem dX12_takeOffcut_53 : decode cX12_takeOffcut 53 = .ok (.getfield 25, 3) := by decide +kernel
theorem dX12_takeOffcut_56 : decode cX12_takeOffcut 56 = .ok (.invokeinterface 38 1, 5) := by decide +kernel
theorem dX12_takeOffcut_61 : decode cX12_takeOffcut 61 = .ok (.if_icmp .ge 143, 3) := by decide +kernel
theorem dX12_takeOffcut_64 : decode cX12_takeOffcut 64 = .ok (.aload_n 0, 1) := by decide +kernel
theorem dX12_takeOffcut_65 : decode cX12_takeOffcut 65 = .ok (.getfield 25, 3) := by decide +kernel
theorem dX12_takeOffcut_68 : decode cX12_takeOffcut 68 = .ok (.iload 4, 2) := by decide +kernel
theorem dX12_takeOffcut_70 : decode cX12_takeOffcut 70 = .ok (.invokeinterface 90 2, 5) := by decide +kernel
theorem dX12_takeOffcut_75 : decode cX12_takeOffcut 75 = .ok (.checkcast 359, 3) := by decide +kernel
theorem dX12_takeOffcut_78 : decode cX12_takeOffcut 78 = .ok (.astore 5, 2) := by decide +kernel
theorem dX12_takeOffcut_80 : decode cX12_takeOffcut 80 = .ok (.aload 5, 2) := by decide +kernel
theorem dX12_takeOffcut_82 : decode cX12_takeOffcut 82 = .ok (.iconst 0, 1) := by decide +kernel
theorem dX12_takeOffcut_83 : decode cX12_takeOffcut 83 = .ok (.iaload, 1) := by decide +kernel
theorem dX12_takeOffcut_84 : decode cX12_takeOffcut 84 = .ok (.iload_n 1, 1) := by decide +kernel
theorem dX12_takeOffcut_85 : decode cX12_takeOffcut 85 = .ok (.if_icmp .lt 15, 3) := by decide +kernel
theorem dX12_takeOffcut_88 : decode cX12_takeOffcut 88 = .ok (.aload 5, 2) := by decide +kernel
theorem dX12_takeOffcut_90 : decode cX12_takeOffcut 90 = .ok (.iconst 1, 1) := by decide +kernel
theorem dX12_takeOffcut_91 : decode cX12_takeOffcut 91 = .ok (.iaload, 1) := by decide +kernel
theorem dX12_takeOffcut_92 : decode cX12_takeOffcut 92 = .ok (.iload_n 2, 1) := by decide +kernel
theorem dX12_takeOffcut_93 : decode cX12_takeOffcut 93 = .ok (.if_icmp .lt 7, 3) := by decide +kernel
theorem dX12_takeOffcut_96 : decode cX12_takeOffcut 96 = .ok (.iconst 1, 1) := by decide +kernel
theorem dX12_takeOffcut_97 : decode cX12_takeOffcut 97 = .ok (.goto 4, 3) := by decide +kernel
theorem dX12_takeOffcut_100 : decode cX12_takeOffcut 100 = .ok (.iconst 0, 1) := by decide +kernel
theorem dX12_takeOffcut_101 : decode cX12_takeOffcut 101 = .ok (.istore 6, 2) := by decide +kernel
theorem dX12_takeOffcut_103 : decode cX12_takeOffcut 103 = .ok (.iload_n 3, 1) := by decide +kernel
theorem dX12_takeOffcut_104 : decode cX12_takeOffcut 104 = .ok (.iconst (-1), 1) := by decide +kernel
theorem dX12_takeOffcut_105 : decode cX12_takeOffcut 105 = .ok (.if_icmp .eq 69, 3) := by decide +kernel
theorem dX12_takeOffcut_108 : decode cX12_takeOffcut 108 = .ok (.aload 5, 2) := by decide +kernel
theorem dX12_takeOffcut_110 : decode cX12_takeOffcut 110 = .ok (.iconst 0, 1) := by decide +kernel
theorem dX12_takeOffcut_111 : decode cX12_takeOffcut 111 = .ok (.iaload, 1) := by decide +kernel
theorem dX12_takeOffcut_112 : decode cX12_takeOffcut 112 = .ok (.aload_n 0, 1) := by decide +kernel
theorem dX12_takeOffcut_113 : decode cX12_takeOffcut 113 = .ok (.getfield 25, 3) := by decide +kernel
theorem dX12_takeOffcut_116 : decode cX12_takeOffcut 116 = .ok (.iload_n 3, 1) := by decide +kernel
theorem dX12_takeOffcut_117 : decode cX12_takeOffcut 117 = .ok (.invokeinterface 90 2, 5) := by decide +kernel
theorem dX12_takeOffcut_122 : decode cX12_takeOffcut 122 = .ok (.checkcast 359, 3) := by decide +kernel
theorem dX12_takeOffcut_125 : decode cX12_takeOffcut 125 = .ok (.iconst 0, 1) := by decide +kernel
theorem dX12_takeOffcut_126 : decode cX12_takeOffcut 126 = .ok (.iaload, 1) := by decide +kernel
theorem dX12_takeOffcut_127 : decode cX12_takeOffcut 127 = .ok (.if_icmp .lt 47, 3) := by decide +kernel
theorem dX12_takeOffcut_130 : decode cX12_takeOffcut 130 = .ok (.aload 5, 2) := by decide +kernel
theorem dX12_takeOffcut_132 : decode cX12_takeOffcut 132 = .ok (.iconst 0, 1) := by decide +kernel
theorem dX12_takeOffcut_133 : decode cX12_takeOffcut 133 = .ok (.iaload, 1) := by decide +kernel
theorem dX12_takeOffcut_134 : decode cX12_takeOffcut 134 = .ok (.aload_n 0, 1) := by decide +kernel
theorem dX12_takeOffcut_135 : decode cX12_takeOffcut 135 = .ok (.getfield 25, 3) := by decide +kernel
theorem dX12_takeOffcut_138 : decode cX12_takeOffcut 138 = .ok (.iload_n 3, 1) := by decide +kernel
theorem dX12_takeOffcut_139 : decode cX12_takeOffcut 139 = .ok (.invokeinterface 90 2, 5) := by decide +kernel
theorem dX12_takeOffcut_144 : decode cX12_takeOffcut 144 = .ok (.checkcast 359, 3) := by decide +kernel
theorem dX12_takeOffcut_147 : decode cX12_takeOffcut 147 = .ok (.iconst 0, 1) := by decide +kernel
theorem dX12_takeOffcut_148 : decode cX12_takeOffcut 148 = .ok (.iaload, 1) := by decide +kernel
theorem dX12_takeOffcut_149 : decode cX12_takeOffcut 149 = .ok (.if_icmp .ne 29, 3) := by decide +kernel
theorem dX12_takeOffcut_152 : decode cX12_takeOffcut 152 = .ok (.aload 5, 2) := by decide +kernel
theorem dX12_takeOffcut_154 : decode cX12_takeOffcut 154 = .ok (.iconst 1, 1) := by decide +kernel
theorem dX12_takeOffcut_155 : decode cX12_takeOffcut 155 = .ok (.iaload, 1) := by decide +kernel
theorem dX12_takeOffcut_156 : decode cX12_takeOffcut 156 = .ok (.aload_n 0, 1) := by decide +kernel
theorem dX12_takeOffcut_157 : decode cX12_takeOffcut 157 = .ok (.getfield 25, 3) := by decide +kernel
theorem dX12_takeOffcut_160 : decode cX12_takeOffcut 160 = .ok (.iload_n 3, 1) := by decide +kernel
theorem dX12_takeOffcut_161 : decode cX12_takeOffcut 161 = .ok (.invokeinterface 90 2, 5) := by decide +kernel
theorem dX12_takeOffcut_166 : decode cX12_takeOffcut 166 = .ok (.checkcast 359, 3) := by decide +kernel
theorem dX12_takeOffcut_169 : decode cX12_takeOffcut 169 = .ok (.iconst 1, 1) := by decide +kernel
theorem dX12_takeOffcut_170 : decode cX12_takeOffcut 170 = .ok (.iaload, 1) := by decide +kernel
theorem dX12_takeOffcut_171 : decode cX12_takeOffcut 171 = .ok (.if_icmp .ge 7, 3) := by decide +kernel
theorem dX12_takeOffcut_174 : decode cX12_takeOffcut 174 = .ok (.iconst 1, 1) := by decide +kernel
theorem dX12_takeOffcut_175 : decode cX12_takeOffcut 175 = .ok (.goto 4, 3) := by decide +kernel
theorem dX12_takeOffcut_178 : decode cX12_takeOffcut 178 = .ok (.iconst 0, 1) := by decide +kernel
theorem dX12_takeOffcut_179 : decode cX12_takeOffcut 179 = .ok (.istore 7, 2) := by decide +kernel
theorem dX12_takeOffcut_181 : decode cX12_takeOffcut 181 = .ok (.iload 6, 2) := by decide +kernel
theorem dX12_takeOffcut_183 : decode cX12_takeOffcut 183 = .ok (.ifCond .eq 13, 3) := by decide +kernel
theorem dX12_takeOffcut_186 : decode cX12_takeOffcut 186 = .ok (.iload 7, 2) := by decide +kernel
theorem dX12_takeOffcut_188 : decode cX12_takeOffcut 188 = .ok (.ifCond .eq 8, 3) := by decide +kernel
theorem dX12_takeOffcut_191 : decode cX12_takeOffcut 191 = .ok (.iload 4, 2) := by decide +kernel
theorem dX12_takeOffcut_193 : decode cX12_takeOffcut 193 = .ok (.goto 4, 3) := by decide +kernel
theorem dX12_takeOffcut_196 : decode cX12_takeOffcut 196 = .ok (.iload_n 3, 1) := by decide +kernel
theorem dX12_takeOffcut_197 : decode cX12_takeOffcut 197 = .ok (.istore_n 3, 1) := by decide +kernel
theorem dX12_takeOffcut_198 : decode cX12_takeOffcut 198 = .ok (.iinc 4 1, 3) := by decide +kernel
theorem dX12_takeOffcut_201 : decode cX12_takeOffcut 201 = .ok (.goto (-151), 3) := by decide +kernel
theorem dX12_takeOffcut_204 : decode cX12_takeOffcut 204 = .ok (.aload_n 0, 1) := by decide +kernel
theorem dX12_takeOffcut_205 : decode cX12_takeOffcut 205 = .ok (.iload_n 3, 1) := by decide +kernel
theorem dX12_takeOffcut_206 : decode cX12_takeOffcut 206 = .ok (.iconst (-1), 1) := by decide +kernel
theorem dX12_takeOffcut_207 : decode cX12_takeOffcut 207 = .ok (.if_icmp .ne 7, 3) := by decide +kernel
theorem dX12_takeOffcut_210 : decode cX12_takeOffcut 210 = .ok (.iconst 1, 1) := by decide +kernel
theorem dX12_takeOffcut_211 : decode cX12_takeOffcut 211 = .ok (.goto 4, 3) := by decide +kernel
theorem dX12_takeOffcut_214 : decode cX12_takeOffcut 214 = .ok (.iconst 0, 1) := by decide +kernel
theorem dX12_takeOffcut_215 : decode cX12_takeOffcut 215 = .ok (.iconst 2, 1) := by decide +kernel
theorem dX12_takeOffcut_216 : decode cX12_takeOffcut 216 = .ok (.invokevirtual 67, 3) := by decide +kernel
theorem dX12_takeOffcut_219 : decode cX12_takeOffcut 219 = .ok (.ifCond .eq 5, 3) := by decide +kernel
theorem dX12_takeOffcut_222 : decode cX12_takeOffcut 222 = .ok (.iconst (-1), 1) := by decide +kernel
theorem dX12_takeOffcut_223 : decode cX12_takeOffcut 223 = .ok (.ireturn, 1) := by decide +kernel
theorem dX12_takeOffcut_224 : decode cX12_takeOffcut 224 = .ok (.aload_n 0, 1) := by decide +kernel
theorem dX12_takeOffcut_225 : decode cX12_takeOffcut 225 = .ok (.getfield 25, 3) := by decide +kernel
theorem dX12_takeOffcut_228 : decode cX12_takeOffcut 228 = .ok (.iload_n 3, 1) := by decide +kernel
theorem dX12_takeOffcut_229 : decode cX12_takeOffcut 229 = .ok (.invokeinterface 364 2, 5) := by decide +kernel
theorem dX12_takeOffcut_234 : decode cX12_takeOffcut 234 = .ok (.checkcast 359, 3) := by decide +kernel
theorem dX12_takeOffcut_237 : decode cX12_takeOffcut 237 = .ok (.astore 4, 2) := by decide +kernel
theorem dX12_takeOffcut_239 : decode cX12_takeOffcut 239 = .ok (.aload_n 0, 1) := by decide +kernel
theorem dX12_takeOffcut_240 : decode cX12_takeOffcut 240 = .ok (.dup, 1) := by decide +kernel
theorem dX12_takeOffcut_241 : decode cX12_takeOffcut 241 = .ok (.getfield 367, 3) := by decide +kernel
theorem dX12_takeOffcut_244 : decode cX12_takeOffcut 244 = .ok (.aload 4, 2) := by decide +kernel
theorem dX12_takeOffcut_246 : decode cX12_takeOffcut 246 = .ok (.iconst 0, 1) := by decide +kernel
theorem dX12_takeOffcut_247 : decode cX12_takeOffcut 247 = .ok (.iaload, 1) := by decide +kernel
theorem dX12_takeOffcut_248 : decode cX12_takeOffcut 248 = .ok (.aload 4, 2) := by decide +kernel
theorem dX12_takeOffcut_250 : decode cX12_takeOffcut 250 = .ok (.iconst 1, 1) := by decide +kernel
theorem dX12_takeOffcut_251 : decode cX12_takeOffcut 251 = .ok (.iaload, 1) := by decide +kernel
theorem dX12_takeOffcut_252 : decode cX12_takeOffcut 252 = .ok (.imul, 1) := by decide +kernel
theorem dX12_takeOffcut_253 : decode cX12_takeOffcut 253 = .ok (.iadd, 1) := by decide +kernel
theorem dX12_takeOffcut_254 : decode cX12_takeOffcut 254 = .ok (.putfield 367, 3) := by decide +kernel
theorem dX12_takeOffcut_257 : decode cX12_takeOffcut 257 = .ok (.aload 4, 2) := by decide +kernel
theorem dX12_takeOffcut_259 : decode cX12_takeOffcut 259 = .ok (.iconst 0, 1) := by decide +kernel
theorem dX12_takeOffcut_260 : decode cX12_takeOffcut 260 = .ok (.iaload, 1) := by decide +kernel
theorem dX12_takeOffcut_261 : decode cX12_takeOffcut 261 = .ok (.ireturn, 1) := by decide +kernel
theorem dX12_unused_0 : decode cX12_unused 0 = .ok (.iconst 0, 1) := by decide +kernel
theorem dX12_unused_1 : decode cX12_unused 1 = .ok (.istore_n 1, 1) := by decide +kernel
theorem dX12_unused_2 : decode cX12_unused 2 = .ok (.aload_n 0, 1) := by decide +kernel
theorem dX12_unused_3 : decode cX12_unused 3 = .ok (.getfield 16, 3) := by decide +kernel
theorem dX12_unused_6 : decode cX12_unused 6 = .ok (.invokeinterface 288 1, 5) := by decide +kernel
theorem dX12_unused_11 : decode cX12_unused 11 = .ok (.astore_n 2, 1) := by decide +kernel
theorem dX12_unused_12 : decode cX12_unused 12 = .ok (.aload_n 2, 1) := by decide +kernel
theorem dX12_unused_13 : decode cX12_unused 13 = .ok (.invokeinterface 292 1, 5) := by decide +kernel
theorem dX12_unused_18 : decode cX12_unused 18 = .ok (.ifCond .eq 58, 3) := by decide +kernel
theorem dX12_unused_21 : decode cX12_unused 21 = .ok (.aload_n 2, 1) := by decide +kernel
theorem dX12_unused_22 : decode cX12_unused 22 = .ok (.invokeinterface 298 1, 5) := by decide +kernel
theorem dX12_unused_27 : decode cX12_unused 27 = .ok (.checkcast 98, 3) := by decide +kernel
theorem dX12_unused_30 : decode cX12_unused 30 = .ok (.astore_n 3, 1) := by decide +kernel
theorem dX12_unused_31 : decode cX12_unused 31 = .ok (.iconst 0, 1) := by decide +kernel
theorem dX12_unused_32 : decode cX12_unused 32 = .ok (.istore 4, 2) := by decide +kernel
theorem dX12_unused_34 : decode cX12_unused 34 = .ok (.iload 4, 2) := by decide +kernel
theorem dX12_unused_36 : decode cX12_unused 36 = .ok (.aload_n 3, 1) := by decide +kernel
theorem dX12_unused_37 : decode cX12_unused 37 = .ok (.getfield 103, 3) := by decide +kernel
theorem dX12_unused_40 : decode cX12_unused 40 = .ok (.arraylength, 1) := by decide +kernel
theorem dX12_unused_41 : decode cX12_unused 41 = .ok (.if_icmp .ge 32, 3) := by decide +kernel
theorem dX12_unused_44 : decode cX12_unused 44 = .ok (.iload_n 1, 1) := by decide +kernel
theorem dX12_unused_45 : decode cX12_unused 45 = .ok (.aload_n 3, 1) := by decide +kernel
theorem dX12_unused_46 : decode cX12_unused 46 = .ok (.getfield 103, 3) := by decide +kernel
theorem dX12_unused_49 : decode cX12_unused 49 = .ok (.iload 4, 2) := by decide +kernel
theorem dX12_unused_51 : decode cX12_unused 51 = .ok (.baload, 1) := by decide +kernel
theorem dX12_unused_52 : decode cX12_unused 52 = .ok (.ifCond .eq 7, 3) := by decide +kernel
theorem dX12_unused_55 : decode cX12_unused 55 = .ok (.iconst 0, 1) := by decide +kernel
theorem dX12_unused_56 : decode cX12_unused 56 = .ok (.goto 9, 3) := by decide +kernel
theorem dX12_unused_59 : decode cX12_unused 59 = .ok (.aload_n 3, 1) := by decide +kernel
theorem dX12_unused_60 : decode cX12_unused 60 = .ok (.iload 4, 2) := by decide +kernel
theorem dX12_unused_62 : decode cX12_unused 62 = .ok (.invokevirtual 117, 3) := by decide +kernel
theorem dX12_unused_65 : decode cX12_unused 65 = .ok (.iadd, 1) := by decide +kernel
theorem dX12_unused_66 : decode cX12_unused 66 = .ok (.istore_n 1, 1) := by decide +kernel
theorem dX12_unused_67 : decode cX12_unused 67 = .ok (.iinc 4 1, 3) := by decide +kernel
theorem dX12_unused_70 : decode cX12_unused 70 = .ok (.goto (-36), 3) := by decide +kernel
theorem dX12_unused_73 : decode cX12_unused 73 = .ok (.goto (-61), 3) := by decide +kernel
theorem dX12_unused_76 : decode cX12_unused 76 = .ok (.iload_n 1, 1) := by decide +kernel
theorem dX12_unused_77 : decode cX12_unused 77 = .ok (.ireturn, 1) := by decide +kernel
theorem dX12_account_0 : decode cX12_account 0 = .ok (.aload_n 0, 1) := by decide +kernel
theorem dX12_account_1 : decode cX12_account 1 = .ok (.invokevirtual 48, 3) := by decide +kernel
theorem dX12_account_4 : decode cX12_account 4 = .ok (.iconst 0, 1) := by decide +kernel
theorem dX12_account_5 : decode cX12_account 5 = .ok (.istore_n 2, 1) := by decide +kernel
theorem dX12_account_6 : decode cX12_account 6 = .ok (.aload_n 0, 1) := by decide +kernel
theorem dX12_account_7 : decode cX12_account 7 = .ok (.getfield 25, 3) := by decide +kernel
theorem dX12_account_10 : decode cX12_account 10 = .ok (.invokeinterface 288 1, 5) := by decide +kernel
theorem dX12_account_15 : decode cX12_account 15 = .ok (.astore_n 3, 1) := by decide +kernel
theorem dX12_account_16 : decode cX12_account 16 = .ok (.aload_n 3, 1) := by decide +kernel
theorem dX12_account_17 : decode cX12_account 17 = .ok (.invokeinterface 292 1, 5) := by decide +kernel
theorem dX12_account_22 : decode cX12_account 22 = .ok (.ifCond .eq 29, 3) := by decide +kernel
theorem dX12_account_25 : decode cX12_account 25 = .ok (.aload_n 3, 1) := by decide +kernel
theorem dX12_account_26 : decode cX12_account 26 = .ok (.invokeinterface 298 1, 5) := by decide +kernel
theorem dX12_account_31 : decode cX12_account 31 = .ok (.checkcast 359, 3) := by decide +kernel
theorem dX12_account_34 : decode cX12_account 34 = .ok (.astore 4, 2) := by decide +kernel
theorem dX12_account_36 : decode cX12_account 36 = .ok (.iload_n 2, 1) := by decide +kernel
theorem dX12_account_37 : decode cX12_account 37 = .ok (.aload 4, 2) := by decide +kernel
theorem dX12_account_39 : decode cX12_account 39 = .ok (.iconst 0, 1) := by decide +kernel
theorem dX12_account_40 : decode cX12_account 40 = .ok (.iaload, 1) := by decide +kernel
theorem dX12_account_41 : decode cX12_account 41 = .ok (.aload 4, 2) := by decide +kernel
theorem dX12_account_43 : decode cX12_account 43 = .ok (.iconst 1, 1) := by decide +kernel
theorem dX12_account_44 : decode cX12_account 44 = .ok (.iaload, 1) := by decide +kernel
theorem dX12_account_45 : decode cX12_account 45 = .ok (.imul, 1) := by decide +kernel
theorem dX12_account_46 : decode cX12_account 46 = .ok (.iadd, 1) := by decide +kernel
theorem dX12_account_47 : decode cX12_account 47 = .ok (.istore_n 2, 1) := by decide +kernel
theorem dX12_account_48 : decode cX12_account 48 = .ok (.goto (-32), 3) := by decide +kernel
theorem dX12_account_51 : decode cX12_account 51 = .ok (.bipush 7, 2) := by decide +kernel
theorem dX12_account_53 : decode cX12_account 53 = .ok (.newarray .int, 2) := by decide +kernel
theorem dX12_account_55 : decode cX12_account 55 = .ok (.dup, 1) := by decide +kernel
theorem dX12_account_56 : decode cX12_account 56 = .ok (.iconst 0, 1) := by decide +kernel
theorem dX12_account_57 : decode cX12_account 57 = .ok (.aload_n 0, 1) := by decide +kernel
theorem dX12_account_58 : decode cX12_account 58 = .ok (.getfield 204, 3) := by decide +kernel
theorem dX12_account_61 : decode cX12_account 61 = .ok (.iastore, 1) := by decide +kernel
theorem dX12_account_62 : decode cX12_account 62 = .ok (.dup, 1) := by decide +kernel
theorem dX12_account_63 : decode cX12_account 63 = .ok (.iconst 1, 1) := by decide +kernel
theorem dX12_account_64 : decode cX12_account 64 = .ok (.aload_n 0, 1) := by decide +kernel
theorem dX12_account_65 : decode cX12_account 65 = .ok (.getfield 213, 3) := by decide +kernel
theorem dX12_account_68 : decode cX12_account 68 = .ok (.iastore, 1) := by decide +kernel
theorem dX12_account_69 : decode cX12_account 69 = .ok (.dup, 1) := by decide +kernel
theorem dX12_account_70 : decode cX12_account 70 = .ok (.iconst 2, 1) := by decide +kernel
theorem dX12_account_71 : decode cX12_account 71 = .ok (.aload_n 0, 1) := by decide +kernel
theorem dX12_account_72 : decode cX12_account 72 = .ok (.getfield 336, 3) := by decide +kernel
theorem dX12_account_75 : decode cX12_account 75 = .ok (.iastore, 1) := by decide +kernel
theorem dX12_account_76 : decode cX12_account 76 = .ok (.dup, 1) := by decide +kernel
theorem dX12_account_77 : decode cX12_account 77 = .ok (.iconst 3, 1) := by decide +kernel
theorem dX12_account_78 : decode cX12_account 78 = .ok (.iload_n 2, 1) := by decide +kernel
theorem dX12_account_79 : decode cX12_account 79 = .ok (.iastore, 1) := by decide +kernel
theorem dX12_account_80 : decode cX12_account 80 = .ok (.dup, 1) := by decide +kernel
theorem dX12_account_81 : decode cX12_account 81 = .ok (.iconst 4, 1) := by decide +kernel
theorem dX12_account_82 : decode cX12_account 82 = .ok (.aload_n 0, 1) := by decide +kernel
theorem dX12_account_83 : decode cX12_account 83 = .ok (.getfield 367, 3) := by decide +kernel
theorem dX12_account_86 : decode cX12_account 86 = .ok (.iastore, 1) := by decide +kernel
theorem dX12_account_87 : decode cX12_account 87 = .ok (.dup, 1) := by decide +kernel
theorem dX12_account_88 : decode cX12_account 88 = .ok (.iconst 5, 1) := by decide +kernel
theorem dX12_account_89 : decode cX12_account 89 = .ok (.aload_n 0, 1) := by decide +kernel
theorem dX12_account_90 : decode cX12_account 90 = .ok (.getfield 168, 3) := by decide +kernel
theorem dX12_account_93 : decode cX12_account 93 = .ok (.iastore, 1) := by decide +kernel
theorem dX12_account_94 : decode cX12_account 94 = .ok (.dup, 1) := by decide +kernel
theorem dX12_account_95 : decode cX12_account 95 = .ok (.bipush 6, 2) := by decide +kernel
theorem dX12_account_97 : decode cX12_account 97 = .ok (.aload_n 0, 1) := by decide +kernel
theorem dX12_account_98 : decode cX12_account 98 = .ok (.invokevirtual 370, 3) := by decide +kernel
theorem dX12_account_101 : decode cX12_account 101 = .ok (.iastore, 1) := by decide +kernel
theorem dX12_account_102 : decode cX12_account 102 = .ok (.astore_n 3, 1) := by decide +kernel
theorem dX12_account_103 : decode cX12_account 103 = .ok (.aload_n 0, 1) := by decide +kernel
theorem dX12_account_104 : decode cX12_account 104 = .ok (.ldc_w 373, 3) := by decide +kernel
theorem dX12_account_107 : decode cX12_account 107 = .ok (.iload_n 1, 1) := by decide +kernel
theorem dX12_account_108 : decode cX12_account 108 = .ok (.invokevirtual 53, 3) := by decide +kernel
theorem dX12_account_111 : decode cX12_account 111 = .ok (.ifCond .ge 7, 3) := by decide +kernel
theorem dX12_account_114 : decode cX12_account 114 = .ok (.iconst 1, 1) := by decide +kernel
theorem dX12_account_115 : decode cX12_account 115 = .ok (.goto 4, 3) := by decide +kernel
theorem dX12_account_118 : decode cX12_account 118 = .ok (.iconst 0, 1) := by decide +kernel
theorem dX12_account_119 : decode cX12_account 119 = .ok (.iconst 1, 1) := by decide +kernel
theorem dX12_account_120 : decode cX12_account 120 = .ok (.invokevirtual 67, 3) := by decide +kernel
theorem dX12_account_123 : decode cX12_account 123 = .ok (.ifCond .eq 7, 3) := by decide +kernel
theorem dX12_account_126 : decode cX12_account 126 = .ok (.iconst (-1), 1) := by decide +kernel
theorem dX12_account_127 : decode cX12_account 127 = .ok (.goto 12, 3) := by decide +kernel
theorem dX12_account_130 : decode cX12_account 130 = .ok (.aload_n 3, 1) := by decide +kernel
theorem dX12_account_131 : decode cX12_account 131 = .ok (.ldc_w 373, 3) := by decide +kernel
theorem dX12_account_134 : decode cX12_account 134 = .ok (.iload_n 1, 1) := by decide +kernel
theorem dX12_account_135 : decode cX12_account 135 = .ok (.invokevirtual 53, 3) := by decide +kernel
theorem dX12_account_138 : decode cX12_account 138 = .ok (.iaload, 1) := by decide +kernel
theorem dX12_account_139 : decode cX12_account 139 = .ok (.ireturn, 1) := by decide +kernel
theorem dX12_priceOf_0 : decode cX12_priceOf 0 = .ok (.aload_n 0, 1) := by decide +kernel
theorem dX12_priceOf_1 : decode cX12_priceOf 1 = .ok (.getfield 186, 3) := by decide +kernel
theorem dX12_priceOf_4 : decode cX12_priceOf 4 = .ok (.ifnonnull 7, 3) := by decide +kernel
theorem dX12_priceOf_7 : decode cX12_priceOf 7 = .ok (.iconst 0, 1) := by decide +kernel
theorem dX12_priceOf_8 : decode cX12_priceOf 8 = .ok (.goto 15, 3) := by decide +kernel
theorem dX12_priceOf_11 : decode cX12_priceOf 11 = .ok (.aload_n 0, 1) := by decide +kernel
theorem dX12_priceOf_12 : decode cX12_priceOf 12 = .ok (.getfield 140, 3) := by decide +kernel
theorem dX12_priceOf_15 : decode cX12_priceOf 15 = .ok (.aload_n 0, 1) := by decide +kernel
theorem dX12_priceOf_16 : decode cX12_priceOf 16 = .ok (.getfield 149, 3) := by decide +kernel
theorem dX12_priceOf_19 : decode cX12_priceOf 19 = .ok (.imul, 1) := by decide +kernel
theorem dX12_priceOf_20 : decode cX12_priceOf 20 = .ok (.bipush 10, 2) := by decide +kernel
theorem dX12_priceOf_22 : decode cX12_priceOf 22 = .ok (.idiv, 1) := by decide +kernel
theorem dX12_priceOf_23 : decode cX12_priceOf 23 = .ok (.istore_n 1, 1) := by decide +kernel
theorem dX12_priceOf_24 : decode cX12_priceOf 24 = .ok (.iconst 2, 1) := by decide +kernel
theorem dX12_priceOf_25 : decode cX12_priceOf 25 = .ok (.aload_n 0, 1) := by decide +kernel
theorem dX12_priceOf_26 : decode cX12_priceOf 26 = .ok (.invokevirtual 375, 3) := by decide +kernel
theorem dX12_priceOf_29 : decode cX12_priceOf 29 = .ok (.imul, 1) := by decide +kernel
theorem dX12_priceOf_30 : decode cX12_priceOf 30 = .ok (.iload_n 1, 1) := by decide +kernel
theorem dX12_priceOf_31 : decode cX12_priceOf 31 = .ok (.iadd, 1) := by decide +kernel
theorem dX12_priceOf_32 : decode cX12_priceOf 32 = .ok (.aload_n 0, 1) := by decide +kernel
theorem dX12_priceOf_33 : decode cX12_priceOf 33 = .ok (.getfield 210, 3) := by decide +kernel
theorem dX12_priceOf_36 : decode cX12_priceOf 36 = .ok (.ifCond .eq 7, 3) := by decide +kernel
theorem dX12_priceOf_39 : decode cX12_priceOf 39 = .ok (.iconst 5, 1) := by decide +kernel
theorem dX12_priceOf_40 : decode cX12_priceOf 40 = .ok (.goto 4, 3) := by decide +kernel
theorem dX12_priceOf_43 : decode cX12_priceOf 43 = .ok (.iconst 0, 1) := by decide +kernel
theorem dX12_priceOf_44 : decode cX12_priceOf 44 = .ok (.iadd, 1) := by decide +kernel
theorem dX12_priceOf_45 : decode cX12_priceOf 45 = .ok (.aload_n 0, 1) := by decide +kernel
theorem dX12_priceOf_46 : decode cX12_priceOf 46 = .ok (.getfield 282, 3) := by decide +kernel
theorem dX12_priceOf_49 : decode cX12_priceOf 49 = .ok (.iadd, 1) := by decide +kernel
theorem dX12_priceOf_50 : decode cX12_priceOf 50 = .ok (.iconst 3, 1) := by decide +kernel
theorem dX12_priceOf_51 : decode cX12_priceOf 51 = .ok (.aload_n 0, 1) := by decide +kernel
theorem dX12_priceOf_52 : decode cX12_priceOf 52 = .ok (.getfield 226, 3) := by decide +kernel
theorem dX12_priceOf_55 : decode cX12_priceOf 55 = .ok (.aload_n 0, 1) := by decide +kernel
theorem dX12_priceOf_56 : decode cX12_priceOf 56 = .ok (.getfield 285, 3) := by decide +kernel
theorem dX12_priceOf_59 : decode cX12_priceOf 59 = .ok (.iadd, 1) := by decide +kernel
theorem dX12_priceOf_60 : decode cX12_priceOf 60 = .ok (.imul, 1) := by decide +kernel
theorem dX12_priceOf_61 : decode cX12_priceOf 61 = .ok (.isub, 1) := by decide +kernel
theorem dX12_priceOf_62 : decode cX12_priceOf 62 = .ok (.ireturn, 1) := by decide +kernel
theorem dX12_price_0 : decode cX12_price 0 = .ok (.aload_n 0, 1) := by decide +kernel
theorem dX12_price_1 : decode cX12_price 1 = .ok (.invokevirtual 48, 3) := by decide +kernel
theorem dX12_price_4 : decode cX12_price 4 = .ok (.aload_n 0, 1) := by decide +kernel
theorem dX12_price_5 : decode cX12_price 5 = .ok (.iload_n 1, 1) := by decide +kernel
theorem dX12_price_6 : decode cX12_price 6 = .ok (.invokevirtual 171, 3) := by decide +kernel
theorem dX12_price_9 : decode cX12_price 9 = .ok (.ifCond .eq 7, 3) := by decide +kernel
theorem dX12_price_12 : decode cX12_price 12 = .ok (.iconst (-1), 1) := by decide +kernel
theorem dX12_price_13 : decode cX12_price 13 = .ok (.goto 19, 3) := by decide +kernel
theorem dX12_price_16 : decode cX12_price 16 = .ok (.aload_n 0, 1) := by decide +kernel
theorem dX12_price_17 : decode cX12_price 17 = .ok (.getfield 19, 3) := by decide +kernel
theorem dX12_price_20 : decode cX12_price 20 = .ok (.iload_n 1, 1) := by decide +kernel
theorem dX12_price_21 : decode cX12_price 21 = .ok (.invokeinterface 90 2, 5) := by decide +kernel
theorem dX12_price_26 : decode cX12_price 26 = .ok (.checkcast 129, 3) := by decide +kernel
theorem dX12_price_29 : decode cX12_price 29 = .ok (.invokestatic 378, 3) := by decide +kernel
theorem dX12_price_32 : decode cX12_price 32 = .ok (.ireturn, 1) := by decide +kernel
theorem dX12_leavesIn_0 : decode cX12_leavesIn 0 = .ok (.iconst 0, 1) := by decide +kernel
theorem dX12_leavesIn_1 : decode cX12_leavesIn 1 = .ok (.istore_n 2, 1) := by decide +kernel
theorem dX12_leavesIn_2 : decode cX12_leavesIn 2 = .ok (.aload_n 0, 1) := by decide +kernel
theorem dX12_leavesIn_3 : decode cX12_leavesIn 3 = .ok (.getfield 16, 3) := by decide +kernel
theorem dX12_leavesIn_6 : decode cX12_leavesIn 6 = .ok (.invokeinterface 288 1, 5) := by decide +kernel
theorem dX12_leavesIn_11 : decode cX12_leavesIn 11 = .ok (.astore_n 3, 1) := by decide +kernel
theorem dX12_leavesIn_12 : decode cX12_leavesIn 12 = .ok (.aload_n 3, 1) := by decide +kernel
theorem dX12_leavesIn_13 : decode cX12_leavesIn 13 = .ok (.invokeinterface 292 1, 5) := by decide +kernel
theorem dX12_leavesIn_18 : decode cX12_leavesIn 18 = .ok (.ifCond .eq 69, 3) := by decide +kernel
theorem dX12_leavesIn_21 : decode cX12_leavesIn 21 = .ok (.aload_n 3, 1) := by decide +kernel
theorem dX12_leavesIn_22 : decode cX12_leavesIn 22 = .ok (.invokeinterface 298 1, 5) := by decide +kernel
theorem dX12_leavesIn_27 : decode cX12_leavesIn 27 = .ok (.checkcast 98, 3) := by decide +kernel
theorem dX12_leavesIn_30 : decode cX12_leavesIn 30 = .ok (.astore 4, 2) := by decide +kernel
theorem dX12_leavesIn_32 : decode cX12_leavesIn 32 = .ok (.aload 4, 2) := by decide +kernel
theorem dX12_leavesIn_34 : decode cX12_leavesIn 34 = .ok (.getfield 103, 3) := by decide +kernel
theorem dX12_leavesIn_37 : decode cX12_leavesIn 37 = .ok (.astore 5, 2) := by decide +kernel
theorem dX12_leavesIn_39 : decode cX12_leavesIn 39 = .ok (.aload 5, 2) := by decide +kernel
theorem dX12_leavesIn_41 : decode cX12_leavesIn 41 = .ok (.arraylength, 1) := by decide +kernel
theorem dX12_leavesIn_42 : decode cX12_leavesIn 42 = .ok (.istore 6, 2) := by decide +kernel
theorem dX12_leavesIn_44 : decode cX12_leavesIn 44 = .ok (.iconst 0, 1) := by decide +kernel
theorem dX12_leavesIn_45 : decode cX12_leavesIn 45 = .ok (.istore 7, 2) := by decide +kernel
theorem dX12_leavesIn_47 : decode cX12_leavesIn 47 = .ok (.iload 7, 2) := by decide +kernel
theorem dX12_leavesIn_49 : decode cX12_leavesIn 49 = .ok (.iload 6, 2) := by decide +kernel
theorem dX12_leavesIn_51 : decode cX12_leavesIn 51 = .ok (.if_icmp .ge 33, 3) := by decide +kernel
theorem dX12_leavesIn_54 : decode cX12_leavesIn 54 = .ok (.aload 5, 2) := by decide +kernel
theorem dX12_leavesIn_56 : decode cX12_leavesIn 56 = .ok (.iload 7, 2) := by decide +kernel
theorem dX12_leavesIn_58 : decode cX12_leavesIn 58 = .ok (.baload, 1) := by decide +kernel
theorem dX12_leavesIn_59 : decode cX12_leavesIn 59 = .ok (.istore 8, 2) := by decide +kernel
theorem dX12_leavesIn_61 : decode cX12_leavesIn 61 = .ok (.iload_n 2, 1) := by decide +kernel
theorem dX12_leavesIn_62 : decode cX12_leavesIn 62 = .ok (.iload 8, 2) := by decide +kernel
theorem dX12_leavesIn_64 : decode cX12_leavesIn 64 = .ok (.ifCond .ne 7, 3) := by decide +kernel
theorem dX12_leavesIn_67 : decode cX12_leavesIn 67 = .ok (.iload_n 1, 1) := by decide +kernel
theorem dX12_leavesIn_68 : decode cX12_leavesIn 68 = .ok (.ifCond .ne 7, 3) := by decide +kernel
theorem dX12_leavesIn_71 : decode cX12_leavesIn 71 = .ok (.iconst 1, 1) := by decide +kernel
theorem dX12_leavesIn_72 : decode cX12_leavesIn 72 = .ok (.goto 4, 3) := by decide +kernel
theorem dX12_leavesIn_75 : decode cX12_leavesIn 75 = .ok (.iconst 0, 1) := by decide +kernel
theorem dX12_leavesIn_76 : decode cX12_leavesIn 76 = .ok (.iadd, 1) := by decide +kernel
theorem dX12_leavesIn_77 : decode cX12_leavesIn 77 = .ok (.istore_n 2, 1) := by decide +kernel
theorem dX12_leavesIn_78 : decode cX12_leavesIn 78 = .ok (.iinc 7 1, 3) := by decide +kernel
theorem dX12_leavesIn_81 : decode cX12_leavesIn 81 = .ok (.goto (-34), 3) := by decide +kernel
theorem dX12_leavesIn_84 : decode cX12_leavesIn 84 = .ok (.goto (-72), 3) := by decide +kernel
theorem dX12_leavesIn_87 : decode cX12_leavesIn 87 = .ok (.iload_n 2, 1) := by decide +kernel
theorem dX12_leavesIn_88 : decode cX12_leavesIn 88 = .ok (.ireturn, 1) := by decide +kernel
theorem dX12_usedShare_0 : decode cX12_usedShare 0 = .ok (.aload_n 0, 1) := by decide +kernel
theorem dX12_usedShare_1 : decode cX12_usedShare 1 = .ok (.invokevirtual 48, 3) := by decide +kernel
theorem dX12_usedShare_4 : decode cX12_usedShare 4 = .ok (.aload_n 0, 1) := by decide +kernel
theorem dX12_usedShare_5 : decode cX12_usedShare 5 = .ok (.aload_n 0, 1) := by decide +kernel
theorem dX12_usedShare_6 : decode cX12_usedShare 6 = .ok (.getfield 16, 3) := by decide +kernel
theorem dX12_usedShare_9 : decode cX12_usedShare 9 = .ok (.invokeinterface 382 1, 5) := by decide +kernel
theorem dX12_usedShare_14 : decode cX12_usedShare 14 = .ok (.iconst 1, 1) := by decide +kernel
theorem dX12_usedShare_15 : decode cX12_usedShare 15 = .ok (.invokevirtual 67, 3) := by decide +kernel
theorem dX12_usedShare_18 : decode cX12_usedShare 18 = .ok (.ifCond .eq 7, 3) := by decide +kernel
theorem dX12_usedShare_21 : decode cX12_usedShare 21 = .ok (.fconst 0, 1) := by decide +kernel
theorem dX12_usedShare_22 : decode cX12_usedShare 22 = .ok (.goto 16, 3) := by decide +kernel
theorem dX12_usedShare_25 : decode cX12_usedShare 25 = .ok (.aload_n 0, 1) := by decide +kernel
theorem dX12_usedShare_26 : decode cX12_usedShare 26 = .ok (.iconst 1, 1) := by decide +kernel
theorem dX12_usedShare_27 : decode cX12_usedShare 27 = .ok (.invokevirtual 385, 3) := by decide +kernel
theorem dX12_usedShare_30 : decode cX12_usedShare 30 = .ok (.i2f, 1) := by decide +kernel
theorem dX12_usedShare_31 : decode cX12_usedShare 31 = .ok (.aload_n 0, 1) := by decide +kernel
theorem dX12_usedShare_32 : decode cX12_usedShare 32 = .ok (.iconst 0, 1) := by decide +kernel
theorem dX12_usedShare_33 : decode cX12_usedShare 33 = .ok (.invokevirtual 385, 3) := by decide +kernel
theorem dX12_usedShare_36 : decode cX12_usedShare 36 = .ok (.i2f, 1) := by decide +kernel
theorem dX12_usedShare_37 : decode cX12_usedShare 37 = .ok (.fdiv, 1) := by decide +kernel
theorem dX12_usedShare_38 : decode cX12_usedShare 38 = .ok (.freturn, 1) := by decide +kernel
theorem dX12_meanFigure_0 : decode cX12_meanFigure 0 = .ok (.aload_n 0, 1) := by decide +kernel
theorem dX12_meanFigure_1 : decode cX12_meanFigure 1 = .ok (.invokevirtual 48, 3) := by decide +kernel
theorem dX12_meanFigure_4 : decode cX12_meanFigure 4 = .ok (.iconst 0, 1) := by decide +kernel
theorem dX12_meanFigure_5 : decode cX12_meanFigure 5 = .ok (.istore_n 1, 1) := by decide +kernel
theorem dX12_meanFigure_6 : decode cX12_meanFigure 6 = .ok (.aload_n 0, 1) := by decide +kernel
theorem dX12_meanFigure_7 : decode cX12_meanFigure 7 = .ok (.getfield 16, 3) := by decide +kernel
theorem dX12_meanFigure_10 : decode cX12_meanFigure 10 = .ok (.invokeinterface 288 1, 5) := by decide +kernel
theorem dX12_meanFigure_15 : decode cX12_meanFigure 15 = .ok (.astore_n 2, 1) := by decide +kernel
theorem dX12_meanFigure_16 : decode cX12_meanFigure 16 = .ok (.aload_n 2, 1) := by decide +kernel
theorem dX12_meanFigure_17 : decode cX12_meanFigure 17 = .ok (.invokeinterface 292 1, 5) := by decide +kernel
theorem dX12_meanFigure_22 : decode cX12_meanFigure 22 = .ok (.ifCond .eq 44, 3) := by decide +kernel
theorem dX12_meanFigure_25 : decode cX12_meanFigure 25 = .ok (.aload_n 2, 1) := by decide +kernel
theorem dX12_meanFigure_26 : decode cX12_meanFigure 26 = .ok (.invokeinterface 298 1, 5) := by decide +kernel
theorem dX12_meanFigure_31 : decode cX12_meanFigure 31 = .ok (.checkcast 98, 3) := by decide +kernel
theorem dX12_meanFigure_34 : decode cX12_meanFigure 34 = .ok (.astore_n 3, 1) := by decide +kernel
theorem dX12_meanFigure_35 : decode cX12_meanFigure 35 = .ok (.iconst 0, 1) := by decide +kernel
theorem dX12_meanFigure_36 : decode cX12_meanFigure 36 = .ok (.istore 4, 2) := by decide +kernel
theorem dX12_meanFigure_38 : decode cX12_meanFigure 38 = .ok (.iload 4, 2) := by decide +kernel
theorem dX12_meanFigure_40 : decode cX12_meanFigure 40 = .ok (.aload_n 3, 1) := by decide +kernel
theorem dX12_meanFigure_41 : decode cX12_meanFigure 41 = .ok (.getfield 103, 3) := by decide +kernel
theorem dX12_meanFigure_44 : decode cX12_meanFigure 44 = .ok (.arraylength, 1) := by decide +kernel
theorem dX12_meanFigure_45 : decode cX12_meanFigure 45 = .ok (.if_icmp .ge 18, 3) := by decide +kernel
theorem dX12_meanFigure_48 : decode cX12_meanFigure 48 = .ok (.iload_n 1, 1) := by decide +kernel
theorem dX12_meanFigure_49 : decode cX12_meanFigure 49 = .ok (.aload_n 3, 1) := by decide +kernel
theorem dX12_meanFigure_50 : decode cX12_meanFigure 50 = .ok (.iload 4, 2) := by decide +kernel
theorem dX12_meanFigure_52 : decode cX12_meanFigure 52 = .ok (.invokevirtual 120, 3) := by decide +kernel
theorem dX12_meanFigure_55 : decode cX12_meanFigure 55 = .ok (.iadd, 1) := by decide +kernel
theorem dX12_meanFigure_56 : decode cX12_meanFigure 56 = .ok (.istore_n 1, 1) := by decide +kernel
theorem dX12_meanFigure_57 : decode cX12_meanFigure 57 = .ok (.iinc 4 1, 3) := by decide +kernel
theorem dX12_meanFigure_60 : decode cX12_meanFigure 60 = .ok (.goto (-22), 3) := by decide +kernel
theorem dX12_meanFigure_63 : decode cX12_meanFigure 63 = .ok (.goto (-47), 3) := by decide +kernel
theorem dX12_meanFigure_66 : decode cX12_meanFigure 66 = .ok (.aload_n 0, 1) := by decide +kernel
theorem dX12_meanFigure_67 : decode cX12_meanFigure 67 = .ok (.aload_n 0, 1) := by decide +kernel
theorem dX12_meanFigure_68 : decode cX12_meanFigure 68 = .ok (.getfield 16, 3) := by decide +kernel
theorem dX12_meanFigure_71 : decode cX12_meanFigure 71 = .ok (.invokeinterface 382 1, 5) := by decide +kernel
theorem dX12_meanFigure_76 : decode cX12_meanFigure 76 = .ok (.iconst 1, 1) := by decide +kernel
theorem dX12_meanFigure_77 : decode cX12_meanFigure 77 = .ok (.invokevirtual 67, 3) := by decide +kernel
theorem dX12_meanFigure_80 : decode cX12_meanFigure 80 = .ok (.ifCond .eq 7, 3) := by decide +kernel
theorem dX12_meanFigure_83 : decode cX12_meanFigure 83 = .ok (.dconst 0, 1) := by decide +kernel
theorem dX12_meanFigure_84 : decode cX12_meanFigure 84 = .ok (.goto 12, 3) := by decide +kernel
theorem dX12_meanFigure_87 : decode cX12_meanFigure 87 = .ok (.iload_n 1, 1) := by decide +kernel
theorem dX12_meanFigure_88 : decode cX12_meanFigure 88 = .ok (.i2d, 1) := by decide +kernel
theorem dX12_meanFigure_89 : decode cX12_meanFigure 89 = .ok (.aload_n 0, 1) := by decide +kernel
theorem dX12_meanFigure_90 : decode cX12_meanFigure 90 = .ok (.iconst 0, 1) := by decide +kernel
theorem dX12_meanFigure_91 : decode cX12_meanFigure 91 = .ok (.invokevirtual 385, 3) := by decide +kernel
theorem dX12_meanFigure_94 : decode cX12_meanFigure 94 = .ok (.i2d, 1) := by decide +kernel
theorem dX12_meanFigure_95 : decode cX12_meanFigure 95 = .ok (.ddiv, 1) := by decide +kernel
theorem dX12_meanFigure_96 : decode cX12_meanFigure 96 = .ok (.dreturn, 1) := by decide +kernel
theorem dX12_checksum_0 : decode cX12_checksum 0 = .ok (.aload_n 0, 1) := by decide +kernel
theorem dX12_checksum_1 : decode cX12_checksum 1 = .ok (.invokevirtual 48, 3) := by decide +kernel
theorem dX12_checksum_4 : decode cX12_checksum 4 = .ok (.ldc2_w 302, 3) := by decide +kernel
theorem dX12_checksum_7 : decode cX12_checksum 7 = .ok (.lstore_n 1, 1) := by decide +kernel
theorem dX12_checksum_8 : decode cX12_checksum 8 = .ok (.aload_n 0, 1) := by decide +kernel
theorem dX12_checksum_9 : decode cX12_checksum 9 = .ok (.getfield 16, 3) := by decide +kernel
theorem dX12_checksum_12 : decode cX12_checksum 12 = .ok (.invokeinterface 288 1, 5) := by decide +kernel
theorem dX12_checksum_17 : decode cX12_checksum 17 = .ok (.astore_n 3, 1) := by decide +kernel
theorem dX12_checksum_18 : decode cX12_checksum 18 = .ok (.aload_n 3, 1) := by decide +kernel
theorem dX12_checksum_19 : decode cX12_checksum 19 = .ok (.invokeinterface 292 1, 5) := by decide +kernel
theorem dX12_checksum_24 : decode cX12_checksum 24 = .ok (.ifCond .eq 80, 3) := by decide +kernel
theorem dX12_checksum_27 : decode cX12_checksum 27 = .ok (.aload_n 3, 1) := by decide +kernel
theorem dX12_checksum_28 : decode cX12_checksum 28 = .ok (.invokeinterface 298 1, 5) := by decide +kernel
theorem dX12_checksum_33 : decode cX12_checksum 33 = .ok (.checkcast 98, 3) := by decide +kernel
theorem dX12_checksum_36 : decode cX12_checksum 36 = .ok (.astore 4, 2) := by decide +kernel
theorem dX12_checksum_38 : decode cX12_checksum 38 = .ok (.iconst 0, 1) := by decide +kernel
theorem dX12_checksum_39 : decode cX12_checksum 39 = .ok (.istore 5, 2) := by decide +kernel
theorem dX12_checksum_41 : decode cX12_checksum 41 = .ok (.aload 4, 2) := by decide +kernel
theorem dX12_checksum_43 : decode cX12_checksum 43 = .ok (.getfield 103, 3) := by decide +kernel
theorem dX12_checksum_46 : decode cX12_checksum 46 = .ok (.astore 6, 2) := by decide +kernel
theorem dX12_checksum_48 : decode cX12_checksum 48 = .ok (.aload 6, 2) := by decide +kernel
theorem dX12_checksum_50 : decode cX12_checksum 50 = .ok (.arraylength, 1) := by decide +kernel
theorem dX12_checksum_51 : decode cX12_checksum 51 = .ok (.istore 7, 2) := by decide +kernel
theorem dX12_checksum_53 : decode cX12_checksum 53 = .ok (.iconst 0, 1) := by decide +kernel
theorem dX12_checksum_54 : decode cX12_checksum 54 = .ok (.istore 8, 2) := by decide +kernel
theorem dX12_checksum_56 : decode cX12_checksum 56 = .ok (.iload 8, 2) := by decide +kernel
theorem dX12_checksum_58 : decode cX12_checksum 58 = .ok (.iload 7, 2) := by decide +kernel
theorem dX12_checksum_60 : decode cX12_checksum 60 = .ok (.if_icmp .ge 31, 3) := by decide +kernel
theorem dX12_checksum_63 : decode cX12_checksum 63 = .ok (.aload 6, 2) := by decide +kernel
theorem dX12_checksum_65 : decode cX12_checksum 65 = .ok (.iload 8, 2) := by decide +kernel
theorem dX12_checksum_67 : decode cX12_checksum 67 = .ok (.baload, 1) := by decide +kernel
theorem dX12_checksum_68 : decode cX12_checksum 68 = .ok (.istore 9, 2) := by decide +kernel
theorem dX12_checksum_70 : decode cX12_checksum 70 = .ok (.iload 5, 2) := by decide +kernel
theorem dX12_checksum_72 : decode cX12_checksum 72 = .ok (.iload 9, 2) := by decide +kernel
theorem dX12_checksum_74 : decode cX12_checksum 74 = .ok (.ifCond .eq 7, 3) := by decide +kernel
theorem dX12_checksum_77 : decode cX12_checksum 77 = .ok (.iconst 1, 1) := by decide +kernel
theorem dX12_checksum_78 : decode cX12_checksum 78 = .ok (.goto 4, 3) := by decide +kernel
theorem dX12_checksum_81 : decode cX12_checksum 81 = .ok (.iconst 0, 1) := by decide +kernel
theorem dX12_checksum_82 : decode cX12_checksum 82 = .ok (.iadd, 1) := by decide +kernel
theorem dX12_checksum_83 : decode cX12_checksum 83 = .ok (.istore 5, 2) := by decide +kernel
theorem dX12_checksum_85 : decode cX12_checksum 85 = .ok (.iinc 8 1, 3) := by decide +kernel
theorem dX12_checksum_88 : decode cX12_checksum 88 = .ok (.goto (-32), 3) := by decide +kernel
theorem dX12_checksum_91 : decode cX12_checksum 91 = .ok (.ldc2_w 389, 3) := by decide +kernel
theorem dX12_checksum_94 : decode cX12_checksum 94 = .ok (.lload_n 1, 1) := by decide +kernel
theorem dX12_checksum_95 : decode cX12_checksum 95 = .ok (.lmul, 1) := by decide +kernel
theorem dX12_checksum_96 : decode cX12_checksum 96 = .ok (.iload 5, 2) := by decide +kernel
theorem dX12_checksum_98 : decode cX12_checksum 98 = .ok (.i2l, 1) := by decide +kernel
theorem dX12_checksum_99 : decode cX12_checksum 99 = .ok (.ladd, 1) := by decide +kernel
theorem dX12_checksum_100 : decode cX12_checksum 100 = .ok (.lstore_n 1, 1) := by decide +kernel
theorem dX12_checksum_101 : decode cX12_checksum 101 = .ok (.goto (-83), 3) := by decide +kernel
theorem dX12_checksum_104 : decode cX12_checksum 104 = .ok (.aload_n 0, 1) := by decide +kernel
theorem dX12_checksum_105 : decode cX12_checksum 105 = .ok (.getfield 19, 3) := by decide +kernel
theorem dX12_checksum_108 : decode cX12_checksum 108 = .ok (.invokeinterface 288 1, 5) := by decide +kernel
theorem dX12_checksum_113 : decode cX12_checksum 113 = .ok (.astore_n 3, 1) := by decide +kernel
theorem dX12_checksum_114 : decode cX12_checksum 114 = .ok (.aload_n 3, 1) := by decide +kernel
theorem dX12_checksum_115 : decode cX12_checksum 115 = .ok (.invokeinterface 292 1, 5) := by decide +kernel
theorem dX12_checksum_120 : decode cX12_checksum 120 = .ok (.ifCond .eq 30, 3) := by decide +kernel
theorem dX12_checksum_123 : decode cX12_checksum 123 = .ok (.aload_n 3, 1) := by decide +kernel
theorem dX12_checksum_124 : decode cX12_checksum 124 = .ok (.invokeinterface 298 1, 5) := by decide +kernel
theorem dX12_checksum_129 : decode cX12_checksum 129 = .ok (.checkcast 129, 3) := by decide +kernel
theorem dX12_checksum_132 : decode cX12_checksum 132 = .ok (.astore 4, 2) := by decide +kernel
theorem dX12_checksum_134 : decode cX12_checksum 134 = .ok (.ldc2_w 389, 3) := by decide +kernel
theorem dX12_checksum_137 : decode cX12_checksum 137 = .ok (.lload_n 1, 1) := by decide +kernel
theorem dX12_checksum_138 : decode cX12_checksum 138 = .ok (.lmul, 1) := by decide +kernel
theorem dX12_checksum_139 : decode cX12_checksum 139 = .ok (.aload 4, 2) := by decide +kernel
theorem dX12_checksum_141 : decode cX12_checksum 141 = .ok (.invokestatic 378, 3) := by decide +kernel
theorem dX12_checksum_144 : decode cX12_checksum 144 = .ok (.i2l, 1) := by decide +kernel
theorem dX12_checksum_145 : decode cX12_checksum 145 = .ok (.ladd, 1) := by decide +kernel
theorem dX12_checksum_146 : decode cX12_checksum 146 = .ok (.lstore_n 1, 1) := by decide +kernel
theorem dX12_checksum_147 : decode cX12_checksum 147 = .ok (.goto (-33), 3) := by decide +kernel
theorem dX12_checksum_150 : decode cX12_checksum 150 = .ok (.aload_n 0, 1) := by decide +kernel
theorem dX12_checksum_151 : decode cX12_checksum 151 = .ok (.getfield 32, 3) := by decide +kernel
theorem dX12_checksum_154 : decode cX12_checksum 154 = .ok (.invokeinterface 288 1, 5) := by decide +kernel
theorem dX12_checksum_159 : decode cX12_checksum 159 = .ok (.astore_n 3, 1) := by decide +kernel
theorem dX12_checksum_160 : decode cX12_checksum 160 = .ok (.aload_n 3, 1) := by decide +kernel
theorem dX12_checksum_161 : decode cX12_checksum 161 = .ok (.invokeinterface 292 1, 5) := by decide +kernel
theorem dX12_checksum_166 : decode cX12_checksum 166 = .ok (.ifCond .eq 33, 3) := by decide +kernel
theorem dX12_checksum_169 : decode cX12_checksum 169 = .ok (.aload_n 3, 1) := by decide +kernel
theorem dX12_checksum_170 : decode cX12_checksum 170 = .ok (.invokeinterface 298 1, 5) := by decide +kernel
theorem dX12_checksum_175 : decode cX12_checksum 175 = .ok (.checkcast 304, 3) := by decide +kernel
theorem dX12_checksum_178 : decode cX12_checksum 178 = .ok (.astore 4, 2) := by decide +kernel
theorem dX12_checksum_180 : decode cX12_checksum 180 = .ok (.ldc2_w 389, 3) := by decide +kernel
theorem dX12_checksum_183 : decode cX12_checksum 183 = .ok (.lload_n 1, 1) := by decide +kernel
theorem dX12_checksum_184 : decode cX12_checksum 184 = .ok (.lmul, 1) := by decide +kernel
theorem dX12_checksum_185 : decode cX12_checksum 185 = .ok (.aload 4, 2) := by decide +kernel
theorem dX12_checksum_187 : decode cX12_checksum 187 = .ok (.invokevirtual 320, 3) := by decide +kernel
theorem dX12_checksum_190 : decode cX12_checksum 190 = .ok (.invokestatic 324, 3) := by decide +kernel
theorem dX12_checksum_193 : decode cX12_checksum 193 = .ok (.i2l, 1) := by decide +kernel
theorem dX12_checksum_194 : decode cX12_checksum 194 = .ok (.ladd, 1) := by decide +kernel
theorem dX12_checksum_195 : decode cX12_checksum 195 = .ok (.lstore_n 1, 1) := by decide +kernel
theorem dX12_checksum_196 : decode cX12_checksum 196 = .ok (.goto (-36), 3) := by decide +kernel
theorem dX12_checksum_199 : decode cX12_checksum 199 = .ok (.ldc2_w 389, 3) := by decide +kernel
theorem dX12_checksum_202 : decode cX12_checksum 202 = .ok (.lload_n 1, 1) := by decide +kernel
theorem dX12_checksum_203 : decode cX12_checksum 203 = .ok (.lmul, 1) := by decide +kernel
theorem dX12_checksum_204 : decode cX12_checksum 204 = .ok (.aload_n 0, 1) := by decide +kernel
theorem dX12_checksum_205 : decode cX12_checksum 205 = .ok (.getfield 168, 3) := by decide +kernel
theorem dX12_checksum_208 : decode cX12_checksum 208 = .ok (.i2l, 1) := by decide +kernel
theorem dX12_checksum_209 : decode cX12_checksum 209 = .ok (.ladd, 1) := by decide +kernel
theorem dX12_checksum_210 : decode cX12_checksum 210 = .ok (.lreturn, 1) := by decide +kernel
theorem dX12_isTrue_0 : decode cX12_isTrue 0 = .ok (.aload_n 0, 1) := by decide +kernel
theorem dX12_isTrue_1 : decode cX12_isTrue 1 = .ok (.invokevirtual 48, 3) := by decide +kernel
theorem dX12_isTrue_4 : decode cX12_isTrue 4 = .ok (.iconst 1, 1) := by decide +kernel
theorem dX12_isTrue_5 : decode cX12_isTrue 5 = .ok (.ireturn, 1) := by decide +kernel
theorem dJx00060_init_a7421_0 : decode cJx00060_init_a7421 0 = .ok (.aload_n 0, 1) := by decide +kernel
theorem dJx00060_init_a7421_1 : decode cJx00060_init_a7421 1 = .ok (.aload_n 1, 1) := by decide +kernel
theorem dJx00060_init_a7421_2 : decode cJx00060_init_a7421 2 = .ok (.invokespecial 7, 3) := by decide +kernel
theorem dJx00060_init_a7421_5 : decode cJx00060_init_a7421 5 = .ok (.return_, 1) := by decide +kernel
theorem dJ11_isValidCodePoint_9a6ad_0 : decode cJ11_isValidCodePoint_9a6ad 0 = .ok (.iload_n 0, 1) := by decide +kernel
theorem dJ11_isValidCodePoint_9a6ad_1 : decode cJ11_isValidCodePoint_9a6ad 1 = .ok (.bipush 16, 2) := by decide +kernel
theorem dJ11_isValidCodePoint_9a6ad_3 : decode cJ11_isValidCodePoint_9a6ad 3 = .ok (.iushr, 1) := by decide +kernel
theorem dJ11_isValidCodePoint_9a6ad_4 : decode cJ11_isValidCodePoint_9a6ad 4 = .ok (.istore_n 1, 1) := by decide +kernel
theorem dJ11_isValidCodePoint_9a6ad_5 : decode cJ11_isValidCodePoint_9a6ad 5 = .ok (.iload_n 1, 1) := by decide +kernel
theorem dJ11_isValidCodePoint_9a6ad_6 : decode cJ11_isValidCodePoint_9a6ad 6 = .ok (.bipush 17, 2) := by decide +kernel
theorem dJ11_isValidCodePoint_9a6ad_8 : decode cJ11_isValidCodePoint_9a6ad 8 = .ok (.if_icmp .ge 7, 3) := by decide +kernel
theorem dJ11_isValidCodePoint_9a6ad_11 : decode cJ11_isValidCodePoint_9a6ad 11 = .ok (.iconst 1, 1) := by decide +kernel
theorem dJ11_isValidCodePoint_9a6ad_12 : decode cJ11_isValidCodePoint_9a6ad 12 = .ok (.goto 4, 3) := by decide +kernel
theorem dJ11_isValidCodePoint_9a6ad_15 : decode cJ11_isValidCodePoint_9a6ad 15 = .ok (.iconst 0, 1) := by decide +kernel
theorem dJ11_isValidCodePoint_9a6ad_16 : decode cJ11_isValidCodePoint_9a6ad 16 = .ok (.ireturn, 1) := by decide +kernel
theorem dJ11_highSurrogate_5068e_0 : decode cJ11_highSurrogate_5068e 0 = .ok (.iload_n 0, 1) := by decide +kernel
theorem dJ11_highSurrogate_5068e_1 : decode cJ11_highSurrogate_5068e 1 = .ok (.bipush 10, 2) := by decide +kernel
theorem dJ11_highSurrogate_5068e_3 : decode cJ11_highSurrogate_5068e 3 = .ok (.iushr, 1) := by decide +kernel
theorem dJ11_highSurrogate_5068e_4 : decode cJ11_highSurrogate_5068e 4 = .ok (.ldc 110, 2) := by decide +kernel
theorem dJ11_highSurrogate_5068e_6 : decode cJ11_highSurrogate_5068e 6 = .ok (.iadd, 1) := by decide +kernel
theorem dJ11_highSurrogate_5068e_7 : decode cJ11_highSurrogate_5068e 7 = .ok (.i2c, 1) := by decide +kernel
theorem dJ11_highSurrogate_5068e_8 : decode cJ11_highSurrogate_5068e 8 = .ok (.ireturn, 1) := by decide +kernel
theorem dJ11_lowSurrogate_5068e_0 : decode cJ11_lowSurrogate_5068e 0 = .ok (.iload_n 0, 1) := by decide +kernel
theorem dJ11_lowSurrogate_5068e_1 : decode cJ11_lowSurrogate_5068e 1 = .ok (.sipush 1023, 3) := by decide +kernel
theorem dJ11_lowSurrogate_5068e_4 : decode cJ11_lowSurrogate_5068e 4 = .ok (.iand, 1) := by decide +kernel
theorem dJ11_lowSurrogate_5068e_5 : decode cJ11_lowSurrogate_5068e 5 = .ok (.ldc 76, 2) := by decide +kernel
theorem dJ11_lowSurrogate_5068e_7 : decode cJ11_lowSurrogate_5068e 7 = .ok (.iadd, 1) := by decide +kernel
theorem dJ11_lowSurrogate_5068e_8 : decode cJ11_lowSurrogate_5068e 8 = .ok (.i2c, 1) := by decide +kernel
theorem dJ11_lowSurrogate_5068e_9 : decode cJ11_lowSurrogate_5068e 9 = .ok (.ireturn, 1) := by decide +kernel
theorem dJ6_valueOf_2dffe_0 : decode cJ6_valueOf_2dffe 0 = .ok (.iload_n 0, 1) := by decide +kernel
theorem dJ6_valueOf_2dffe_1 : decode cJ6_valueOf_2dffe 1 = .ok (.bipush (-128), 2) := by decide +kernel
theorem dJ6_valueOf_2dffe_3 : decode cJ6_valueOf_2dffe 3 = .ok (.if_icmp .lt 20, 3) := by decide +kernel
theorem dJ6_valueOf_2dffe_6 : decode cJ6_valueOf_2dffe 6 = .ok (.iload_n 0, 1) := by decide +kernel
theorem dJ6_valueOf_2dffe_7 : decode cJ6_valueOf_2dffe 7 = .ok (.getstatic 191, 3) := by decide +kernel
theorem dJ6_valueOf_2dffe_10 : decode cJ6_valueOf_2dffe 10 = .ok (.if_icmp .gt 13, 3) := by decide +kernel
theorem dJ6_valueOf_2dffe_13 : decode cJ6_valueOf_2dffe 13 = .ok (.getstatic 195, 3) := by decide +kernel
theorem dJ6_valueOf_2dffe_16 : decode cJ6_valueOf_2dffe 16 = .ok (.iload_n 0, 1) := by decide +kernel
theorem dJ6_valueOf_2dffe_17 : decode cJ6_valueOf_2dffe 17 = .ok (.sipush 128, 3) := by decide +kernel
theorem dJ6_valueOf_2dffe_20 : decode cJ6_valueOf_2dffe 20 = .ok (.iadd, 1) := by decide +kernel
theorem dJ6_valueOf_2dffe_21 : decode cJ6_valueOf_2dffe 21 = .ok (.aaload, 1) := by decide +kernel
theorem dJ6_valueOf_2dffe_22 : decode cJ6_valueOf_2dffe 22 = .ok (.areturn, 1) := by decide +kernel
theorem dJ6_valueOf_2dffe_23 : decode cJ6_valueOf_2dffe 23 = .ok (.new 1, 3) := by decide +kernel
theorem dJ6_valueOf_2dffe_26 : decode cJ6_valueOf_2dffe 26 = .ok (.dup, 1) := by decide +kernel
theorem dJ6_valueOf_2dffe_27 : decode cJ6_valueOf_2dffe 27 = .ok (.iload_n 0, 1) := by decide +kernel
theorem dJ6_valueOf_2dffe_28 : decode cJ6_valueOf_2dffe 28 = .ok (.invokespecial 199, 3) := by decide +kernel
theorem dJ6_valueOf_2dffe_31 : decode cJ6_valueOf_2dffe 31 = .ok (.areturn, 1) := by decide +kernel
theorem dJ6_init_d00df_0 : decode cJ6_init_d00df 0 = .ok (.aload_n 0, 1) := by decide +kernel
theorem dJ6_init_d00df_1 : decode cJ6_init_d00df 1 = .ok (.invokespecial 202, 3) := by decide +kernel
theorem dJ6_init_d00df_4 : decode cJ6_init_d00df 4 = .ok (.aload_n 0, 1) := by decide +kernel
theorem dJ6_init_d00df_5 : decode cJ6_init_d00df 5 = .ok (.iload_n 1, 1) := by decide +kernel
theorem dJ6_init_d00df_6 : decode cJ6_init_d00df 6 = .ok (.putfield 205, 3) := by decide +kernel
theorem dJ6_init_d00df_9 : decode cJ6_init_d00df 9 = .ok (.return_, 1) := by decide +kernel
theorem dJ6_intValue_8abf5_0 : decode cJ6_intValue_8abf5 0 = .ok (.aload_n 0, 1) := by decide +kernel
theorem dJ6_intValue_8abf5_1 : decode cJ6_intValue_8abf5 1 = .ok (.getfield 205, 3) := by decide +kernel
theorem dJ6_intValue_8abf5_4 : decode cJ6_intValue_8abf5 4 = .ok (.ireturn, 1) := by decide +kernel
theorem dJ9_abs_0f7a4_0 : decode cJ9_abs_0f7a4 0 = .ok (.iload_n 0, 1) := by decide +kernel
theorem dJ9_abs_0f7a4_1 : decode cJ9_abs_0f7a4 1 = .ok (.ifCond .ge 8, 3) := by decide +kernel
theorem dJ9_abs_0f7a4_4 : decode cJ9_abs_0f7a4 4 = .ok (.iload_n 0, 1) := by decide +kernel
theorem dJ9_abs_0f7a4_5 : decode cJ9_abs_0f7a4 5 = .ok (.ineg, 1) := by decide +kernel
theorem dJ9_abs_0f7a4_6 : decode cJ9_abs_0f7a4 6 = .ok (.goto 4, 3) := by decide +kernel
theorem dJ9_abs_0f7a4_9 : decode cJ9_abs_0f7a4 9 = .ok (.iload_n 0, 1) := by decide +kernel
theorem dJ9_abs_0f7a4_10 : decode cJ9_abs_0f7a4 10 = .ok (.ireturn, 1) := by decide +kernel
theorem dJ9_max_7cf53_0 : decode cJ9_max_7cf53 0 = .ok (.iload_n 0, 1) := by decide +kernel
theorem dJ9_max_7cf53_1 : decode cJ9_max_7cf53 1 = .ok (.iload_n 1, 1) := by decide +kernel
theorem dJ9_max_7cf53_2 : decode cJ9_max_7cf53 2 = .ok (.if_icmp .lt 7, 3) := by decide +kernel
theorem dJ9_max_7cf53_5 : decode cJ9_max_7cf53 5 = .ok (.iload_n 0, 1) := by decide +kernel
theorem dJ9_max_7cf53_6 : decode cJ9_max_7cf53 6 = .ok (.goto 4, 3) := by decide +kernel
theorem dJ9_max_7cf53_9 : decode cJ9_max_7cf53 9 = .ok (.iload_n 1, 1) := by decide +kernel
theorem dJ9_max_7cf53_10 : decode cJ9_max_7cf53 10 = .ok (.ireturn, 1) := by decide +kernel
theorem dJ9_min_7cf53_0 : decode cJ9_min_7cf53 0 = .ok (.iload_n 0, 1) := by decide +kernel
theorem dJ9_min_7cf53_1 : decode cJ9_min_7cf53 1 = .ok (.iload_n 1, 1) := by decide +kernel
theorem dJ9_min_7cf53_2 : decode cJ9_min_7cf53 2 = .ok (.if_icmp .gt 7, 3) := by decide +kernel
theorem dJ9_min_7cf53_5 : decode cJ9_min_7cf53 5 = .ok (.iload_n 0, 1) := by decide +kernel
theorem dJ9_min_7cf53_6 : decode cJ9_min_7cf53 6 = .ok (.goto 4, 3) := by decide +kernel
theorem dJ9_min_7cf53_9 : decode cJ9_min_7cf53 9 = .ok (.iload_n 1, 1) := by decide +kernel
theorem dJ9_min_7cf53_10 : decode cJ9_min_7cf53 10 = .ok (.ireturn, 1) := by decide +kernel
theorem dJxd2413_init_da8c8_0 : decode cJxd2413_init_da8c8 0 = .ok (.aload_n 0, 1) := by decide +kernel
theorem dJxd2413_init_da8c8_1 : decode cJxd2413_init_da8c8 1 = .ok (.invokespecial 1, 3) := by decide +kernel
theorem dJxd2413_init_da8c8_4 : decode cJxd2413_init_da8c8 4 = .ok (.return_, 1) := by decide +kernel
theorem dJ0_length_8abf5_0 : decode cJ0_length_8abf5 0 = .ok (.aload_n 0, 1) := by decide +kernel
theorem dJ0_length_8abf5_1 : decode cJ0_length_8abf5 1 = .ok (.getfield 9, 3) := by decide +kernel
theorem dJ0_length_8abf5_4 : decode cJ0_length_8abf5 4 = .ok (.arraylength, 1) := by decide +kernel
theorem dJ0_length_8abf5_5 : decode cJ0_length_8abf5 5 = .ok (.aload_n 0, 1) := by decide +kernel
theorem dJ0_length_8abf5_6 : decode cJ0_length_8abf5 6 = .ok (.invokevirtual 335, 3) := by decide +kernel
theorem dJ0_length_8abf5_9 : decode cJ0_length_8abf5 9 = .ok (.ishr, 1) := by decide +kernel
theorem dJ0_length_8abf5_10 : decode cJ0_length_8abf5 10 = .ok (.ireturn, 1) := by decide +kernel
theorem dJ0_indexOf_0f7a4_0 : decode cJ0_indexOf_0f7a4 0 = .ok (.aload_n 0, 1) := by decide +kernel
theorem dJ0_indexOf_0f7a4_1 : decode cJ0_indexOf_0f7a4 1 = .ok (.iload_n 1, 1) := by decide +kernel
theorem dJ0_indexOf_0f7a4_2 : decode cJ0_indexOf_0f7a4 2 = .ok (.iconst 0, 1) := by decide +kernel
theorem dJ0_indexOf_0f7a4_3 : decode cJ0_indexOf_0f7a4 3 = .ok (.invokevirtual 633, 3) := by decide +kernel
theorem dJ0_indexOf_0f7a4_6 : decode cJ0_indexOf_0f7a4 6 = .ok (.ireturn, 1) := by decide +kernel
theorem dJ0_indexOf_7cf53_0 : decode cJ0_indexOf_7cf53 0 = .ok (.aload_n 0, 1) := by decide +kernel
theorem dJ0_indexOf_7cf53_1 : decode cJ0_indexOf_7cf53 1 = .ok (.invokevirtual 492, 3) := by decide +kernel
theorem dJ0_indexOf_7cf53_4 : decode cJ0_indexOf_7cf53 4 = .ok (.ifCond .eq 19, 3) := by decide +kernel
theorem dJ0_indexOf_7cf53_7 : decode cJ0_indexOf_7cf53 7 = .ok (.aload_n 0, 1) := by decide +kernel
theorem dJ0_indexOf_7cf53_8 : decode cJ0_indexOf_7cf53 8 = .ok (.getfield 9, 3) := by decide +kernel
theorem dJ0_indexOf_7cf53_11 : decode cJ0_indexOf_7cf53 11 = .ok (.iload_n 1, 1) := by decide +kernel
theorem dJ0_indexOf_7cf53_12 : decode cJ0_indexOf_7cf53 12 = .ok (.iload_n 2, 1) := by decide +kernel
theorem dJ0_indexOf_7cf53_13 : decode cJ0_indexOf_7cf53 13 = .ok (.aload_n 0, 1) := by decide +kernel
theorem dJ0_indexOf_7cf53_14 : decode cJ0_indexOf_7cf53 14 = .ok (.invokevirtual 505, 3) := by decide +kernel
theorem dJ0_indexOf_7cf53_17 : decode cJ0_indexOf_7cf53 17 = .ok (.invokestatic 637, 3) := by decide +kernel
theorem dJ0_indexOf_7cf53_20 : decode cJ0_indexOf_7cf53 20 = .ok (.goto 16, 3) := by decide +kernel
theorem dJ0_indexOf_7cf53_23 : decode cJ0_indexOf_7cf53 23 = .ok (.aload_n 0, 1) := by decide +kernel
theorem dJ0_indexOf_7cf53_24 : decode cJ0_indexOf_7cf53 24 = .ok (.getfield 9, 3) := by decide +kernel
theorem dJ0_indexOf_7cf53_27 : decode cJ0_indexOf_7cf53 27 = .ok (.iload_n 1, 1) := by decide +kernel
theorem dJ0_indexOf_7cf53_28 : decode cJ0_indexOf_7cf53 28 = .ok (.iload_n 2, 1) := by decide +kernel
theorem dJ0_indexOf_7cf53_29 : decode cJ0_indexOf_7cf53 29 = .ok (.aload_n 0, 1) := by decide +kernel
theorem dJ0_indexOf_7cf53_30 : decode cJ0_indexOf_7cf53 30 = .ok (.invokevirtual 505, 3) := by decide +kernel
theorem dJ0_indexOf_7cf53_33 : decode cJ0_indexOf_7cf53 33 = .ok (.invokestatic 640, 3) := by decide +kernel
theorem dJ0_indexOf_7cf53_36 : decode cJ0_indexOf_7cf53 36 = .ok (.ireturn, 1) := by decide +kernel
theorem dJ0_coder_7d493_0 : decode cJ0_coder_7d493 0 = .ok (.getstatic 38, 3) := by decide +kernel
theorem dJ0_coder_7d493_3 : decode cJ0_coder_7d493 3 = .ok (.ifCond .eq 10, 3) := by decide +kernel
theorem dJ0_coder_7d493_6 : decode cJ0_coder_7d493 6 = .ok (.aload_n 0, 1) := by decide +kernel
theorem dJ0_coder_7d493_7 : decode cJ0_coder_7d493 7 = .ok (.getfield 15, 3) := by decide +kernel
theorem dJ0_coder_7d493_10 : decode cJ0_coder_7d493 10 = .ok (.goto 4, 3) := by decide +kernel
theorem dJ0_coder_7d493_13 : decode cJ0_coder_7d493 13 = .ok (.iconst 1, 1) := by decide +kernel
theorem dJ0_coder_7d493_14 : decode cJ0_coder_7d493 14 = .ok (.ireturn, 1) := by decide +kernel
theorem dJ0_isLatin1_aae02_0 : decode cJ0_isLatin1_aae02 0 = .ok (.getstatic 38, 3) := by decide +kernel
theorem dJ0_isLatin1_aae02_3 : decode cJ0_isLatin1_aae02 3 = .ok (.ifCond .eq 14, 3) := by decide +kernel
theorem dJ0_isLatin1_aae02_6 : decode cJ0_isLatin1_aae02 6 = .ok (.aload_n 0, 1) := by decide +kernel
theorem dJ0_isLatin1_aae02_7 : decode cJ0_isLatin1_aae02 7 = .ok (.getfield 15, 3) := by decide +kernel
theorem dJ0_isLatin1_aae02_10 : decode cJ0_isLatin1_aae02 10 = .ok (.ifCond .ne 7, 3) := by decide +kernel
theorem dJ0_isLatin1_aae02_13 : decode cJ0_isLatin1_aae02 13 = .ok (.iconst 1, 1) := by decide +kernel
theorem dJ0_isLatin1_aae02_14 : decode cJ0_isLatin1_aae02 14 = .ok (.goto 4, 3) := by decide +kernel
theorem dJ0_isLatin1_aae02_17 : decode cJ0_isLatin1_aae02 17 = .ok (.iconst 0, 1) := by decide +kernel
theorem dJ0_isLatin1_aae02_18 : decode cJ0_isLatin1_aae02 18 = .ok (.ireturn, 1) := by decide +kernel
theorem dJ0_checkBoundsBeginEnd_23922_0 : decode cJ0_checkBoundsBeginEnd_23922 0 = .ok (.iload_n 0, 1) := by decide +kernel
theorem dJ0_checkBoundsBeginEnd_23922_1 : decode cJ0_checkBoundsBeginEnd_23922 1 = .ok (.iload_n 1, 1) := by decide +kernel
theorem dJ0_checkBoundsBeginEnd_23922_2 : decode cJ0_checkBoundsBeginEnd_23922 2 = .ok (.iload_n 2, 1) := by decide +kernel
theorem dJ0_checkBoundsBeginEnd_23922_3 : decode cJ0_checkBoundsBeginEnd_23922 3 = .ok (.getstatic 1053, 3) := by decide +kernel
theorem dJ0_checkBoundsBeginEnd_23922_6 : decode cJ0_checkBoundsBeginEnd_23922 6 = .ok (.invokestatic 1062, 3) := by decide +kernel
theorem dJ0_checkBoundsBeginEnd_23922_9 : decode cJ0_checkBoundsBeginEnd_23922 9 = .ok (.pop, 1) := by decide +kernel
theorem dJ0_checkBoundsBeginEnd_23922_10 : decode cJ0_checkBoundsBeginEnd_23922 10 = .ok (.return_, 1) := by decide +kernel
theorem dJ1_canEncode_9a6ad_0 : decode cJ1_canEncode_9a6ad 0 = .ok (.iload_n 0, 1) := by decide +kernel
theorem dJ1_canEncode_9a6ad_1 : decode cJ1_canEncode_9a6ad 1 = .ok (.ifCond .lt 14, 3) := by decide +kernel
theorem dJ1_canEncode_9a6ad_4 : decode cJ1_canEncode_9a6ad 4 = .ok (.iload_n 0, 1) := by decide +kernel
theorem dJ1_canEncode_9a6ad_5 : decode cJ1_canEncode_9a6ad 5 = .ok (.sipush 255, 3) := by decide +kernel
theorem dJ1_canEncode_9a6ad_8 : decode cJ1_canEncode_9a6ad 8 = .ok (.if_icmp .gt 7, 3) := by decide +kernel
theorem dJ1_canEncode_9a6ad_11 : decode cJ1_canEncode_9a6ad 11 = .ok (.iconst 1, 1) := by decide +kernel
theorem dJ1_canEncode_9a6ad_12 : decode cJ1_canEncode_9a6ad 12 = .ok (.goto 4, 3) := by decide +kernel
theorem dJ1_canEncode_9a6ad_15 : decode cJ1_canEncode_9a6ad 15 = .ok (.iconst 0, 1) := by decide +kernel
theorem dJ1_canEncode_9a6ad_16 : decode cJ1_canEncode_9a6ad 16 = .ok (.ireturn, 1) := by decide +kernel
theorem dJ1_indexOf_4cfef_0 : decode cJ1_indexOf_4cfef 0 = .ok (.iload_n 1, 1) := by decide +kernel
theorem dJ1_indexOf_4cfef_1 : decode cJ1_indexOf_4cfef 1 = .ok (.invokestatic 88, 3) := by decide +kernel
theorem dJ1_indexOf_4cfef_4 : decode cJ1_indexOf_4cfef 4 = .ok (.ifCond .ne 5, 3) := by decide +kernel
theorem dJ1_indexOf_4cfef_7 : decode cJ1_indexOf_4cfef 7 = .ok (.iconst (-1), 1) := by decide +kernel
theorem dJ1_indexOf_4cfef_8 : decode cJ1_indexOf_4cfef 8 = .ok (.ireturn, 1) := by decide +kernel
theorem dJ1_indexOf_4cfef_9 : decode cJ1_indexOf_4cfef 9 = .ok (.iload_n 2, 1) := by decide +kernel
theorem dJ1_indexOf_4cfef_10 : decode cJ1_indexOf_4cfef 10 = .ok (.iconst 0, 1) := by decide +kernel
theorem dJ1_indexOf_4cfef_11 : decode cJ1_indexOf_4cfef 11 = .ok (.invokestatic 92, 3) := by decide +kernel
theorem dJ1_indexOf_4cfef_14 : decode cJ1_indexOf_4cfef 14 = .ok (.istore_n 2, 1) := by decide +kernel
theorem dJ1_indexOf_4cfef_15 : decode cJ1_indexOf_4cfef 15 = .ok (.iload_n 3, 1) := by decide +kernel
theorem dJ1_indexOf_4cfef_16 : decode cJ1_indexOf_4cfef 16 = .ok (.aload_n 0, 1) := by decide +kernel
theorem dJ1_indexOf_4cfef_17 : decode cJ1_indexOf_4cfef 17 = .ok (.arraylength, 1) := by decide +kernel
theorem dJ1_indexOf_4cfef_18 : decode cJ1_indexOf_4cfef 18 = .ok (.invokestatic 38, 3) := by decide +kernel
theorem dJ1_indexOf_4cfef_21 : decode cJ1_indexOf_4cfef 21 = .ok (.istore_n 3, 1) := by decide +kernel
theorem dJ1_indexOf_4cfef_22 : decode cJ1_indexOf_4cfef 22 = .ok (.iload_n 2, 1) := by decide +kernel
theorem dJ1_indexOf_4cfef_23 : decode cJ1_indexOf_4cfef 23 = .ok (.iload_n 3, 1) := by decide +kernel
theorem dJ1_indexOf_4cfef_24 : decode cJ1_indexOf_4cfef 24 = .ok (.if_icmp .lt 5, 3) := by decide +kernel
theorem dJ1_indexOf_4cfef_27 : decode cJ1_indexOf_4cfef 27 = .ok (.iconst (-1), 1) := by decide +kernel
theorem dJ1_indexOf_4cfef_28 : decode cJ1_indexOf_4cfef 28 = .ok (.ireturn, 1) := by decide +kernel
theorem dJ1_indexOf_4cfef_29 : decode cJ1_indexOf_4cfef 29 = .ok (.aload_n 0, 1) := by decide +kernel
theorem dJ1_indexOf_4cfef_30 : decode cJ1_indexOf_4cfef 30 = .ok (.iload_n 1, 1) := by decide +kernel
theorem dJ1_indexOf_4cfef_31 : decode cJ1_indexOf_4cfef 31 = .ok (.iload_n 2, 1) := by decide +kernel
theorem dJ1_indexOf_4cfef_32 : decode cJ1_indexOf_4cfef 32 = .ok (.iload_n 3, 1) := by decide +kernel
theorem dJ1_indexOf_4cfef_33 : decode cJ1_indexOf_4cfef 33 = .ok (.invokestatic 95, 3) := by decide +kernel
theorem dJ1_indexOf_4cfef_36 : decode cJ1_indexOf_4cfef 36 = .ok (.ireturn, 1) := by decide +kernel
theorem dJ1_indexOfChar_4cfef_0 : decode cJ1_indexOfChar_4cfef 0 = .ok (.iload_n 1, 1) := by decide +kernel
theorem dJ1_indexOfChar_4cfef_1 : decode cJ1_indexOfChar_4cfef 1 = .ok (.i2b, 1) := by decide +kernel
theorem dJ1_indexOfChar_4cfef_2 : decode cJ1_indexOfChar_4cfef 2 = .ok (.istore 4, 2) := by decide +kernel
theorem dJ1_indexOfChar_4cfef_4 : decode cJ1_indexOfChar_4cfef 4 = .ok (.iload_n 2, 1) := by decide +kernel
theorem dJ1_indexOfChar_4cfef_5 : decode cJ1_indexOfChar_4cfef 5 = .ok (.istore 5, 2) := by decide +kernel
theorem dJ1_indexOfChar_4cfef_7 : decode cJ1_indexOfChar_4cfef 7 = .ok (.iload 5, 2) := by decide +kernel
theorem dJ1_indexOfChar_4cfef_9 : decode cJ1_indexOfChar_4cfef 9 = .ok (.iload_n 3, 1) := by decide +kernel
theorem dJ1_indexOfChar_4cfef_10 : decode cJ1_indexOfChar_4cfef 10 = .ok (.if_icmp .ge 21, 3) := by decide +kernel
theorem dJ1_indexOfChar_4cfef_13 : decode cJ1_indexOfChar_4cfef 13 = .ok (.aload_n 0, 1) := by decide +kernel
theorem dJ1_indexOfChar_4cfef_14 : decode cJ1_indexOfChar_4cfef 14 = .ok (.iload 5, 2) := by decide +kernel
theorem dJ1_indexOfChar_4cfef_16 : decode cJ1_indexOfChar_4cfef 16 = .ok (.baload, 1) := by decide +kernel
theorem dJ1_indexOfChar_4cfef_17 : decode cJ1_indexOfChar_4cfef 17 = .ok (.iload 4, 2) := by decide +kernel
theorem dJ1_indexOfChar_4cfef_19 : decode cJ1_indexOfChar_4cfef 19 = .ok (.if_icmp .ne 6, 3) := by decide +kernel
theorem dJ1_indexOfChar_4cfef_22 : decode cJ1_indexOfChar_4cfef 22 = .ok (.iload 5, 2) := by decide +kernel
theorem dJ1_indexOfChar_4cfef_24 : decode cJ1_indexOfChar_4cfef 24 = .ok (.ireturn, 1) := by decide +kernel
theorem dJ1_indexOfChar_4cfef_25 : decode cJ1_indexOfChar_4cfef 25 = .ok (.iinc 5 1, 3) := by decide +kernel
theorem dJ1_indexOfChar_4cfef_28 : decode cJ1_indexOfChar_4cfef 28 = .ok (.goto (-21), 3) := by decide +kernel
theorem dJ1_indexOfChar_4cfef_31 : decode cJ1_indexOfChar_4cfef 31 = .ok (.iconst (-1), 1) := by decide +kernel
theorem dJ1_indexOfChar_4cfef_32 : decode cJ1_indexOfChar_4cfef 32 = .ok (.ireturn, 1) := by decide +kernel
theorem dJ2_getChar_3b067_0 : decode cJ2_getChar_3b067 0 = .ok (.getstatic 44, 3) := by decide +kernel
theorem dJ2_getChar_3b067_3 : decode cJ2_getChar_3b067 3 = .ok (.ifCond .ne 25, 3) := by decide +kernel
theorem dJ2_getChar_3b067_6 : decode cJ2_getChar_3b067 6 = .ok (.iload_n 1, 1) := by decide +kernel
theorem dJ2_getChar_3b067_7 : decode cJ2_getChar_3b067 7 = .ok (.ifCond .lt 11, 3) := by decide +kernel
theorem dJ2_getChar_3b067_10 : decode cJ2_getChar_3b067 10 = .ok (.iload_n 1, 1) := by decide +kernel
theorem dJ2_getChar_3b067_11 : decode cJ2_getChar_3b067 11 = .ok (.aload_n 0, 1) := by decide +kernel
theorem dJ2_getChar_3b067_12 : decode cJ2_getChar_3b067 12 = .ok (.invokestatic 48, 3) := by decide +kernel
theorem dJ2_getChar_3b067_15 : decode cJ2_getChar_3b067 15 = .ok (.if_icmp .lt 13, 3) := by decide +kernel
theorem dJ2_getChar_3b067_18 : decode cJ2_getChar_3b067 18 = .ok (.new 52, 3) := by decide +kernel
theorem dJ2_getChar_3b067_21 : decode cJ2_getChar_3b067 21 = .ok (.dup, 1) := by decide +kernel
theorem dJ2_getChar_3b067_22 : decode cJ2_getChar_3b067 22 = .ok (.ldc 54, 2) := by decide +kernel
theorem dJ2_getChar_3b067_24 : decode cJ2_getChar_3b067 24 = .ok (.invokespecial 56, 3) := by decide +kernel
theorem dJ2_getChar_3b067_27 : decode cJ2_getChar_3b067 27 = .ok (.athrow, 1) := by decide +kernel
theorem dJ2_getChar_3b067_28 : decode cJ2_getChar_3b067 28 = .ok (.iload_n 1, 1) := by decide +kernel
theorem dJ2_getChar_3b067_29 : decode cJ2_getChar_3b067 29 = .ok (.iconst 1, 1) := by decide +kernel
theorem dJ2_getChar_3b067_30 : decode cJ2_getChar_3b067 30 = .ok (.ishl, 1) := by decide +kernel
theorem dJ2_getChar_3b067_31 : decode cJ2_getChar_3b067 31 = .ok (.istore_n 1, 1) := by decide +kernel
theorem dJ2_getChar_3b067_32 : decode cJ2_getChar_3b067 32 = .ok (.aload_n 0, 1) := by decide +kernel
theorem dJ2_getChar_3b067_33 : decode cJ2_getChar_3b067 33 = .ok (.iload_n 1, 1) := by decide +kernel
theorem dJ2_getChar_3b067_34 : decode cJ2_getChar_3b067 34 = .ok (.iinc 1 1, 3) := by decide +kernel
theorem dJ2_getChar_3b067_37 : decode cJ2_getChar_3b067 37 = .ok (.baload, 1) := by decide +kernel
theorem dJ2_getChar_3b067_38 : decode cJ2_getChar_3b067 38 = .ok (.sipush 255, 3) := by decide +kernel
theorem dJ2_getChar_3b067_41 : decode cJ2_getChar_3b067 41 = .ok (.iand, 1) := by decide +kernel
theorem dJ2_getChar_3b067_42 : decode cJ2_getChar_3b067 42 = .ok (.getstatic 59, 3) := by decide +kernel
theorem dJ2_getChar_3b067_45 : decode cJ2_getChar_3b067 45 = .ok (.ishl, 1) := by decide +kernel
theorem dJ2_getChar_3b067_46 : decode cJ2_getChar_3b067 46 = .ok (.aload_n 0, 1) := by decide +kernel
theorem dJ2_getChar_3b067_47 : decode cJ2_getChar_3b067 47 = .ok (.iload_n 1, 1) := by decide +kernel
theorem dJ2_getChar_3b067_48 : decode cJ2_getChar_3b067 48 = .ok (.baload, 1) := by decide +kernel
theorem dJ2_getChar_3b067_49 : decode cJ2_getChar_3b067 49 = .ok (.sipush 255, 3) := by decide +kernel
theorem dJ2_getChar_3b067_52 : decode cJ2_getChar_3b067 52 = .ok (.iand, 1) := by decide +kernel
theorem dJ2_getChar_3b067_53 : decode cJ2_getChar_3b067 53 = .ok (.getstatic 63, 3) := by decide +kernel
theorem dJ2_getChar_3b067_56 : decode cJ2_getChar_3b067 56 = .ok (.ishl, 1) := by decide +kernel
theorem dJ2_getChar_3b067_57 : decode cJ2_getChar_3b067 57 = .ok (.ior, 1) := by decide +kernel
theorem dJ2_getChar_3b067_58 : decode cJ2_getChar_3b067 58 = .ok (.i2c, 1) := by decide +kernel
theorem dJ2_getChar_3b067_59 : decode cJ2_getChar_3b067 59 = .ok (.ireturn, 1) := by decide +kernel
theorem dJ2_length_9d52b_0 : decode cJ2_length_9d52b 0 = .ok (.aload_n 0, 1) := by decide +kernel
theorem dJ2_length_9d52b_1 : decode cJ2_length_9d52b 1 = .ok (.arraylength, 1) := by decide +kernel
theorem dJ2_length_9d52b_2 : decode cJ2_length_9d52b 2 = .ok (.iconst 1, 1) := by decide +kernel
theorem dJ2_length_9d52b_3 : decode cJ2_length_9d52b 3 = .ok (.ishr, 1) := by decide +kernel
theorem dJ2_length_9d52b_4 : decode cJ2_length_9d52b 4 = .ok (.ireturn, 1) := by decide +kernel
theorem dJ2_indexOf_4cfef_0 : decode cJ2_indexOf_4cfef 0 = .ok (.iload_n 2, 1) := by decide +kernel
theorem dJ2_indexOf_4cfef_1 : decode cJ2_indexOf_4cfef 1 = .ok (.iconst 0, 1) := by decide +kernel
theorem dJ2_indexOf_4cfef_2 : decode cJ2_indexOf_4cfef 2 = .ok (.invokestatic 224, 3) := by decide +kernel
theorem dJ2_indexOf_4cfef_5 : decode cJ2_indexOf_4cfef 5 = .ok (.istore_n 2, 1) := by decide +kernel
theorem dJ2_indexOf_4cfef_6 : decode cJ2_indexOf_4cfef 6 = .ok (.iload_n 3, 1) := by decide +kernel
theorem dJ2_indexOf_4cfef_7 : decode cJ2_indexOf_4cfef 7 = .ok (.aload_n 0, 1) := by decide +kernel
theorem dJ2_indexOf_4cfef_8 : decode cJ2_indexOf_4cfef 8 = .ok (.arraylength, 1) := by decide +kernel
theorem dJ2_indexOf_4cfef_9 : decode cJ2_indexOf_4cfef 9 = .ok (.iconst 1, 1) := by decide +kernel
theorem dJ2_indexOf_4cfef_10 : decode cJ2_indexOf_4cfef 10 = .ok (.ishr, 1) := by decide +kernel
theorem dJ2_indexOf_4cfef_11 : decode cJ2_indexOf_4cfef 11 = .ok (.invokestatic 183, 3) := by decide +kernel
theorem dJ2_indexOf_4cfef_14 : decode cJ2_indexOf_4cfef 14 = .ok (.istore_n 3, 1) := by decide +kernel
theorem dJ2_indexOf_4cfef_15 : decode cJ2_indexOf_4cfef 15 = .ok (.iload_n 2, 1) := by decide +kernel
theorem dJ2_indexOf_4cfef_16 : decode cJ2_indexOf_4cfef 16 = .ok (.iload_n 3, 1) := by decide +kernel
theorem dJ2_indexOf_4cfef_17 : decode cJ2_indexOf_4cfef 17 = .ok (.if_icmp .lt 5, 3) := by decide +kernel
theorem dJ2_indexOf_4cfef_20 : decode cJ2_indexOf_4cfef 20 = .ok (.iconst (-1), 1) := by decide +kernel
theorem dJ2_indexOf_4cfef_21 : decode cJ2_indexOf_4cfef 21 = .ok (.ireturn, 1) := by decide +kernel
theorem dJ2_indexOf_4cfef_22 : decode cJ2_indexOf_4cfef 22 = .ok (.iload_n 1, 1) := by decide +kernel
theorem dJ2_indexOf_4cfef_23 : decode cJ2_indexOf_4cfef 23 = .ok (.ldc 227, 2) := by decide +kernel
theorem dJ2_indexOf_4cfef_25 : decode cJ2_indexOf_4cfef 25 = .ok (.if_icmp .ge 11, 3) := by decide +kernel
theorem dJ2_indexOf_4cfef_28 : decode cJ2_indexOf_4cfef 28 = .ok (.aload_n 0, 1) := by decide +kernel
theorem dJ2_indexOf_4cfef_29 : decode cJ2_indexOf_4cfef 29 = .ok (.iload_n 1, 1) := by decide +kernel
theorem dJ2_indexOf_4cfef_30 : decode cJ2_indexOf_4cfef 30 = .ok (.iload_n 2, 1) := by decide +kernel
theorem dJ2_indexOf_4cfef_31 : decode cJ2_indexOf_4cfef 31 = .ok (.iload_n 3, 1) := by decide +kernel
theorem dJ2_indexOf_4cfef_32 : decode cJ2_indexOf_4cfef 32 = .ok (.invokestatic 228, 3) := by decide +kernel
theorem dJ2_indexOf_4cfef_35 : decode cJ2_indexOf_4cfef 35 = .ok (.ireturn, 1) := by decide +kernel
theorem dJ2_indexOf_4cfef_36 : decode cJ2_indexOf_4cfef 36 = .ok (.aload_n 0, 1) := by decide +kernel
theorem dJ2_indexOf_4cfef_37 : decode cJ2_indexOf_4cfef 37 = .ok (.iload_n 1, 1) := by decide +kernel
theorem dJ2_indexOf_4cfef_38 : decode cJ2_indexOf_4cfef 38 = .ok (.iload_n 2, 1) := by decide +kernel
theorem dJ2_indexOf_4cfef_39 : decode cJ2_indexOf_4cfef 39 = .ok (.iload_n 3, 1) := by decide +kernel
theorem dJ2_indexOf_4cfef_40 : decode cJ2_indexOf_4cfef 40 = .ok (.invokestatic 232, 3) := by decide +kernel
theorem dJ2_indexOf_4cfef_43 : decode cJ2_indexOf_4cfef 43 = .ok (.ireturn, 1) := by decide +kernel
theorem dJ2_indexOfChar_4cfef_0 : decode cJ2_indexOfChar_4cfef 0 = .ok (.iload_n 2, 1) := by decide +kernel
theorem dJ2_indexOfChar_4cfef_1 : decode cJ2_indexOfChar_4cfef 1 = .ok (.iload_n 3, 1) := by decide +kernel
theorem dJ2_indexOfChar_4cfef_2 : decode cJ2_indexOfChar_4cfef 2 = .ok (.aload_n 0, 1) := by decide +kernel
theorem dJ2_indexOfChar_4cfef_3 : decode cJ2_indexOfChar_4cfef 3 = .ok (.invokestatic 96, 3) := by decide +kernel
theorem dJ2_indexOfChar_4cfef_6 : decode cJ2_indexOfChar_4cfef 6 = .ok (.aload_n 0, 1) := by decide +kernel
theorem dJ2_indexOfChar_4cfef_7 : decode cJ2_indexOfChar_4cfef 7 = .ok (.iload_n 1, 1) := by decide +kernel
theorem dJ2_indexOfChar_4cfef_8 : decode cJ2_indexOfChar_4cfef 8 = .ok (.iload_n 2, 1) := by decide +kernel
theorem dJ2_indexOfChar_4cfef_9 : decode cJ2_indexOfChar_4cfef 9 = .ok (.iload_n 3, 1) := by decide +kernel
theorem dJ2_indexOfChar_4cfef_10 : decode cJ2_indexOfChar_4cfef 10 = .ok (.invokestatic 244, 3) := by decide +kernel
theorem dJ2_indexOfChar_4cfef_13 : decode cJ2_indexOfChar_4cfef 13 = .ok (.ireturn, 1) := by decide +kernel
theorem dJ2_indexOfCharUnsafe_4cfef_0 : decode cJ2_indexOfCharUnsafe_4cfef 0 = .ok (.iload_n 2, 1) := by decide +kernel
theorem dJ2_indexOfCharUnsafe_4cfef_1 : decode cJ2_indexOfCharUnsafe_4cfef 1 = .ok (.istore 4, 2) := by decide +kernel
theorem dJ2_indexOfCharUnsafe_4cfef_3 : decode cJ2_indexOfCharUnsafe_4cfef 3 = .ok (.iload 4, 2) := by decide +kernel
theorem dJ2_indexOfCharUnsafe_4cfef_5 : decode cJ2_indexOfCharUnsafe_4cfef 5 = .ok (.iload_n 3, 1) := by decide +kernel
theorem dJ2_indexOfCharUnsafe_4cfef_6 : decode cJ2_indexOfCharUnsafe_4cfef 6 = .ok (.if_icmp .ge 22, 3) := by decide +kernel
theorem dJ2_indexOfCharUnsafe_4cfef_9 : decode cJ2_indexOfCharUnsafe_4cfef 9 = .ok (.aload_n 0, 1) := by decide +kernel
theorem dJ2_indexOfCharUnsafe_4cfef_10 : decode cJ2_indexOfCharUnsafe_4cfef 10 = .ok (.iload 4, 2) := by decide +kernel
theorem dJ2_indexOfCharUnsafe_4cfef_12 : decode cJ2_indexOfCharUnsafe_4cfef 12 = .ok (.invokestatic 71, 3) := by decide +kernel
theorem dJ2_indexOfCharUnsafe_4cfef_15 : decode cJ2_indexOfCharUnsafe_4cfef 15 = .ok (.iload_n 1, 1) := by decide +kernel
theorem dJ2_indexOfCharUnsafe_4cfef_16 : decode cJ2_indexOfCharUnsafe_4cfef 16 = .ok (.if_icmp .ne 6, 3) := by decide +kernel
theorem dJ2_indexOfCharUnsafe_4cfef_19 : decode cJ2_indexOfCharUnsafe_4cfef 19 = .ok (.iload 4, 2) := by decide +kernel
theorem dJ2_indexOfCharUnsafe_4cfef_21 : decode cJ2_indexOfCharUnsafe_4cfef 21 = .ok (.ireturn, 1) := by decide +kernel
theorem dJ2_indexOfCharUnsafe_4cfef_22 : decode cJ2_indexOfCharUnsafe_4cfef 22 = .ok (.iinc 4 1, 3) := by decide +kernel
theorem dJ2_indexOfCharUnsafe_4cfef_25 : decode cJ2_indexOfCharUnsafe_4cfef 25 = .ok (.goto (-22), 3) := by decide +kernel
theorem dJ2_indexOfCharUnsafe_4cfef_28 : decode cJ2_indexOfCharUnsafe_4cfef 28 = .ok (.iconst (-1), 1) := by decide +kernel
theorem dJ2_indexOfCharUnsafe_4cfef_29 : decode cJ2_indexOfCharUnsafe_4cfef 29 = .ok (.ireturn, 1) := by decide +kernel
theorem dJ2_indexOfSupplementary_4cfef_0 : decode cJ2_indexOfSupplementary_4cfef 0 = .ok (.iload_n 1, 1) := by decide +kernel
theorem dJ2_indexOfSupplementary_4cfef_1 : decode cJ2_indexOfSupplementary_4cfef 1 = .ok (.invokestatic 164, 3) := by decide +kernel
theorem dJ2_indexOfSupplementary_4cfef_4 : decode cJ2_indexOfSupplementary_4cfef 4 = .ok (.ifCond .eq 65, 3) := by decide +kernel
theorem dJ2_indexOfSupplementary_4cfef_7 : decode cJ2_indexOfSupplementary_4cfef 7 = .ok (.iload_n 1, 1) := by decide +kernel
theorem dJ2_indexOfSupplementary_4cfef_8 : decode cJ2_indexOfSupplementary_4cfef 8 = .ok (.invokestatic 157, 3) := by decide +kernel
theorem dJ2_indexOfSupplementary_4cfef_11 : decode cJ2_indexOfSupplementary_4cfef 11 = .ok (.istore 4, 2) := by decide +kernel
theorem dJ2_indexOfSupplementary_4cfef_13 : decode cJ2_indexOfSupplementary_4cfef 13 = .ok (.iload_n 1, 1) := by decide +kernel
theorem dJ2_indexOfSupplementary_4cfef_14 : decode cJ2_indexOfSupplementary_4cfef 14 = .ok (.invokestatic 161, 3) := by decide +kernel
theorem dJ2_indexOfSupplementary_4cfef_17 : decode cJ2_indexOfSupplementary_4cfef 17 = .ok (.istore 5, 2) := by decide +kernel
theorem dJ2_indexOfSupplementary_4cfef_19 : decode cJ2_indexOfSupplementary_4cfef 19 = .ok (.iload_n 2, 1) := by decide +kernel
theorem dJ2_indexOfSupplementary_4cfef_20 : decode cJ2_indexOfSupplementary_4cfef 20 = .ok (.iload_n 3, 1) := by decide +kernel
theorem dJ2_indexOfSupplementary_4cfef_21 : decode cJ2_indexOfSupplementary_4cfef 21 = .ok (.aload_n 0, 1) := by decide +kernel
theorem dJ2_indexOfSupplementary_4cfef_22 : decode cJ2_indexOfSupplementary_4cfef 22 = .ok (.invokestatic 96, 3) := by decide +kernel
theorem dJ2_indexOfSupplementary_4cfef_25 : decode cJ2_indexOfSupplementary_4cfef 25 = .ok (.iload_n 2, 1) := by decide +kernel
theorem dJ2_indexOfSupplementary_4cfef_26 : decode cJ2_indexOfSupplementary_4cfef 26 = .ok (.istore 6, 2) := by decide +kernel
theorem dJ2_indexOfSupplementary_4cfef_28 : decode cJ2_indexOfSupplementary_4cfef 28 = .ok (.iload 6, 2) := by decide +kernel
theorem dJ2_indexOfSupplementary_4cfef_30 : decode cJ2_indexOfSupplementary_4cfef 30 = .ok (.iload_n 3, 1) := by decide +kernel
theorem dJ2_indexOfSupplementary_4cfef_31 : decode cJ2_indexOfSupplementary_4cfef 31 = .ok (.iconst 1, 1) := by decide +kernel
theorem dJ2_indexOfSupplementary_4cfef_32 : decode cJ2_indexOfSupplementary_4cfef 32 = .ok (.isub, 1) := by decide +kernel
theorem dJ2_indexOfSupplementary_4cfef_33 : decode cJ2_indexOfSupplementary_4cfef 33 = .ok (.if_icmp .ge 36, 3) := by decide +kernel
theorem dJ2_indexOfSupplementary_4cfef_36 : decode cJ2_indexOfSupplementary_4cfef 36 = .ok (.aload_n 0, 1) := by decide +kernel
theorem dJ2_indexOfSupplementary_4cfef_37 : decode cJ2_indexOfSupplementary_4cfef 37 = .ok (.iload 6, 2) := by decide +kernel
theorem dJ2_indexOfSupplementary_4cfef_39 : decode cJ2_indexOfSupplementary_4cfef 39 = .ok (.invokestatic 71, 3) := by decide +kernel
theorem dJ2_indexOfSupplementary_4cfef_42 : decode cJ2_indexOfSupplementary_4cfef 42 = .ok (.iload 4, 2) := by decide +kernel
theorem dJ2_indexOfSupplementary_4cfef_44 : decode cJ2_indexOfSupplementary_4cfef 44 = .ok (.if_icmp .ne 19, 3) := by decide +kernel
theorem dJ2_indexOfSupplementary_4cfef_47 : decode cJ2_indexOfSupplementary_4cfef 47 = .ok (.aload_n 0, 1) := by decide +kernel
theorem dJ2_indexOfSupplementary_4cfef_48 : decode cJ2_indexOfSupplementary_4cfef 48 = .ok (.iload 6, 2) := by decide +kernel
theorem dJ2_indexOfSupplementary_4cfef_50 : decode cJ2_indexOfSupplementary_4cfef 50 = .ok (.iconst 1, 1) := by decide +kernel
theorem dJ2_indexOfSupplementary_4cfef_51 : decode cJ2_indexOfSupplementary_4cfef 51 = .ok (.iadd, 1) := by decide +kernel
theorem dJ2_indexOfSupplementary_4cfef_52 : decode cJ2_indexOfSupplementary_4cfef 52 = .ok (.invokestatic 71, 3) := by decide +kernel
theorem dJ2_indexOfSupplementary_4cfef_55 : decode cJ2_indexOfSupplementary_4cfef 55 = .ok (.iload 5, 2) := by decide +kernel
theorem dJ2_indexOfSupplementary_4cfef_57 : decode cJ2_indexOfSupplementary_4cfef 57 = .ok (.if_icmp .ne 6, 3) := by decide +kernel
theorem dJ2_indexOfSupplementary_4cfef_60 : decode cJ2_indexOfSupplementary_4cfef 60 = .ok (.iload 6, 2) := by decide +kernel
theorem dJ2_indexOfSupplementary_4cfef_62 : decode cJ2_indexOfSupplementary_4cfef 62 = .ok (.ireturn, 1) := by decide +kernel
theorem dJ2_indexOfSupplementary_4cfef_63 : decode cJ2_indexOfSupplementary_4cfef 63 = .ok (.iinc 6 1, 3) := by decide +kernel
theorem dJ2_indexOfSupplementary_4cfef_66 : decode cJ2_indexOfSupplementary_4cfef 66 = .ok (.goto (-38), 3) := by decide +kernel
theorem dJ2_indexOfSupplementary_4cfef_69 : decode cJ2_indexOfSupplementary_4cfef 69 = .ok (.iconst (-1), 1) := by decide +kernel
theorem dJ2_indexOfSupplementary_4cfef_70 : decode cJ2_indexOfSupplementary_4cfef 70 = .ok (.ireturn, 1) := by decide +kernel
theorem dJ2_checkBoundsBeginEnd_d044e_0 : decode cJ2_checkBoundsBeginEnd_d044e 0 = .ok (.iload_n 0, 1) := by decide +kernel
theorem dJ2_checkBoundsBeginEnd_d044e_1 : decode cJ2_checkBoundsBeginEnd_d044e 1 = .ok (.iload_n 1, 1) := by decide +kernel
theorem dJ2_checkBoundsBeginEnd_d044e_2 : decode cJ2_checkBoundsBeginEnd_d044e 2 = .ok (.aload_n 2, 1) := by decide +kernel
theorem dJ2_checkBoundsBeginEnd_d044e_3 : decode cJ2_checkBoundsBeginEnd_d044e 3 = .ok (.invokestatic 48, 3) := by decide +kernel
theorem dJ2_checkBoundsBeginEnd_d044e_6 : decode cJ2_checkBoundsBeginEnd_d044e 6 = .ok (.invokestatic 241, 3) := by decide +kernel
theorem dJ2_checkBoundsBeginEnd_d044e_9 : decode cJ2_checkBoundsBeginEnd_d044e 9 = .ok (.return_, 1) := by decide +kernel
theorem dJxa1e45_init_da8c8_0 : decode cJxa1e45_init_da8c8 0 = .ok (.aload_n 0, 1) := by decide +kernel
theorem dJxa1e45_init_da8c8_1 : decode cJxa1e45_init_da8c8 1 = .ok (.invokespecial 1, 3) := by decide +kernel
theorem dJxa1e45_init_da8c8_4 : decode cJxa1e45_init_da8c8 4 = .ok (.return_, 1) := by decide +kernel
theorem dJxc12de_init_da8c8_0 : decode cJxc12de_init_da8c8 0 = .ok (.aload_n 0, 1) := by decide +kernel
theorem dJxc12de_init_da8c8_1 : decode cJxc12de_init_da8c8 1 = .ok (.invokespecial 1, 3) := by decide +kernel
theorem dJxc12de_init_da8c8_4 : decode cJxc12de_init_da8c8 4 = .ok (.aload_n 0, 1) := by decide +kernel
theorem dJxc12de_init_da8c8_5 : decode cJxc12de_init_da8c8 5 = .ok (.iconst 0, 1) := by decide +kernel
theorem dJxc12de_init_da8c8_6 : decode cJxc12de_init_da8c8 6 = .ok (.putfield 7, 3) := by decide +kernel
theorem dJxc12de_init_da8c8_9 : decode cJxc12de_init_da8c8 9 = .ok (.return_, 1) := by decide +kernel
theorem dJx35411_init_45d68_0 : decode cJx35411_init_45d68 0 = .ok (.aload_n 0, 1) := by decide +kernel
theorem dJx35411_init_45d68_1 : decode cJx35411_init_45d68 1 = .ok (.aload_n 1, 1) := by decide +kernel
theorem dJx35411_init_45d68_2 : decode cJx35411_init_45d68 2 = .ok (.putfield 1, 3) := by decide +kernel
theorem dJx35411_init_45d68_5 : decode cJx35411_init_45d68 5 = .ok (.aload_n 0, 1) := by decide +kernel
theorem dJx35411_init_45d68_6 : decode cJx35411_init_45d68 6 = .ok (.invokespecial 7, 3) := by decide +kernel
theorem dJx35411_init_45d68_9 : decode cJx35411_init_45d68 9 = .ok (.aload_n 0, 1) := by decide +kernel
theorem dJx35411_init_45d68_10 : decode cJx35411_init_45d68 10 = .ok (.iconst (-1), 1) := by decide +kernel
theorem dJx35411_init_45d68_11 : decode cJx35411_init_45d68 11 = .ok (.putfield 13, 3) := by decide +kernel
theorem dJx35411_init_45d68_14 : decode cJx35411_init_45d68 14 = .ok (.aload_n 0, 1) := by decide +kernel
theorem dJx35411_init_45d68_15 : decode cJx35411_init_45d68 15 = .ok (.aload_n 0, 1) := by decide +kernel
theorem dJx35411_init_45d68_16 : decode cJx35411_init_45d68 16 = .ok (.getfield 1, 3) := by decide +kernel
theorem dJx35411_init_45d68_19 : decode cJx35411_init_45d68 19 = .ok (.getfield 17, 3) := by decide +kernel
theorem dJx35411_init_45d68_22 : decode cJx35411_init_45d68 22 = .ok (.putfield 22, 3) := by decide +kernel
theorem dJx35411_init_45d68_25 : decode cJx35411_init_45d68 25 = .ok (.return_, 1) := by decide +kernel
theorem dJx35411_hasNext_aae02_0 : decode cJx35411_hasNext_aae02 0 = .ok (.aload_n 0, 1) := by decide +kernel
theorem dJx35411_hasNext_aae02_1 : decode cJx35411_hasNext_aae02 1 = .ok (.getfield 25, 3) := by decide +kernel
theorem dJx35411_hasNext_aae02_4 : decode cJx35411_hasNext_aae02 4 = .ok (.aload_n 0, 1) := by decide +kernel
theorem dJx35411_hasNext_aae02_5 : decode cJx35411_hasNext_aae02 5 = .ok (.getfield 1, 3) := by decide +kernel
theorem dJx35411_hasNext_aae02_8 : decode cJx35411_hasNext_aae02 8 = .ok (.getfield 28, 3) := by decide +kernel
theorem dJx35411_hasNext_aae02_11 : decode cJx35411_hasNext_aae02 11 = .ok (.if_icmp .eq 7, 3) := by decide +kernel
theorem dJx35411_hasNext_aae02_14 : decode cJx35411_hasNext_aae02 14 = .ok (.iconst 1, 1) := by decide +kernel
theorem dJx35411_hasNext_aae02_15 : decode cJx35411_hasNext_aae02 15 = .ok (.goto 4, 3) := by decide +kernel
theorem dJx35411_hasNext_aae02_18 : decode cJx35411_hasNext_aae02 18 = .ok (.iconst 0, 1) := by decide +kernel
theorem dJx35411_hasNext_aae02_19 : decode cJx35411_hasNext_aae02 19 = .ok (.ireturn, 1) := by decide +kernel
theorem dJx35411_next_0502b_0 : decode cJx35411_next_0502b 0 = .ok (.aload_n 0, 1) := by decide +kernel
theorem dJx35411_next_0502b_1 : decode cJx35411_next_0502b 1 = .ok (.invokevirtual 31, 3) := by decide +kernel
theorem dJx35411_next_0502b_4 : decode cJx35411_next_0502b 4 = .ok (.aload_n 0, 1) := by decide +kernel
theorem dJx35411_next_0502b_5 : decode cJx35411_next_0502b 5 = .ok (.getfield 25, 3) := by decide +kernel
theorem dJx35411_next_0502b_8 : decode cJx35411_next_0502b 8 = .ok (.istore_n 1, 1) := by decide +kernel
theorem dJx35411_next_0502b_9 : decode cJx35411_next_0502b 9 = .ok (.iload_n 1, 1) := by decide +kernel
theorem dJx35411_next_0502b_10 : decode cJx35411_next_0502b 10 = .ok (.aload_n 0, 1) := by decide +kernel
theorem dJx35411_next_0502b_11 : decode cJx35411_next_0502b 11 = .ok (.getfield 1, 3) := by decide +kernel
theorem dJx35411_next_0502b_14 : decode cJx35411_next_0502b 14 = .ok (.getfield 28, 3) := by decide +kernel
theorem dJx35411_next_0502b_17 : decode cJx35411_next_0502b 17 = .ok (.if_icmp .lt 11, 3) := by decide +kernel
theorem dJx35411_next_0502b_20 : decode cJx35411_next_0502b 20 = .ok (.new 34, 3) := by decide +kernel
theorem dJx35411_next_0502b_23 : decode cJx35411_next_0502b 23 = .ok (.dup, 1) := by decide +kernel
theorem dJx35411_next_0502b_24 : decode cJx35411_next_0502b 24 = .ok (.invokespecial 36, 3) := by decide +kernel
theorem dJx35411_next_0502b_27 : decode cJx35411_next_0502b 27 = .ok (.athrow, 1) := by decide +kernel
theorem dJx35411_next_0502b_28 : decode cJx35411_next_0502b 28 = .ok (.aload_n 0, 1) := by decide +kernel
theorem dJx35411_next_0502b_29 : decode cJx35411_next_0502b 29 = .ok (.getfield 1, 3) := by decide +kernel
theorem dJx35411_next_0502b_32 : decode cJx35411_next_0502b 32 = .ok (.getfield 37, 3) := by decide +kernel
theorem dJx35411_next_0502b_35 : decode cJx35411_next_0502b 35 = .ok (.astore_n 2, 1) := by decide +kernel
theorem dJx35411_next_0502b_36 : decode cJx35411_next_0502b 36 = .ok (.iload_n 1, 1) := by decide +kernel
theorem dJx35411_next_0502b_37 : decode cJx35411_next_0502b 37 = .ok (.aload_n 2, 1) := by decide +kernel
theorem dJx35411_next_0502b_38 : decode cJx35411_next_0502b 38 = .ok (.arraylength, 1) := by decide +kernel
theorem dJx35411_next_0502b_39 : decode cJx35411_next_0502b 39 = .ok (.if_icmp .lt 11, 3) := by decide +kernel
theorem dJx35411_next_0502b_42 : decode cJx35411_next_0502b 42 = .ok (.new 41, 3) := by decide +kernel
theorem dJx35411_next_0502b_45 : decode cJx35411_next_0502b 45 = .ok (.dup, 1) := by decide +kernel
theorem dJx35411_next_0502b_46 : decode cJx35411_next_0502b 46 = .ok (.invokespecial 43, 3) := by decide +kernel
theorem dJx35411_next_0502b_49 : decode cJx35411_next_0502b 49 = .ok (.athrow, 1) := by decide +kernel
theorem dJx35411_next_0502b_50 : decode cJx35411_next_0502b 50 = .ok (.aload_n 0, 1) := by decide +kernel
theorem dJx35411_next_0502b_51 : decode cJx35411_next_0502b 51 = .ok (.iload_n 1, 1) := by decide +kernel
theorem dJx35411_next_0502b_52 : decode cJx35411_next_0502b 52 = .ok (.iconst 1, 1) := by decide +kernel
theorem dJx35411_next_0502b_53 : decode cJx35411_next_0502b 53 = .ok (.iadd, 1) := by decide +kernel
theorem dJx35411_next_0502b_54 : decode cJx35411_next_0502b 54 = .ok (.putfield 25, 3) := by decide +kernel
theorem dJx35411_next_0502b_57 : decode cJx35411_next_0502b 57 = .ok (.aload_n 2, 1) := by decide +kernel
theorem dJx35411_next_0502b_58 : decode cJx35411_next_0502b 58 = .ok (.aload_n 0, 1) := by decide +kernel
theorem dJx35411_next_0502b_59 : decode cJx35411_next_0502b 59 = .ok (.iload_n 1, 1) := by decide +kernel
theorem dJx35411_next_0502b_60 : decode cJx35411_next_0502b 60 = .ok (.dup_x1, 1) := by decide +kernel
theorem dJx35411_next_0502b_61 : decode cJx35411_next_0502b 61 = .ok (.putfield 13, 3) := by decide +kernel
theorem dJx35411_next_0502b_64 : decode cJx35411_next_0502b 64 = .ok (.aaload, 1) := by decide +kernel
theorem dJx35411_next_0502b_65 : decode cJx35411_next_0502b 65 = .ok (.areturn, 1) := by decide +kernel
theorem dJx35411_checkForComodification_da8c8_0 : decode cJx35411_checkForComodification_da8c8 0 = .ok (.aload_n 0, 1) := by decide +kernel
theorem dJx35411_checkForComodification_da8c8_1 : decode cJx35411_checkForComodification_da8c8 1 = .ok (.getfield 1, 3) := by decide +kernel
theorem dJx35411_checkForComodification_da8c8_4 : decode cJx35411_checkForComodification_da8c8 4 = .ok (.getfield 17, 3) := by decide +kernel
theorem dJx35411_checkForComodification_da8c8_7 : decode cJx35411_checkForComodification_da8c8 7 = .ok (.aload_n 0, 1) := by decide +kernel
theorem dJx35411_checkForComodification_da8c8_8 : decode cJx35411_checkForComodification_da8c8 8 = .ok (.getfield 22, 3) := by decide +kernel
theorem dJx35411_checkForComodification_da8c8_11 : decode cJx35411_checkForComodification_da8c8 11 = .ok (.if_icmp .eq 11, 3) := by decide +kernel
theorem dJx35411_checkForComodification_da8c8_14 : decode cJx35411_checkForComodification_da8c8 14 = .ok (.new 41, 3) := by decide +kernel
theorem dJx35411_checkForComodification_da8c8_17 : decode cJx35411_checkForComodification_da8c8 17 = .ok (.dup, 1) := by decide +kernel
theorem dJx35411_checkForComodification_da8c8_18 : decode cJx35411_checkForComodification_da8c8 18 = .ok (.invokespecial 43, 3) := by decide +kernel
theorem dJx35411_checkForComodification_da8c8_21 : decode cJx35411_checkForComodification_da8c8 21 = .ok (.athrow, 1) := by decide +kernel
theorem dJx35411_checkForComodification_da8c8_22 : decode cJx35411_checkForComodification_da8c8 22 = .ok (.return_, 1) := by decide +kernel
theorem dJx4a65c_init_da8c8_0 : decode cJx4a65c_init_da8c8 0 = .ok (.aload_n 0, 1) := by decide +kernel
theorem dJx4a65c_init_da8c8_1 : decode cJx4a65c_init_da8c8 1 = .ok (.invokespecial 1, 3) := by decide +kernel
theorem dJx4a65c_init_da8c8_4 : decode cJx4a65c_init_da8c8 4 = .ok (.aload_n 0, 1) := by decide +kernel
theorem dJx4a65c_init_da8c8_5 : decode cJx4a65c_init_da8c8 5 = .ok (.getstatic 39, 3) := by decide +kernel
theorem dJx4a65c_init_da8c8_8 : decode cJx4a65c_init_da8c8 8 = .ok (.putfield 9, 3) := by decide +kernel
theorem dJx4a65c_init_da8c8_11 : decode cJx4a65c_init_da8c8 11 = .ok (.return_, 1) := by decide +kernel
theorem dJx4a65c_grow_92f84_0 : decode cJx4a65c_grow_92f84 0 = .ok (.aload_n 0, 1) := by decide +kernel
theorem dJx4a65c_grow_92f84_1 : decode cJx4a65c_grow_92f84 1 = .ok (.getfield 9, 3) := by decide +kernel
theorem dJx4a65c_grow_92f84_4 : decode cJx4a65c_grow_92f84 4 = .ok (.arraylength, 1) := by decide +kernel
theorem dJx4a65c_grow_92f84_5 : decode cJx4a65c_grow_92f84 5 = .ok (.istore_n 2, 1) := by decide +kernel
theorem dJx4a65c_grow_92f84_6 : decode cJx4a65c_grow_92f84 6 = .ok (.iload_n 2, 1) := by decide +kernel
theorem dJx4a65c_grow_92f84_7 : decode cJx4a65c_grow_92f84 7 = .ok (.ifCond .gt 13, 3) := by decide +kernel
theorem dJx4a65c_grow_92f84_10 : decode cJx4a65c_grow_92f84 10 = .ok (.aload_n 0, 1) := by decide +kernel
theorem dJx4a65c_grow_92f84_11 : decode cJx4a65c_grow_92f84 11 = .ok (.getfield 9, 3) := by decide +kernel
theorem dJx4a65c_grow_92f84_14 : decode cJx4a65c_grow_92f84 14 = .ok (.getstatic 39, 3) := by decide +kernel
theorem dJx4a65c_grow_92f84_17 : decode cJx4a65c_grow_92f84 17 = .ok (.if_acmp .eq 28, 3) := by decide +kernel
theorem dJx4a65c_grow_92f84_20 : decode cJx4a65c_grow_92f84 20 = .ok (.iload_n 2, 1) := by decide +kernel
theorem dJx4a65c_grow_92f84_21 : decode cJx4a65c_grow_92f84 21 = .ok (.iload_n 1, 1) := by decide +kernel
theorem dJx4a65c_grow_92f84_22 : decode cJx4a65c_grow_92f84 22 = .ok (.iload_n 2, 1) := by decide +kernel
theorem dJx4a65c_grow_92f84_23 : decode cJx4a65c_grow_92f84 23 = .ok (.isub, 1) := by decide +kernel
theorem dJx4a65c_grow_92f84_24 : decode cJx4a65c_grow_92f84 24 = .ok (.iload_n 2, 1) := by decide +kernel
theorem dJx4a65c_grow_92f84_25 : decode cJx4a65c_grow_92f84 25 = .ok (.iconst 1, 1) := by decide +kernel
theorem dJx4a65c_grow_92f84_26 : decode cJx4a65c_grow_92f84 26 = .ok (.ishr, 1) := by decide +kernel
theorem dJx4a65c_grow_92f84_27 : decode cJx4a65c_grow_92f84 27 = .ok (.invokestatic 73, 3) := by decide +kernel
theorem dJx4a65c_grow_92f84_30 : decode cJx4a65c_grow_92f84 30 = .ok (.istore_n 3, 1) := by decide +kernel
theorem dJx4a65c_grow_92f84_31 : decode cJx4a65c_grow_92f84 31 = .ok (.aload_n 0, 1) := by decide +kernel
theorem dJx4a65c_grow_92f84_32 : decode cJx4a65c_grow_92f84 32 = .ok (.aload_n 0, 1) := by decide +kernel
theorem dJx4a65c_grow_92f84_33 : decode cJx4a65c_grow_92f84 33 = .ok (.getfield 9, 3) := by decide +kernel
theorem dJx4a65c_grow_92f84_36 : decode cJx4a65c_grow_92f84 36 = .ok (.iload_n 3, 1) := by decide +kernel
theorem dJx4a65c_grow_92f84_37 : decode cJx4a65c_grow_92f84 37 = .ok (.invokestatic 66, 3) := by decide +kernel
theorem dJx4a65c_grow_92f84_40 : decode cJx4a65c_grow_92f84 40 = .ok (.dup_x1, 1) := by decide +kernel
theorem dJx4a65c_grow_92f84_41 : decode cJx4a65c_grow_92f84 41 = .ok (.putfield 9, 3) := by decide +kernel
theorem dJx4a65c_grow_92f84_44 : decode cJx4a65c_grow_92f84 44 = .ok (.areturn, 1) := by decide +kernel
theorem dJx4a65c_grow_92f84_45 : decode cJx4a65c_grow_92f84 45 = .ok (.aload_n 0, 1) := by decide +kernel
theorem dJx4a65c_grow_92f84_46 : decode cJx4a65c_grow_92f84 46 = .ok (.bipush 10, 2) := by decide +kernel
theorem dJx4a65c_grow_92f84_48 : decode cJx4a65c_grow_92f84 48 = .ok (.iload_n 1, 1) := by decide +kernel
theorem dJx4a65c_grow_92f84_49 : decode cJx4a65c_grow_92f84 49 = .ok (.invokestatic 79, 3) := by decide +kernel
theorem dJx4a65c_grow_92f84_52 : decode cJx4a65c_grow_92f84 52 = .ok (.anewarray 7, 3) := by decide +kernel
theorem dJx4a65c_grow_92f84_55 : decode cJx4a65c_grow_92f84 55 = .ok (.dup_x1, 1) := by decide +kernel
theorem dJx4a65c_grow_92f84_56 : decode cJx4a65c_grow_92f84 56 = .ok (.putfield 9, 3) := by decide +kernel
theorem dJx4a65c_grow_92f84_59 : decode cJx4a65c_grow_92f84 59 = .ok (.areturn, 1) := by decide +kernel
theorem dJx4a65c_grow_d5877_0 : decode cJx4a65c_grow_d5877 0 = .ok (.aload_n 0, 1) := by decide +kernel
theorem dJx4a65c_grow_d5877_1 : decode cJx4a65c_grow_d5877 1 = .ok (.aload_n 0, 1) := by decide +kernel
theorem dJx4a65c_grow_d5877_2 : decode cJx4a65c_grow_d5877 2 = .ok (.getfield 48, 3) := by decide +kernel
theorem dJx4a65c_grow_d5877_5 : decode cJx4a65c_grow_d5877 5 = .ok (.iconst 1, 1) := by decide +kernel
theorem dJx4a65c_grow_d5877_6 : decode cJx4a65c_grow_d5877 6 = .ok (.iadd, 1) := by decide +kernel
theorem dJx4a65c_grow_d5877_7 : decode cJx4a65c_grow_d5877 7 = .ok (.invokevirtual 69, 3) := by decide +kernel
theorem dJx4a65c_grow_d5877_10 : decode cJx4a65c_grow_d5877 10 = .ok (.areturn, 1) := by decide +kernel
theorem dJx4a65c_size_8abf5_0 : decode cJx4a65c_size_8abf5 0 = .ok (.aload_n 0, 1) := by decide +kernel
theorem dJx4a65c_size_8abf5_1 : decode cJx4a65c_size_8abf5 1 = .ok (.getfield 48, 3) := by decide +kernel
theorem dJx4a65c_size_8abf5_4 : decode cJx4a65c_size_8abf5 4 = .ok (.ireturn, 1) := by decide +kernel
theorem dJx4a65c_isEmpty_aae02_0 : decode cJx4a65c_isEmpty_aae02 0 = .ok (.aload_n 0, 1) := by decide +kernel
theorem dJx4a65c_isEmpty_aae02_1 : decode cJx4a65c_isEmpty_aae02 1 = .ok (.getfield 48, 3) := by decide +kernel
theorem dJx4a65c_isEmpty_aae02_4 : decode cJx4a65c_isEmpty_aae02 4 = .ok (.ifCond .ne 7, 3) := by decide +kernel
theorem dJx4a65c_isEmpty_aae02_7 : decode cJx4a65c_isEmpty_aae02 7 = .ok (.iconst 1, 1) := by decide +kernel
theorem dJx4a65c_isEmpty_aae02_8 : decode cJx4a65c_isEmpty_aae02 8 = .ok (.goto 4, 3) := by decide +kernel
theorem dJx4a65c_isEmpty_aae02_11 : decode cJx4a65c_isEmpty_aae02 11 = .ok (.iconst 0, 1) := by decide +kernel
theorem dJx4a65c_isEmpty_aae02_12 : decode cJx4a65c_isEmpty_aae02 12 = .ok (.ireturn, 1) := by decide +kernel
theorem dJx4a65c_elementData_915e3_0 : decode cJx4a65c_elementData_915e3 0 = .ok (.aload_n 0, 1) := by decide +kernel
theorem dJx4a65c_elementData_915e3_1 : decode cJx4a65c_elementData_915e3 1 = .ok (.getfield 9, 3) := by decide +kernel
theorem dJx4a65c_elementData_915e3_4 : decode cJx4a65c_elementData_915e3 4 = .ok (.iload_n 1, 1) := by decide +kernel
theorem dJx4a65c_elementData_915e3_5 : decode cJx4a65c_elementData_915e3 5 = .ok (.aaload, 1) := by decide +kernel
theorem dJx4a65c_elementData_915e3_6 : decode cJx4a65c_elementData_915e3 6 = .ok (.areturn, 1) := by decide +kernel
theorem dJx4a65c_get_915e3_0 : decode cJx4a65c_get_915e3 0 = .ok (.iload_n 1, 1) := by decide +kernel
theorem dJx4a65c_get_915e3_1 : decode cJx4a65c_get_915e3 1 = .ok (.aload_n 0, 1) := by decide +kernel
theorem dJx4a65c_get_915e3_2 : decode cJx4a65c_get_915e3 2 = .ok (.getfield 48, 3) := by decide +kernel
theorem dJx4a65c_get_915e3_5 : decode cJx4a65c_get_915e3 5 = .ok (.invokestatic 118, 3) := by decide +kernel
theorem dJx4a65c_get_915e3_8 : decode cJx4a65c_get_915e3 8 = .ok (.pop, 1) := by decide +kernel
theorem dJx4a65c_get_915e3_9 : decode cJx4a65c_get_915e3 9 = .ok (.aload_n 0, 1) := by decide +kernel
theorem dJx4a65c_get_915e3_10 : decode cJx4a65c_get_915e3 10 = .ok (.iload_n 1, 1) := by decide +kernel
theorem dJx4a65c_get_915e3_11 : decode cJx4a65c_get_915e3 11 = .ok (.invokevirtual 123, 3) := by decide +kernel
theorem dJx4a65c_get_915e3_14 : decode cJx4a65c_get_915e3 14 = .ok (.areturn, 1) := by decide +kernel
theorem dJx4a65c_add_72be8_0 : decode cJx4a65c_add_72be8 0 = .ok (.iload_n 3, 1) := by decide +kernel
theorem dJx4a65c_add_72be8_1 : decode cJx4a65c_add_72be8 1 = .ok (.aload_n 2, 1) := by decide +kernel
theorem dJx4a65c_add_72be8_2 : decode cJx4a65c_add_72be8 2 = .ok (.arraylength, 1) := by decide +kernel
theorem dJx4a65c_add_72be8_3 : decode cJx4a65c_add_72be8 3 = .ok (.if_icmp .ne 8, 3) := by decide +kernel
theorem dJx4a65c_add_72be8_6 : decode cJx4a65c_add_72be8 6 = .ok (.aload_n 0, 1) := by decide +kernel
theorem dJx4a65c_add_72be8_7 : decode cJx4a65c_add_72be8 7 = .ok (.invokevirtual 129, 3) := by decide +kernel
theorem dJx4a65c_add_72be8_10 : decode cJx4a65c_add_72be8 10 = .ok (.astore_n 2, 1) := by decide +kernel
theorem dJx4a65c_add_72be8_11 : decode cJx4a65c_add_72be8 11 = .ok (.aload_n 2, 1) := by decide +kernel
theorem dJx4a65c_add_72be8_12 : decode cJx4a65c_add_72be8 12 = .ok (.iload_n 3, 1) := by decide +kernel
theorem dJx4a65c_add_72be8_13 : decode cJx4a65c_add_72be8 13 = .ok (.aload_n 1, 1) := by decide +kernel
theorem dJx4a65c_add_72be8_14 : decode cJx4a65c_add_72be8 14 = .ok (.aastore, 1) := by decide +kernel
theorem dJx4a65c_add_72be8_15 : decode cJx4a65c_add_72be8 15 = .ok (.aload_n 0, 1) := by decide +kernel
theorem dJx4a65c_add_72be8_16 : decode cJx4a65c_add_72be8 16 = .ok (.iload_n 3, 1) := by decide +kernel
theorem dJx4a65c_add_72be8_17 : decode cJx4a65c_add_72be8 17 = .ok (.iconst 1, 1) := by decide +kernel
theorem dJx4a65c_add_72be8_18 : decode cJx4a65c_add_72be8 18 = .ok (.iadd, 1) := by decide +kernel
theorem dJx4a65c_add_72be8_19 : decode cJx4a65c_add_72be8 19 = .ok (.putfield 48, 3) := by decide +kernel
theorem dJx4a65c_add_72be8_22 : decode cJx4a65c_add_72be8 22 = .ok (.return_, 1) := by decide +kernel
theorem dJx4a65c_add_9ea2d_0 : decode cJx4a65c_add_9ea2d 0 = .ok (.aload_n 0, 1) := by decide +kernel
theorem dJx4a65c_add_9ea2d_1 : decode cJx4a65c_add_9ea2d 1 = .ok (.dup, 1) := by decide +kernel
theorem dJx4a65c_add_9ea2d_2 : decode cJx4a65c_add_9ea2d 2 = .ok (.getfield 63, 3) := by decide +kernel
theorem dJx4a65c_add_9ea2d_5 : decode cJx4a65c_add_9ea2d 5 = .ok (.iconst 1, 1) := by decide +kernel
theorem dJx4a65c_add_9ea2d_6 : decode cJx4a65c_add_9ea2d 6 = .ok (.iadd, 1) := by decide +kernel
theorem dJx4a65c_add_9ea2d_7 : decode cJx4a65c_add_9ea2d 7 = .ok (.putfield 63, 3) := by decide +kernel
theorem dJx4a65c_add_9ea2d_10 : decode cJx4a65c_add_9ea2d 10 = .ok (.aload_n 0, 1) := by decide +kernel
theorem dJx4a65c_add_9ea2d_11 : decode cJx4a65c_add_9ea2d 11 = .ok (.aload_n 1, 1) := by decide +kernel
theorem dJx4a65c_add_9ea2d_12 : decode cJx4a65c_add_9ea2d 12 = .ok (.aload_n 0, 1) := by decide +kernel
theorem dJx4a65c_add_9ea2d_13 : decode cJx4a65c_add_9ea2d 13 = .ok (.getfield 9, 3) := by decide +kernel
theorem dJx4a65c_add_9ea2d_16 : decode cJx4a65c_add_9ea2d 16 = .ok (.aload_n 0, 1) := by decide +kernel
theorem dJx4a65c_add_9ea2d_17 : decode cJx4a65c_add_9ea2d 17 = .ok (.getfield 48, 3) := by decide +kernel
theorem dJx4a65c_add_9ea2d_20 : decode cJx4a65c_add_9ea2d 20 = .ok (.invokevirtual 131, 3) := by decide +kernel
theorem dJx4a65c_add_9ea2d_23 : decode cJx4a65c_add_9ea2d 23 = .ok (.iconst 1, 1) := by decide +kernel
theorem dJx4a65c_add_9ea2d_24 : decode cJx4a65c_add_9ea2d 24 = .ok (.ireturn, 1) := by decide +kernel
theorem dJx4a65c_remove_915e3_0 : decode cJx4a65c_remove_915e3 0 = .ok (.iload_n 1, 1) := by decide +kernel
theorem dJx4a65c_remove_915e3_1 : decode cJx4a65c_remove_915e3 1 = .ok (.aload_n 0, 1) := by decide +kernel
theorem dJx4a65c_remove_915e3_2 : decode cJx4a65c_remove_915e3 2 = .ok (.getfield 48, 3) := by decide +kernel
theorem dJx4a65c_remove_915e3_5 : decode cJx4a65c_remove_915e3 5 = .ok (.invokestatic 118, 3) := by decide +kernel
theorem dJx4a65c_remove_915e3_8 : decode cJx4a65c_remove_915e3 8 = .ok (.pop, 1) := by decide +kernel
theorem dJx4a65c_remove_915e3_9 : decode cJx4a65c_remove_915e3 9 = .ok (.aload_n 0, 1) := by decide +kernel
theorem dJx4a65c_remove_915e3_10 : decode cJx4a65c_remove_915e3 10 = .ok (.getfield 9, 3) := by decide +kernel
theorem dJx4a65c_remove_915e3_13 : decode cJx4a65c_remove_915e3 13 = .ok (.astore_n 2, 1) := by decide +kernel
theorem dJx4a65c_remove_915e3_14 : decode cJx4a65c_remove_915e3 14 = .ok (.aload_n 2, 1) := by decide +kernel
theorem dJx4a65c_remove_915e3_15 : decode cJx4a65c_remove_915e3 15 = .ok (.iload_n 1, 1) := by decide +kernel
theorem dJx4a65c_remove_915e3_16 : decode cJx4a65c_remove_915e3 16 = .ok (.aaload, 1) := by decide +kernel
theorem dJx4a65c_remove_915e3_17 : decode cJx4a65c_remove_915e3 17 = .ok (.astore_n 3, 1) := by decide +kernel
theorem dJx4a65c_remove_915e3_18 : decode cJx4a65c_remove_915e3 18 = .ok (.aload_n 0, 1) := by decide +kernel
theorem dJx4a65c_remove_915e3_19 : decode cJx4a65c_remove_915e3 19 = .ok (.aload_n 2, 1) := by decide +kernel
theorem dJx4a65c_remove_915e3_20 : decode cJx4a65c_remove_915e3 20 = .ok (.iload_n 1, 1) := by decide +kernel
theorem dJx4a65c_remove_915e3_21 : decode cJx4a65c_remove_915e3 21 = .ok (.invokevirtual 144, 3) := by decide +kernel
theorem dJx4a65c_remove_915e3_24 : decode cJx4a65c_remove_915e3 24 = .ok (.aload_n 3, 1) := by decide +kernel
theorem dJx4a65c_remove_915e3_25 : decode cJx4a65c_remove_915e3 25 = .ok (.areturn, 1) := by decide +kernel
theorem dJx4a65c_fastRemove_b59b0_0 : decode cJx4a65c_fastRemove_b59b0 0 = .ok (.aload_n 0, 1) := by decide +kernel
theorem dJx4a65c_fastRemove_b59b0_1 : decode cJx4a65c_fastRemove_b59b0 1 = .ok (.dup, 1) := by decide +kernel
theorem dJx4a65c_fastRemove_b59b0_2 : decode cJx4a65c_fastRemove_b59b0 2 = .ok (.getfield 63, 3) := by decide +kernel
theorem dJx4a65c_fastRemove_b59b0_5 : decode cJx4a65c_fastRemove_b59b0 5 = .ok (.iconst 1, 1) := by decide +kernel
theorem dJx4a65c_fastRemove_b59b0_6 : decode cJx4a65c_fastRemove_b59b0 6 = .ok (.iadd, 1) := by decide +kernel
theorem dJx4a65c_fastRemove_b59b0_7 : decode cJx4a65c_fastRemove_b59b0 7 = .ok (.putfield 63, 3) := by decide +kernel
theorem dJx4a65c_fastRemove_b59b0_10 : decode cJx4a65c_fastRemove_b59b0 10 = .ok (.aload_n 0, 1) := by decide +kernel
theorem dJx4a65c_fastRemove_b59b0_11 : decode cJx4a65c_fastRemove_b59b0 11 = .ok (.getfield 48, 3) := by decide +kernel
theorem dJx4a65c_fastRemove_b59b0_14 : decode cJx4a65c_fastRemove_b59b0 14 = .ok (.iconst 1, 1) := by decide +kernel
theorem dJx4a65c_fastRemove_b59b0_15 : decode cJx4a65c_fastRemove_b59b0 15 = .ok (.isub, 1) := by decide +kernel
theorem dJx4a65c_fastRemove_b59b0_16 : decode cJx4a65c_fastRemove_b59b0 16 = .ok (.dup, 1) := by decide +kernel
theorem dJx4a65c_fastRemove_b59b0_17 : decode cJx4a65c_fastRemove_b59b0 17 = .ok (.istore_n 3, 1) := by decide +kernel
theorem dJx4a65c_fastRemove_b59b0_18 : decode cJx4a65c_fastRemove_b59b0 18 = .ok (.iload_n 2, 1) := by decide +kernel
theorem dJx4a65c_fastRemove_b59b0_19 : decode cJx4a65c_fastRemove_b59b0 19 = .ok (.if_icmp .le 15, 3) := by decide +kernel
theorem dJx4a65c_fastRemove_b59b0_22 : decode cJx4a65c_fastRemove_b59b0 22 = .ok (.aload_n 1, 1) := by decide +kernel
theorem dJx4a65c_fastRemove_b59b0_23 : decode cJx4a65c_fastRemove_b59b0 23 = .ok (.iload_n 2, 1) := by decide +kernel
theorem dJx4a65c_fastRemove_b59b0_24 : decode cJx4a65c_fastRemove_b59b0 24 = .ok (.iconst 1, 1) := by decide +kernel
theorem dJx4a65c_fastRemove_b59b0_25 : decode cJx4a65c_fastRemove_b59b0 25 = .ok (.iadd, 1) := by decide +kernel
theorem dJx4a65c_fastRemove_b59b0_26 : decode cJx4a65c_fastRemove_b59b0 26 = .ok (.aload_n 1, 1) := by decide +kernel
theorem dJx4a65c_fastRemove_b59b0_27 : decode cJx4a65c_fastRemove_b59b0 27 = .ok (.iload_n 2, 1) := by decide +kernel
theorem dJx4a65c_fastRemove_b59b0_28 : decode cJx4a65c_fastRemove_b59b0 28 = .ok (.iload_n 3, 1) := by decide +kernel
theorem dJx4a65c_fastRemove_b59b0_29 : decode cJx4a65c_fastRemove_b59b0 29 = .ok (.iload_n 2, 1) := by decide +kernel
theorem dJx4a65c_fastRemove_b59b0_30 : decode cJx4a65c_fastRemove_b59b0 30 = .ok (.isub, 1) := by decide +kernel
theorem dJx4a65c_fastRemove_b59b0_31 : decode cJx4a65c_fastRemove_b59b0 31 = .ok (.invokestatic 112, 3) := by decide +kernel
theorem dJx4a65c_fastRemove_b59b0_34 : decode cJx4a65c_fastRemove_b59b0 34 = .ok (.aload_n 1, 1) := by decide +kernel
theorem dJx4a65c_fastRemove_b59b0_35 : decode cJx4a65c_fastRemove_b59b0 35 = .ok (.aload_n 0, 1) := by decide +kernel
theorem dJx4a65c_fastRemove_b59b0_36 : decode cJx4a65c_fastRemove_b59b0 36 = .ok (.iload_n 3, 1) := by decide +kernel
theorem dJx4a65c_fastRemove_b59b0_37 : decode cJx4a65c_fastRemove_b59b0 37 = .ok (.dup_x1, 1) := by decide +kernel
theorem dJx4a65c_fastRemove_b59b0_38 : decode cJx4a65c_fastRemove_b59b0 38 = .ok (.putfield 48, 3) := by decide +kernel
theorem dJx4a65c_fastRemove_b59b0_41 : decode cJx4a65c_fastRemove_b59b0 41 = .ok (.aconst_null, 1) := by decide +kernel
theorem dJx4a65c_fastRemove_b59b0_42 : decode cJx4a65c_fastRemove_b59b0 42 = .ok (.aastore, 1) := by decide +kernel
theorem dJx4a65c_fastRemove_b59b0_43 : decode cJx4a65c_fastRemove_b59b0 43 = .ok (.return_, 1) := by decide +kernel
theorem dJx4a65c_iterator_32c93_0 : decode cJx4a65c_iterator_32c93 0 = .ok (.new 267, 3) := by decide +kernel
theorem dJx4a65c_iterator_32c93_3 : decode cJx4a65c_iterator_32c93 3 = .ok (.dup, 1) := by decide +kernel
theorem dJx4a65c_iterator_32c93_4 : decode cJx4a65c_iterator_32c93 4 = .ok (.aload_n 0, 1) := by decide +kernel
theorem dJx4a65c_iterator_32c93_5 : decode cJx4a65c_iterator_32c93 5 = .ok (.invokespecial 269, 3) := by decide +kernel
theorem dJx4a65c_iterator_32c93_8 : decode cJx4a65c_iterator_32c93 8 = .ok (.areturn, 1) := by decide +kernel
theorem dJ7_copyOf_1904c_0 : decode cJ7_copyOf_1904c 0 = .ok (.aload_n 0, 1) := by decide +kernel
theorem dJ7_copyOf_1904c_1 : decode cJ7_copyOf_1904c 1 = .ok (.iload_n 1, 1) := by decide +kernel
theorem dJ7_copyOf_1904c_2 : decode cJ7_copyOf_1904c 2 = .ok (.aload_n 0, 1) := by decide +kernel
theorem dJ7_copyOf_1904c_3 : decode cJ7_copyOf_1904c 3 = .ok (.invokevirtual 86, 3) := by decide +kernel
theorem dJ7_copyOf_1904c_6 : decode cJ7_copyOf_1904c 6 = .ok (.invokestatic 300, 3) := by decide +kernel
theorem dJ7_copyOf_1904c_9 : decode cJ7_copyOf_1904c 9 = .ok (.areturn, 1) := by decide +kernel
theorem dJ7_copyOf_6403c_0 : decode cJ7_copyOf_6403c 0 = .ok (.aload_n 2, 1) := by decide +kernel
theorem dJ7_copyOf_6403c_1 : decode cJ7_copyOf_6403c 1 = .ok (.ldc 110, 2) := by decide +kernel
theorem dJ7_copyOf_6403c_3 : decode cJ7_copyOf_6403c 3 = .ok (.if_acmp .ne 10, 3) := by decide +kernel
theorem dJ7_copyOf_6403c_6 : decode cJ7_copyOf_6403c 6 = .ok (.iload_n 1, 1) := by decide +kernel
theorem dJ7_copyOf_6403c_7 : decode cJ7_copyOf_6403c 7 = .ok (.anewarray 2, 3) := by decide +kernel
theorem dJ7_copyOf_6403c_10 : decode cJ7_copyOf_6403c 10 = .ok (.goto 14, 3) := by decide +kernel
theorem dJ7_copyOf_6403c_13 : decode cJ7_copyOf_6403c 13 = .ok (.aload_n 2, 1) := by decide +kernel
theorem dJ7_copyOf_6403c_14 : decode cJ7_copyOf_6403c 14 = .ok (.invokevirtual 90, 3) := by decide +kernel
theorem dJ7_copyOf_6403c_17 : decode cJ7_copyOf_6403c 17 = .ok (.iload_n 1, 1) := by decide +kernel
theorem dJ7_copyOf_6403c_18 : decode cJ7_copyOf_6403c 18 = .ok (.invokestatic 95, 3) := by decide +kernel
theorem dJ7_copyOf_6403c_21 : decode cJ7_copyOf_6403c 21 = .ok (.checkcast 110, 3) := by decide +kernel
theorem dJ7_copyOf_6403c_24 : decode cJ7_copyOf_6403c 24 = .ok (.astore_n 3, 1) := by decide +kernel
theorem dJ7_copyOf_6403c_25 : decode cJ7_copyOf_6403c 25 = .ok (.aload_n 0, 1) := by decide +kernel
theorem dJ7_copyOf_6403c_26 : decode cJ7_copyOf_6403c 26 = .ok (.iconst 0, 1) := by decide +kernel
theorem dJ7_copyOf_6403c_27 : decode cJ7_copyOf_6403c 27 = .ok (.aload_n 3, 1) := by decide +kernel
theorem dJ7_copyOf_6403c_28 : decode cJ7_copyOf_6403c 28 = .ok (.iconst 0, 1) := by decide +kernel
theorem dJ7_copyOf_6403c_29 : decode cJ7_copyOf_6403c 29 = .ok (.aload_n 0, 1) := by decide +kernel
theorem dJ7_copyOf_6403c_30 : decode cJ7_copyOf_6403c 30 = .ok (.arraylength, 1) := by decide +kernel
theorem dJ7_copyOf_6403c_31 : decode cJ7_copyOf_6403c 31 = .ok (.iload_n 1, 1) := by decide +kernel
theorem dJ7_copyOf_6403c_32 : decode cJ7_copyOf_6403c 32 = .ok (.invokestatic 304, 3) := by decide +kernel
theorem dJ7_copyOf_6403c_35 : decode cJ7_copyOf_6403c 35 = .ok (.invokestatic 150, 3) := by decide +kernel
theorem dJ7_copyOf_6403c_38 : decode cJ7_copyOf_6403c 38 = .ok (.aload_n 3, 1) := by decide +kernel
theorem dJ7_copyOf_6403c_39 : decode cJ7_copyOf_6403c 39 = .ok (.areturn, 1) := by decide +kernel
theorem dJ15_checkIndex_7cf53_0 : decode cJ15_checkIndex_7cf53 0 = .ok (.iload_n 0, 1) := by decide +kernel
theorem dJ15_checkIndex_7cf53_1 : decode cJ15_checkIndex_7cf53 1 = .ok (.iload_n 1, 1) := by decide +kernel
theorem dJ15_checkIndex_7cf53_2 : decode cJ15_checkIndex_7cf53 2 = .ok (.aconst_null, 1) := by decide +kernel
theorem dJ15_checkIndex_7cf53_3 : decode cJ15_checkIndex_7cf53 3 = .ok (.invokestatic 105, 3) := by decide +kernel
theorem dJ15_checkIndex_7cf53_6 : decode cJ15_checkIndex_7cf53 6 = .ok (.ireturn, 1) := by decide +kernel
theorem dJ8_newLength_cabcc_0 : decode cJ8_newLength_cabcc 0 = .ok (.iload_n 0, 1) := by decide +kernel
theorem dJ8_newLength_cabcc_1 : decode cJ8_newLength_cabcc 1 = .ok (.iload_n 1, 1) := by decide +kernel
theorem dJ8_newLength_cabcc_2 : decode cJ8_newLength_cabcc 2 = .ok (.iload_n 2, 1) := by decide +kernel
theorem dJ8_newLength_cabcc_3 : decode cJ8_newLength_cabcc 3 = .ok (.invokestatic 194, 3) := by decide +kernel
theorem dJ8_newLength_cabcc_6 : decode cJ8_newLength_cabcc 6 = .ok (.iadd, 1) := by decide +kernel
theorem dJ8_newLength_cabcc_7 : decode cJ8_newLength_cabcc 7 = .ok (.istore_n 3, 1) := by decide +kernel
theorem dJ8_newLength_cabcc_8 : decode cJ8_newLength_cabcc 8 = .ok (.iconst 0, 1) := by decide +kernel
theorem dJ8_newLength_cabcc_9 : decode cJ8_newLength_cabcc 9 = .ok (.iload_n 3, 1) := by decide +kernel
theorem dJ8_newLength_cabcc_10 : decode cJ8_newLength_cabcc 10 = .ok (.if_icmp .ge 11, 3) := by decide +kernel
theorem dJ8_newLength_cabcc_13 : decode cJ8_newLength_cabcc 13 = .ok (.iload_n 3, 1) := by decide +kernel
theorem dJ8_newLength_cabcc_14 : decode cJ8_newLength_cabcc 14 = .ok (.ldc 200, 2) := by decide +kernel
theorem dJ8_newLength_cabcc_16 : decode cJ8_newLength_cabcc 16 = .ok (.if_icmp .gt 5, 3) := by decide +kernel
theorem dJ8_newLength_cabcc_19 : decode cJ8_newLength_cabcc 19 = .ok (.iload_n 3, 1) := by decide +kernel
theorem dJ8_newLength_cabcc_20 : decode cJ8_newLength_cabcc 20 = .ok (.ireturn, 1) := by decide +kernel
theorem dJ8_newLength_cabcc_21 : decode cJ8_newLength_cabcc 21 = .ok (.iload_n 0, 1) := by decide +kernel
theorem dJ8_newLength_cabcc_22 : decode cJ8_newLength_cabcc 22 = .ok (.iload_n 1, 1) := by decide +kernel
theorem dJ8_newLength_cabcc_23 : decode cJ8_newLength_cabcc 23 = .ok (.invokestatic 201, 3) := by decide +kernel
theorem dJ8_newLength_cabcc_26 : decode cJ8_newLength_cabcc 26 = .ok (.ireturn, 1) := by decide +kernel
theorem dJ8_hugeLength_7cf53_0 : decode cJ8_hugeLength_7cf53 0 = .ok (.iload_n 0, 1) := by decide +kernel
theorem dJ8_hugeLength_7cf53_1 : decode cJ8_hugeLength_7cf53 1 = .ok (.iload_n 1, 1) := by decide +kernel
theorem dJ8_hugeLength_7cf53_2 : decode cJ8_hugeLength_7cf53 2 = .ok (.iadd, 1) := by decide +kernel
theorem dJ8_hugeLength_7cf53_3 : decode cJ8_hugeLength_7cf53 3 = .ok (.istore_n 2, 1) := by decide +kernel
theorem dJ8_hugeLength_7cf53_4 : decode cJ8_hugeLength_7cf53 4 = .ok (.iload_n 2, 1) := by decide +kernel
theorem dJ8_hugeLength_7cf53_5 : decode cJ8_hugeLength_7cf53 5 = .ok (.ifCond .ge 44, 3) := by decide +kernel
theorem dJ8_hugeLength_7cf53_8 : decode cJ8_hugeLength_7cf53 8 = .ok (.new 204, 3) := by decide +kernel
theorem dJ8_hugeLength_7cf53_11 : decode cJ8_hugeLength_7cf53 11 = .ok (.dup, 1) := by decide +kernel
theorem dJ8_hugeLength_7cf53_12 : decode cJ8_hugeLength_7cf53 12 = .ok (.new 89, 3) := by decide +kernel
theorem dJ8_hugeLength_7cf53_15 : decode cJ8_hugeLength_7cf53 15 = .ok (.dup, 1) := by decide +kernel
theorem dJ8_hugeLength_7cf53_16 : decode cJ8_hugeLength_7cf53 16 = .ok (.invokespecial 91, 3) := by decide +kernel
theorem dJ8_hugeLength_7cf53_19 : decode cJ8_hugeLength_7cf53 19 = .ok (.ldc 206, 2) := by decide +kernel
theorem dJ8_hugeLength_7cf53_21 : decode cJ8_hugeLength_7cf53 21 = .ok (.invokevirtual 94, 3) := by decide +kernel
theorem dJ8_hugeLength_7cf53_24 : decode cJ8_hugeLength_7cf53 24 = .ok (.iload_n 0, 1) := by decide +kernel
theorem dJ8_hugeLength_7cf53_25 : decode cJ8_hugeLength_7cf53 25 = .ok (.invokevirtual 98, 3) := by decide +kernel
theorem dJ8_hugeLength_7cf53_28 : decode cJ8_hugeLength_7cf53 28 = .ok (.ldc 208, 2) := by decide +kernel
theorem dJ8_hugeLength_7cf53_30 : decode cJ8_hugeLength_7cf53 30 = .ok (.invokevirtual 94, 3) := by decide +kernel
theorem dJ8_hugeLength_7cf53_33 : decode cJ8_hugeLength_7cf53 33 = .ok (.iload_n 1, 1) := by decide +kernel
theorem dJ8_hugeLength_7cf53_34 : decode cJ8_hugeLength_7cf53 34 = .ok (.invokevirtual 98, 3) := by decide +kernel
theorem dJ8_hugeLength_7cf53_37 : decode cJ8_hugeLength_7cf53 37 = .ok (.ldc 210, 2) := by decide +kernel
theorem dJ8_hugeLength_7cf53_39 : decode cJ8_hugeLength_7cf53 39 = .ok (.invokevirtual 94, 3) := by decide +kernel
theorem dJ8_hugeLength_7cf53_42 : decode cJ8_hugeLength_7cf53 42 = .ok (.invokevirtual 101, 3) := by decide +kernel
theorem dJ8_hugeLength_7cf53_45 : decode cJ8_hugeLength_7cf53 45 = .ok (.invokespecial 212, 3) := by decide +kernel
theorem dJ8_hugeLength_7cf53_48 : decode cJ8_hugeLength_7cf53 48 = .ok (.athrow, 1) := by decide +kernel
theorem dJ8_hugeLength_7cf53_49 : decode cJ8_hugeLength_7cf53 49 = .ok (.iload_n 2, 1) := by decide +kernel
theorem dJ8_hugeLength_7cf53_50 : decode cJ8_hugeLength_7cf53 50 = .ok (.ldc 200, 2) := by decide +kernel
theorem dJ8_hugeLength_7cf53_52 : decode cJ8_hugeLength_7cf53 52 = .ok (.if_icmp .gt 6, 3) := by decide +kernel
theorem dJ8_hugeLength_7cf53_55 : decode cJ8_hugeLength_7cf53 55 = .ok (.ldc 200, 2) := by decide +kernel
theorem dJ8_hugeLength_7cf53_57 : decode cJ8_hugeLength_7cf53 57 = .ok (.ireturn, 1) := by decide +kernel
theorem dJ8_hugeLength_7cf53_58 : decode cJ8_hugeLength_7cf53 58 = .ok (.iload_n 2, 1) := by decide +kernel
theorem dJ8_hugeLength_7cf53_59 : decode cJ8_hugeLength_7cf53 59 = .ok (.ireturn, 1) := by decide +kernel
theorem dJ3_checkIndex_8e157_0 : decode cJ3_checkIndex_8e157 0 = .ok (.iload_n 0, 1) := by decide +kernel
theorem dJ3_checkIndex_8e157_1 : decode cJ3_checkIndex_8e157 1 = .ok (.ifCond .lt 8, 3) := by decide +kernel
theorem dJ3_checkIndex_8e157_4 : decode cJ3_checkIndex_8e157 4 = .ok (.iload_n 0, 1) := by decide +kernel
theorem dJ3_checkIndex_8e157_5 : decode cJ3_checkIndex_8e157 5 = .ok (.iload_n 1, 1) := by decide +kernel
theorem dJ3_checkIndex_8e157_6 : decode cJ3_checkIndex_8e157 6 = .ok (.if_icmp .lt 10, 3) := by decide +kernel
theorem dJ3_checkIndex_8e157_9 : decode cJ3_checkIndex_8e157 9 = .ok (.aload_n 2, 1) := by decide +kernel
theorem dJ3_checkIndex_8e157_10 : decode cJ3_checkIndex_8e157 10 = .ok (.iload_n 0, 1) := by decide +kernel
theorem dJ3_checkIndex_8e157_11 : decode cJ3_checkIndex_8e157 11 = .ok (.iload_n 1, 1) := by decide +kernel
theorem dJ3_checkIndex_8e157_12 : decode cJ3_checkIndex_8e157 12 = .ok (.invokestatic 95, 3) := by decide +kernel
theorem dJ3_checkIndex_8e157_15 : decode cJ3_checkIndex_8e157 15 = .ok (.athrow, 1) := by decide +kernel
theorem dJ3_checkIndex_8e157_16 : decode cJ3_checkIndex_8e157 16 = .ok (.iload_n 0, 1) := by decide +kernel
theorem dJ3_checkIndex_8e157_17 : decode cJ3_checkIndex_8e157 17 = .ok (.ireturn, 1) := by decide +kernel
theorem dJ3_checkFromToIndex_8c36e_0 : decode cJ3_checkFromToIndex_8c36e 0 = .ok (.iload_n 0, 1) := by decide +kernel
theorem dJ3_checkFromToIndex_8c36e_1 : decode cJ3_checkFromToIndex_8c36e 1 = .ok (.ifCond .lt 13, 3) := by decide +kernel
theorem dJ3_checkFromToIndex_8c36e_4 : decode cJ3_checkFromToIndex_8c36e 4 = .ok (.iload_n 0, 1) := by decide +kernel
theorem dJ3_checkFromToIndex_8c36e_5 : decode cJ3_checkFromToIndex_8c36e 5 = .ok (.iload_n 1, 1) := by decide +kernel
theorem dJ3_checkFromToIndex_8c36e_6 : decode cJ3_checkFromToIndex_8c36e 6 = .ok (.if_icmp .gt 8, 3) := by decide +kernel
theorem dJ3_checkFromToIndex_8c36e_9 : decode cJ3_checkFromToIndex_8c36e 9 = .ok (.iload_n 1, 1) := by decide +kernel
theorem dJ3_checkFromToIndex_8c36e_10 : decode cJ3_checkFromToIndex_8c36e 10 = .ok (.iload_n 2, 1) := by decide +kernel
theorem dJ3_checkFromToIndex_8c36e_11 : decode cJ3_checkFromToIndex_8c36e 11 = .ok (.if_icmp .le 11, 3) := by decide +kernel
theorem dJ3_checkFromToIndex_8c36e_14 : decode cJ3_checkFromToIndex_8c36e 14 = .ok (.aload_n 3, 1) := by decide +kernel
theorem dJ3_checkFromToIndex_8c36e_15 : decode cJ3_checkFromToIndex_8c36e 15 = .ok (.iload_n 0, 1) := by decide +kernel
theorem dJ3_checkFromToIndex_8c36e_16 : decode cJ3_checkFromToIndex_8c36e 16 = .ok (.iload_n 1, 1) := by decide +kernel
theorem dJ3_checkFromToIndex_8c36e_17 : decode cJ3_checkFromToIndex_8c36e 17 = .ok (.iload_n 2, 1) := by decide +kernel
theorem dJ3_checkFromToIndex_8c36e_18 : decode cJ3_checkFromToIndex_8c36e 18 = .ok (.invokestatic 99, 3) := by decide +kernel
theorem dJ3_checkFromToIndex_8c36e_21 : decode cJ3_checkFromToIndex_8c36e 21 = .ok (.athrow, 1) := by decide +kernel
theorem dJ3_checkFromToIndex_8c36e_22 : decode cJ3_checkFromToIndex_8c36e 22 = .ok (.iload_n 0, 1) := by decide +kernel
theorem dJ3_checkFromToIndex_8c36e_23 : decode cJ3_checkFromToIndex_8c36e 23 = .ok (.ireturn, 1) := by decide +kernel
theorem dL_log_0 : decode cL_log 0 = .ok (.aload 5, 2) := by decide +kernel
theorem dL_log_2 : decode cL_log 2 = .ok (.iconst 0, 1) := by decide +kernel
theorem dL_log_3 : decode cL_log 3 = .ok (.aload_n 0, 1) := by decide +kernel
theorem dL_log_4 : decode cL_log 4 = .ok (.iload_n 1, 1) := by decide +kernel
theorem dL_log_5 : decode cL_log 5 = .ok (.iload_n 2, 1) := by decide +kernel
theorem dL_log_6 : decode cL_log 6 = .ok (.iload_n 3, 1) := by decide +kernel
theorem dL_log_7 : decode cL_log 7 = .ok (.iload 4, 2) := by decide +kernel
theorem dL_log_9 : decode cL_log 9 = .ok (.invokevirtual 7, 3) := by decide +kernel
theorem dL_log_12 : decode cL_log 12 = .ok (.i2l, 1) := by decide +kernel
theorem dL_log_13 : decode cL_log 13 = .ok (.lastore, 1) := by decide +kernel
theorem dL_log_14 : decode cL_log 14 = .ok (.goto 11, 3) := by decide +kernel
theorem dL_log_17 : decode cL_log 17 = .ok (.astore 6, 2) := by decide +kernel
theorem dL_log_19 : decode cL_log 19 = .ok (.iconst 1, 1) := by decide +kernel
theorem dL_log_20 : decode cL_log 20 = .ok (.ireturn, 1) := by decide +kernel
theorem dL_log_21 : decode cL_log 21 = .ok (.astore 6, 2) := by decide +kernel
theorem dL_log_23 : decode cL_log 23 = .ok (.iconst 2, 1) := by decide +kernel
theorem dL_log_24 : decode cL_log 24 = .ok (.ireturn, 1) := by decide +kernel
theorem dL_log_25 : decode cL_log 25 = .ok (.iconst 0, 1) := by decide +kernel
theorem dL_log_26 : decode cL_log 26 = .ok (.ireturn, 1) := by decide +kernel
theorem dL_slice_0 : decode cL_slice 0 = .ok (.aload 4, 2) := by decide +kernel
theorem dL_slice_2 : decode cL_slice 2 = .ok (.iconst 0, 1) := by decide +kernel
theorem dL_slice_3 : decode cL_slice 3 = .ok (.aload_n 0, 1) := by decide +kernel
theorem dL_slice_4 : decode cL_slice 4 = .ok (.iload_n 1, 1) := by decide +kernel
theorem dL_slice_5 : decode cL_slice 5 = .ok (.iload_n 2, 1) := by decide +kernel
theorem dL_slice_6 : decode cL_slice 6 = .ok (.iload_n 3, 1) := by decide +kernel
theorem dL_slice_7 : decode cL_slice 7 = .ok (.invokevirtual 17, 3) := by decide +kernel
theorem dL_slice_10 : decode cL_slice 10 = .ok (.i2l, 1) := by decide +kernel
theorem dL_slice_11 : decode cL_slice 11 = .ok (.lastore, 1) := by decide +kernel
theorem dL_slice_12 : decode cL_slice 12 = .ok (.goto 15, 3) := by decide +kernel
theorem dL_slice_15 : decode cL_slice 15 = .ok (.astore 5, 2) := by decide +kernel
theorem dL_slice_17 : decode cL_slice 17 = .ok (.iconst 1, 1) := by decide +kernel
theorem dL_slice_18 : decode cL_slice 18 = .ok (.ireturn, 1) := by decide +kernel
theorem dL_slice_19 : decode cL_slice 19 = .ok (.astore 5, 2) := by decide +kernel
theorem dL_slice_21 : decode cL_slice 21 = .ok (.iconst 2, 1) := by decide +kernel
theorem dL_slice_22 : decode cL_slice 22 = .ok (.ireturn, 1) := by decide +kernel
theorem dL_slice_23 : decode cL_slice 23 = .ok (.astore 5, 2) := by decide +kernel
theorem dL_slice_25 : decode cL_slice 25 = .ok (.iconst 3, 1) := by decide +kernel
theorem dL_slice_26 : decode cL_slice 26 = .ok (.ireturn, 1) := by decide +kernel
theorem dL_slice_27 : decode cL_slice 27 = .ok (.iconst 0, 1) := by decide +kernel
theorem dL_slice_28 : decode cL_slice 28 = .ok (.ireturn, 1) := by decide +kernel
theorem dL_leaves_0 : decode cL_leaves 0 = .ok (.aload_n 2, 1) := by decide +kernel
theorem dL_leaves_1 : decode cL_leaves 1 = .ok (.iconst 0, 1) := by decide +kernel
theorem dL_leaves_2 : decode cL_leaves 2 = .ok (.aload_n 0, 1) := by decide +kernel
theorem dL_leaves_3 : decode cL_leaves 3 = .ok (.iload_n 1, 1) := by decide +kernel
theorem dL_leaves_4 : decode cL_leaves 4 = .ok (.invokevirtual 25, 3) := by decide +kernel
theorem dL_leaves_7 : decode cL_leaves 7 = .ok (.i2l, 1) := by decide +kernel
theorem dL_leaves_8 : decode cL_leaves 8 = .ok (.lastore, 1) := by decide +kernel
theorem dL_leaves_9 : decode cL_leaves 9 = .ok (.goto 6, 3) := by decide +kernel
theorem dL_leaves_12 : decode cL_leaves 12 = .ok (.astore_n 3, 1) := by decide +kernel
theorem dL_leaves_13 : decode cL_leaves 13 = .ok (.iconst 1, 1) := by decide +kernel
theorem dL_leaves_14 : decode cL_leaves 14 = .ok (.ireturn, 1) := by decide +kernel
theorem dL_leaves_15 : decode cL_leaves 15 = .ok (.iconst 0, 1) := by decide +kernel
theorem dL_leaves_16 : decode cL_leaves 16 = .ok (.ireturn, 1) := by decide +kernel
theorem dL_width_0 : decode cL_width 0 = .ok (.aload_n 3, 1) := by decide +kernel
theorem dL_width_1 : decode cL_width 1 = .ok (.iconst 0, 1) := by decide +kernel
theorem dL_width_2 : decode cL_width 2 = .ok (.aload_n 0, 1) := by decide +kernel
theorem dL_width_3 : decode cL_width 3 = .ok (.iload_n 1, 1) := by decide +kernel
theorem dL_width_4 : decode cL_width 4 = .ok (.iload_n 2, 1) := by decide +kernel
theorem dL_width_5 : decode cL_width 5 = .ok (.invokevirtual 29, 3) := by decide +kernel
theorem dL_width_8 : decode cL_width 8 = .ok (.i2l, 1) := by decide +kernel
theorem dL_width_9 : decode cL_width 9 = .ok (.lastore, 1) := by decide +kernel
theorem dL_width_10 : decode cL_width 10 = .ok (.goto 7, 3) := by decide +kernel
theorem dL_width_13 : decode cL_width 13 = .ok (.astore 4, 2) := by decide +kernel
theorem dL_width_15 : decode cL_width 15 = .ok (.iconst 1, 1) := by decide +kernel
theorem dL_width_16 : decode cL_width 16 = .ok (.ireturn, 1) := by decide +kernel
theorem dL_width_17 : decode cL_width 17 = .ok (.iconst 0, 1) := by decide +kernel
theorem dL_width_18 : decode cL_width 18 = .ok (.ireturn, 1) := by decide +kernel
theorem dL_area_0 : decode cL_area 0 = .ok (.aload_n 3, 1) := by decide +kernel
theorem dL_area_1 : decode cL_area 1 = .ok (.iconst 0, 1) := by decide +kernel
theorem dL_area_2 : decode cL_area 2 = .ok (.aload_n 0, 1) := by decide +kernel
theorem dL_area_3 : decode cL_area 3 = .ok (.iload_n 1, 1) := by decide +kernel
theorem dL_area_4 : decode cL_area 4 = .ok (.iload_n 2, 1) := by decide +kernel
theorem dL_area_5 : decode cL_area 5 = .ok (.invokevirtual 33, 3) := by decide +kernel
theorem dL_area_8 : decode cL_area 8 = .ok (.i2l, 1) := by decide +kernel
theorem dL_area_9 : decode cL_area 9 = .ok (.lastore, 1) := by decide +kernel
theorem dL_area_10 : decode cL_area 10 = .ok (.goto 7, 3) := by decide +kernel
theorem dL_area_13 : decode cL_area 13 = .ok (.astore 4, 2) := by decide +kernel
theorem dL_area_15 : decode cL_area 15 = .ok (.iconst 1, 1) := by decide +kernel
theorem dL_area_16 : decode cL_area 16 = .ok (.ireturn, 1) := by decide +kernel
theorem dL_area_17 : decode cL_area 17 = .ok (.iconst 0, 1) := by decide +kernel
theorem dL_area_18 : decode cL_area 18 = .ok (.ireturn, 1) := by decide +kernel
theorem dL_figure_0 : decode cL_figure 0 = .ok (.aload_n 3, 1) := by decide +kernel
theorem dL_figure_1 : decode cL_figure 1 = .ok (.iconst 0, 1) := by decide +kernel
theorem dL_figure_2 : decode cL_figure 2 = .ok (.aload_n 0, 1) := by decide +kernel
theorem dL_figure_3 : decode cL_figure 3 = .ok (.iload_n 1, 1) := by decide +kernel
theorem dL_figure_4 : decode cL_figure 4 = .ok (.iload_n 2, 1) := by decide +kernel
theorem dL_figure_5 : decode cL_figure 5 = .ok (.invokevirtual 36, 3) := by decide +kernel
theorem dL_figure_8 : decode cL_figure 8 = .ok (.i2l, 1) := by decide +kernel
theorem dL_figure_9 : decode cL_figure 9 = .ok (.lastore, 1) := by decide +kernel
theorem dL_figure_10 : decode cL_figure 10 = .ok (.goto 7, 3) := by decide +kernel
theorem dL_figure_13 : decode cL_figure 13 = .ok (.astore 4, 2) := by decide +kernel
theorem dL_figure_15 : decode cL_figure 15 = .ok (.iconst 1, 1) := by decide +kernel
theorem dL_figure_16 : decode cL_figure 16 = .ok (.ireturn, 1) := by decide +kernel
theorem dL_figure_17 : decode cL_figure 17 = .ok (.iconst 0, 1) := by decide +kernel
theorem dL_figure_18 : decode cL_figure 18 = .ok (.ireturn, 1) := by decide +kernel
theorem dL_isUsed_0 : decode cL_isUsed 0 = .ok (.aload_n 3, 1) := by decide +kernel
theorem dL_isUsed_1 : decode cL_isUsed 1 = .ok (.iconst 0, 1) := by decide +kernel
theorem dL_isUsed_2 : decode cL_isUsed 2 = .ok (.aload_n 0, 1) := by decide +kernel
theorem dL_isUsed_3 : decode cL_isUsed 3 = .ok (.iload_n 1, 1) := by decide +kernel
theorem dL_isUsed_4 : decode cL_isUsed 4 = .ok (.iload_n 2, 1) := by decide +kernel
theorem dL_isUsed_5 : decode cL_isUsed 5 = .ok (.invokevirtual 39, 3) := by decide +kernel
theorem dL_isUsed_8 : decode cL_isUsed 8 = .ok (.ifCond .eq 7, 3) := by decide +kernel
theorem dL_isUsed_11 : decode cL_isUsed 11 = .ok (.lconst 1, 1) := by decide +kernel
theorem dL_isUsed_12 : decode cL_isUsed 12 = .ok (.goto 4, 3) := by decide +kernel
theorem dL_isUsed_15 : decode cL_isUsed 15 = .ok (.lconst 0, 1) := by decide +kernel
theorem dL_isUsed_16 : decode cL_isUsed 16 = .ok (.lastore, 1) := by decide +kernel
theorem dL_isUsed_17 : decode cL_isUsed 17 = .ok (.goto 7, 3) := by decide +kernel
theorem dL_isUsed_20 : decode cL_isUsed 20 = .ok (.astore 4, 2) := by decide +kernel
theorem dL_isUsed_22 : decode cL_isUsed 22 = .ok (.iconst 1, 1) := by decide +kernel
theorem dL_isUsed_23 : decode cL_isUsed 23 = .ok (.ireturn, 1) := by decide +kernel
theorem dL_isUsed_24 : decode cL_isUsed 24 = .ok (.iconst 0, 1) := by decide +kernel
theorem dL_isUsed_25 : decode cL_isUsed 25 = .ok (.ireturn, 1) := by decide +kernel
theorem dL_panel_0 : decode cL_panel 0 = .ok (.aload 5, 2) := by decide +kernel
theorem dL_panel_2 : decode cL_panel 2 = .ok (.iconst 0, 1) := by decide +kernel
theorem dL_panel_3 : decode cL_panel 3 = .ok (.aload_n 0, 1) := by decide +kernel
theorem dL_panel_4 : decode cL_panel 4 = .ok (.iload_n 1, 1) := by decide +kernel
theorem dL_panel_5 : decode cL_panel 5 = .ok (.iload_n 2, 1) := by decide +kernel
theorem dL_panel_6 : decode cL_panel 6 = .ok (.iload_n 3, 1) := by decide +kernel
theorem dL_panel_7 : decode cL_panel 7 = .ok (.iload 4, 2) := by decide +kernel
theorem dL_panel_9 : decode cL_panel 9 = .ok (.invokevirtual 43, 3) := by decide +kernel
theorem dL_panel_12 : decode cL_panel 12 = .ok (.i2l, 1) := by decide +kernel
theorem dL_panel_13 : decode cL_panel 13 = .ok (.lastore, 1) := by decide +kernel
theorem dL_panel_14 : decode cL_panel 14 = .ok (.goto 11, 3) := by decide +kernel
theorem dL_panel_17 : decode cL_panel 17 = .ok (.astore 6, 2) := by decide +kernel
theorem dL_panel_19 : decode cL_panel 19 = .ok (.iconst 1, 1) := by decide +kernel
theorem dL_panel_20 : decode cL_panel 20 = .ok (.ireturn, 1) := by decide +kernel
theorem dL_panel_21 : decode cL_panel 21 = .ok (.astore 6, 2) := by decide +kernel
theorem dL_panel_23 : decode cL_panel 23 = .ok (.iconst 2, 1) := by decide +kernel
theorem dL_panel_24 : decode cL_panel 24 = .ok (.ireturn, 1) := by decide +kernel
theorem dL_panel_25 : decode cL_panel 25 = .ok (.iconst 0, 1) := by decide +kernel
theorem dL_panel_26 : decode cL_panel 26 = .ok (.ireturn, 1) := by decide +kernel
theorem dL_face_0 : decode cL_face 0 = .ok (.aload 6, 2) := by decide +kernel
theorem dL_face_2 : decode cL_face 2 = .ok (.iconst 0, 1) := by decide +kernel
theorem dL_face_3 : decode cL_face 3 = .ok (.aload_n 0, 1) := by decide +kernel
theorem dL_face_4 : decode cL_face 4 = .ok (.iload_n 1, 1) := by decide +kernel
theorem dL_face_5 : decode cL_face 5 = .ok (.iload_n 2, 1) := by decide +kernel
theorem dL_face_6 : decode cL_face 6 = .ok (.iload_n 3, 1) := by decide +kernel
theorem dL_face_7 : decode cL_face 7 = .ok (.iload 4, 2) := by decide +kernel
theorem dL_face_9 : decode cL_face 9 = .ok (.iload 5, 2) := by decide +kernel
theorem dL_face_11 : decode cL_face 11 = .ok (.invokevirtual 47, 3) := by decide +kernel
theorem dL_face_14 : decode cL_face 14 = .ok (.i2l, 1) := by decide +kernel
theorem dL_face_15 : decode cL_face 15 = .ok (.lastore, 1) := by decide +kernel
theorem dL_face_16 : decode cL_face 16 = .ok (.goto 15, 3) := by decide +kernel
theorem dL_face_19 : decode cL_face 19 = .ok (.astore 7, 2) := by decide +kernel
theorem dL_face_21 : decode cL_face 21 = .ok (.iconst 1, 1) := by decide +kernel
theorem dL_face_22 : decode cL_face 22 = .ok (.ireturn, 1) := by decide +kernel
theorem dL_face_23 : decode cL_face 23 = .ok (.astore 7, 2) := by decide +kernel
theorem dL_face_25 : decode cL_face 25 = .ok (.iconst 2, 1) := by decide +kernel
theorem dL_face_26 : decode cL_face 26 = .ok (.ireturn, 1) := by decide +kernel
theorem dL_face_27 : decode cL_face 27 = .ok (.astore 7, 2) := by decide +kernel
theorem dL_face_29 : decode cL_face 29 = .ok (.iconst 3, 1) := by decide +kernel
theorem dL_face_30 : decode cL_face 30 = .ok (.ireturn, 1) := by decide +kernel
theorem dL_face_31 : decode cL_face 31 = .ok (.iconst 0, 1) := by decide +kernel
theorem dL_face_32 : decode cL_face 32 = .ok (.ireturn, 1) := by decide +kernel
theorem dL_back_0 : decode cL_back 0 = .ok (.aload 5, 2) := by decide +kernel
theorem dL_back_2 : decode cL_back 2 = .ok (.iconst 0, 1) := by decide +kernel
theorem dL_back_3 : decode cL_back 3 = .ok (.aload_n 0, 1) := by decide +kernel
theorem dL_back_4 : decode cL_back 4 = .ok (.iload_n 1, 1) := by decide +kernel
theorem dL_back_5 : decode cL_back 5 = .ok (.iload_n 2, 1) := by decide +kernel
theorem dL_back_6 : decode cL_back 6 = .ok (.iload_n 3, 1) := by decide +kernel
theorem dL_back_7 : decode cL_back 7 = .ok (.iload 4, 2) := by decide +kernel
theorem dL_back_9 : decode cL_back 9 = .ok (.invokevirtual 51, 3) := by decide +kernel
theorem dL_back_12 : decode cL_back 12 = .ok (.i2l, 1) := by decide +kernel
theorem dL_back_13 : decode cL_back 13 = .ok (.lastore, 1) := by decide +kernel
theorem dL_back_14 : decode cL_back 14 = .ok (.goto 15, 3) := by decide +kernel
theorem dL_back_17 : decode cL_back 17 = .ok (.astore 6, 2) := by decide +kernel
theorem dL_back_19 : decode cL_back 19 = .ok (.iconst 1, 1) := by decide +kernel
theorem dL_back_20 : decode cL_back 20 = .ok (.ireturn, 1) := by decide +kernel
theorem dL_back_21 : decode cL_back 21 = .ok (.astore 6, 2) := by decide +kernel
theorem dL_back_23 : decode cL_back 23 = .ok (.iconst 2, 1) := by decide +kernel
theorem dL_back_24 : decode cL_back 24 = .ok (.ireturn, 1) := by decide +kernel
theorem dL_back_25 : decode cL_back 25 = .ok (.astore 6, 2) := by decide +kernel
theorem dL_back_27 : decode cL_back 27 = .ok (.iconst 3, 1) := by decide +kernel
theorem dL_back_28 : decode cL_back 28 = .ok (.ireturn, 1) := by decide +kernel
theorem dL_back_29 : decode cL_back 29 = .ok (.iconst 0, 1) := by decide +kernel
theorem dL_back_30 : decode cL_back 30 = .ok (.ireturn, 1) := by decide +kernel
theorem dL_jump_0 : decode cL_jump 0 = .ok (.aload_n 2, 1) := by decide +kernel
theorem dL_jump_1 : decode cL_jump 1 = .ok (.iconst 0, 1) := by decide +kernel
theorem dL_jump_2 : decode cL_jump 2 = .ok (.aload_n 0, 1) := by decide +kernel
theorem dL_jump_3 : decode cL_jump 3 = .ok (.iload_n 1, 1) := by decide +kernel
theorem dL_jump_4 : decode cL_jump 4 = .ok (.invokevirtual 55, 3) := by decide +kernel
theorem dL_jump_7 : decode cL_jump 7 = .ok (.i2l, 1) := by decide +kernel
theorem dL_jump_8 : decode cL_jump 8 = .ok (.lastore, 1) := by decide +kernel
theorem dL_jump_9 : decode cL_jump 9 = .ok (.goto 9, 3) := by decide +kernel
theorem dL_jump_12 : decode cL_jump 12 = .ok (.astore_n 3, 1) := by decide +kernel
theorem dL_jump_13 : decode cL_jump 13 = .ok (.iconst 1, 1) := by decide +kernel
theorem dL_jump_14 : decode cL_jump 14 = .ok (.ireturn, 1) := by decide +kernel
theorem dL_jump_15 : decode cL_jump 15 = .ok (.astore_n 3, 1) := by decide +kernel
theorem dL_jump_16 : decode cL_jump 16 = .ok (.iconst 2, 1) := by decide +kernel
theorem dL_jump_17 : decode cL_jump 17 = .ok (.ireturn, 1) := by decide +kernel
theorem dL_jump_18 : decode cL_jump 18 = .ok (.iconst 0, 1) := by decide +kernel
theorem dL_jump_19 : decode cL_jump 19 = .ok (.ireturn, 1) := by decide +kernel
theorem dL_bestFirst_0 : decode cL_bestFirst 0 = .ok (.aload 5, 2) := by decide +kernel
theorem dL_bestFirst_2 : decode cL_bestFirst 2 = .ok (.iconst 0, 1) := by decide +kernel
theorem dL_bestFirst_3 : decode cL_bestFirst 3 = .ok (.aload_n 0, 1) := by decide +kernel
theorem dL_bestFirst_4 : decode cL_bestFirst 4 = .ok (.iload_n 1, 1) := by decide +kernel
theorem dL_bestFirst_5 : decode cL_bestFirst 5 = .ok (.iload_n 2, 1) := by decide +kernel
theorem dL_bestFirst_6 : decode cL_bestFirst 6 = .ok (.iload_n 3, 1) := by decide +kernel
theorem dL_bestFirst_7 : decode cL_bestFirst 7 = .ok (.iload 4, 2) := by decide +kernel
theorem dL_bestFirst_9 : decode cL_bestFirst 9 = .ok (.invokevirtual 60, 3) := by decide +kernel
theorem dL_bestFirst_12 : decode cL_bestFirst 12 = .ok (.i2l, 1) := by decide +kernel
theorem dL_bestFirst_13 : decode cL_bestFirst 13 = .ok (.lastore, 1) := by decide +kernel
theorem dL_bestFirst_14 : decode cL_bestFirst 14 = .ok (.goto 15, 3) := by decide +kernel
theorem dL_bestFirst_17 : decode cL_bestFirst 17 = .ok (.astore 6, 2) := by decide +kernel
theorem dL_bestFirst_19 : decode cL_bestFirst 19 = .ok (.iconst 1, 1) := by decide +kernel
theorem dL_bestFirst_20 : decode cL_bestFirst 20 = .ok (.ireturn, 1) := by decide +kernel
theorem dL_bestFirst_21 : decode cL_bestFirst 21 = .ok (.astore 6, 2) := by decide +kernel
theorem dL_bestFirst_23 : decode cL_bestFirst 23 = .ok (.iconst 2, 1) := by decide +kernel
theorem dL_bestFirst_24 : decode cL_bestFirst 24 = .ok (.ireturn, 1) := by decide +kernel
theorem dL_bestFirst_25 : decode cL_bestFirst 25 = .ok (.astore 6, 2) := by decide +kernel
theorem dL_bestFirst_27 : decode cL_bestFirst 27 = .ok (.iconst 3, 1) := by decide +kernel
theorem dL_bestFirst_28 : decode cL_bestFirst 28 = .ok (.ireturn, 1) := by decide +kernel
theorem dL_bestFirst_29 : decode cL_bestFirst 29 = .ok (.iconst 0, 1) := by decide +kernel
theorem dL_bestFirst_30 : decode cL_bestFirst 30 = .ok (.ireturn, 1) := by decide +kernel
theorem dL_press_0 : decode cL_press 0 = .ok (.aload 5, 2) := by decide +kernel
theorem dL_press_2 : decode cL_press 2 = .ok (.iconst 0, 1) := by decide +kernel
theorem dL_press_3 : decode cL_press 3 = .ok (.aload_n 0, 1) := by decide +kernel
theorem dL_press_4 : decode cL_press 4 = .ok (.iload_n 1, 1) := by decide +kernel
theorem dL_press_5 : decode cL_press 5 = .ok (.iload_n 2, 1) := by decide +kernel
theorem dL_press_6 : decode cL_press 6 = .ok (.iload_n 3, 1) := by decide +kernel
theorem dL_press_7 : decode cL_press 7 = .ok (.iload 4, 2) := by decide +kernel
theorem dL_press_9 : decode cL_press 9 = .ok (.invokevirtual 64, 3) := by decide +kernel
theorem dL_press_12 : decode cL_press 12 = .ok (.i2l, 1) := by decide +kernel
theorem dL_press_13 : decode cL_press 13 = .ok (.lastore, 1) := by decide +kernel
theorem dL_press_14 : decode cL_press 14 = .ok (.goto 15, 3) := by decide +kernel
theorem dL_press_17 : decode cL_press 17 = .ok (.astore 6, 2) := by decide +kernel
theorem dL_press_19 : decode cL_press 19 = .ok (.iconst 1, 1) := by decide +kernel
theorem dL_press_20 : decode cL_press 20 = .ok (.ireturn, 1) := by decide +kernel
theorem dL_press_21 : decode cL_press 21 = .ok (.astore 6, 2) := by decide +kernel
theorem dL_press_23 : decode cL_press 23 = .ok (.iconst 2, 1) := by decide +kernel
theorem dL_press_24 : decode cL_press 24 = .ok (.ireturn, 1) := by decide +kernel
theorem dL_press_25 : decode cL_press 25 = .ok (.astore 6, 2) := by decide +kernel
theorem dL_press_27 : decode cL_press 27 = .ok (.iconst 3, 1) := by decide +kernel
theorem dL_press_28 : decode cL_press 28 = .ok (.ireturn, 1) := by decide +kernel
theorem dL_press_29 : decode cL_press 29 = .ok (.iconst 0, 1) := by decide +kernel
theorem dL_press_30 : decode cL_press 30 = .ok (.ireturn, 1) := by decide +kernel
theorem dL_slit_0 : decode cL_slit 0 = .ok (.aload_n 2, 1) := by decide +kernel
theorem dL_slit_1 : decode cL_slit 1 = .ok (.iconst 0, 1) := by decide +kernel
theorem dL_slit_2 : decode cL_slit 2 = .ok (.aload_n 0, 1) := by decide +kernel
theorem dL_slit_3 : decode cL_slit 3 = .ok (.iload_n 1, 1) := by decide +kernel
theorem dL_slit_4 : decode cL_slit 4 = .ok (.invokevirtual 67, 3) := by decide +kernel
theorem dL_slit_7 : decode cL_slit 7 = .ok (.i2l, 1) := by decide +kernel
theorem dL_slit_8 : decode cL_slit 8 = .ok (.lastore, 1) := by decide +kernel
theorem dL_slit_9 : decode cL_slit 9 = .ok (.goto 9, 3) := by decide +kernel
theorem dL_slit_12 : decode cL_slit 12 = .ok (.astore_n 3, 1) := by decide +kernel
theorem dL_slit_13 : decode cL_slit 13 = .ok (.iconst 1, 1) := by decide +kernel
theorem dL_slit_14 : decode cL_slit 14 = .ok (.ireturn, 1) := by decide +kernel
theorem dL_slit_15 : decode cL_slit 15 = .ok (.astore_n 3, 1) := by decide +kernel
theorem dL_slit_16 : decode cL_slit 16 = .ok (.iconst 2, 1) := by decide +kernel
theorem dL_slit_17 : decode cL_slit 17 = .ok (.ireturn, 1) := by decide +kernel
theorem dL_slit_18 : decode cL_slit 18 = .ok (.iconst 0, 1) := by decide +kernel
theorem dL_slit_19 : decode cL_slit 19 = .ok (.ireturn, 1) := by decide +kernel
theorem dL_air_0 : decode cL_air 0 = .ok (.aload_n 2, 1) := by decide +kernel
theorem dL_air_1 : decode cL_air 1 = .ok (.iconst 0, 1) := by decide +kernel
theorem dL_air_2 : decode cL_air 2 = .ok (.aload_n 0, 1) := by decide +kernel
theorem dL_air_3 : decode cL_air 3 = .ok (.iload_n 1, 1) := by decide +kernel
theorem dL_air_4 : decode cL_air 4 = .ok (.invokevirtual 70, 3) := by decide +kernel
theorem dL_air_7 : decode cL_air 7 = .ok (.i2l, 1) := by decide +kernel
theorem dL_air_8 : decode cL_air 8 = .ok (.lastore, 1) := by decide +kernel
theorem dL_air_9 : decode cL_air 9 = .ok (.goto 6, 3) := by decide +kernel
theorem dL_air_12 : decode cL_air 12 = .ok (.astore_n 3, 1) := by decide +kernel
theorem dL_air_13 : decode cL_air 13 = .ok (.iconst 1, 1) := by decide +kernel
theorem dL_air_14 : decode cL_air 14 = .ok (.ireturn, 1) := by decide +kernel
theorem dL_air_15 : decode cL_air 15 = .ok (.iconst 0, 1) := by decide +kernel
theorem dL_air_16 : decode cL_air 16 = .ok (.ireturn, 1) := by decide +kernel
theorem dL_cup_0 : decode cL_cup 0 = .ok (.aload_n 3, 1) := by decide +kernel
theorem dL_cup_1 : decode cL_cup 1 = .ok (.iconst 0, 1) := by decide +kernel
theorem dL_cup_2 : decode cL_cup 2 = .ok (.aload_n 0, 1) := by decide +kernel
theorem dL_cup_3 : decode cL_cup 3 = .ok (.iload_n 1, 1) := by decide +kernel
theorem dL_cup_4 : decode cL_cup 4 = .ok (.iload_n 2, 1) := by decide +kernel
theorem dL_cup_5 : decode cL_cup 5 = .ok (.invokevirtual 73, 3) := by decide +kernel
theorem dL_cup_8 : decode cL_cup 8 = .ok (.i2l, 1) := by decide +kernel
theorem dL_cup_9 : decode cL_cup 9 = .ok (.lastore, 1) := by decide +kernel
theorem dL_cup_10 : decode cL_cup 10 = .ok (.goto 15, 3) := by decide +kernel
theorem dL_cup_13 : decode cL_cup 13 = .ok (.astore 4, 2) := by decide +kernel
theorem dL_cup_15 : decode cL_cup 15 = .ok (.iconst 1, 1) := by decide +kernel
theorem dL_cup_16 : decode cL_cup 16 = .ok (.ireturn, 1) := by decide +kernel
theorem dL_cup_17 : decode cL_cup 17 = .ok (.astore 4, 2) := by decide +kernel
theorem dL_cup_19 : decode cL_cup 19 = .ok (.iconst 2, 1) := by decide +kernel
theorem dL_cup_20 : decode cL_cup 20 = .ok (.ireturn, 1) := by decide +kernel
theorem dL_cup_21 : decode cL_cup 21 = .ok (.astore 4, 2) := by decide +kernel
theorem dL_cup_23 : decode cL_cup 23 = .ok (.iconst 3, 1) := by decide +kernel
theorem dL_cup_24 : decode cL_cup 24 = .ok (.ireturn, 1) := by decide +kernel
theorem dL_cup_25 : decode cL_cup 25 = .ok (.iconst 0, 1) := by decide +kernel
theorem dL_cup_26 : decode cL_cup 26 = .ok (.ireturn, 1) := by decide +kernel
theorem dL_isFlat_0 : decode cL_isFlat 0 = .ok (.aload_n 2, 1) := by decide +kernel
theorem dL_isFlat_1 : decode cL_isFlat 1 = .ok (.iconst 0, 1) := by decide +kernel
theorem dL_isFlat_2 : decode cL_isFlat 2 = .ok (.aload_n 0, 1) := by decide +kernel
theorem dL_isFlat_3 : decode cL_isFlat 3 = .ok (.iload_n 1, 1) := by decide +kernel
theorem dL_isFlat_4 : decode cL_isFlat 4 = .ok (.invokevirtual 76, 3) := by decide +kernel
theorem dL_isFlat_7 : decode cL_isFlat 7 = .ok (.ifCond .eq 7, 3) := by decide +kernel
theorem dL_isFlat_10 : decode cL_isFlat 10 = .ok (.lconst 1, 1) := by decide +kernel
theorem dL_isFlat_11 : decode cL_isFlat 11 = .ok (.goto 4, 3) := by decide +kernel
theorem dL_isFlat_14 : decode cL_isFlat 14 = .ok (.lconst 0, 1) := by decide +kernel
theorem dL_isFlat_15 : decode cL_isFlat 15 = .ok (.lastore, 1) := by decide +kernel
theorem dL_isFlat_16 : decode cL_isFlat 16 = .ok (.goto 9, 3) := by decide +kernel
theorem dL_isFlat_19 : decode cL_isFlat 19 = .ok (.astore_n 3, 1) := by decide +kernel
theorem dL_isFlat_20 : decode cL_isFlat 20 = .ok (.iconst 1, 1) := by decide +kernel
theorem dL_isFlat_21 : decode cL_isFlat 21 = .ok (.ireturn, 1) := by decide +kernel
theorem dL_isFlat_22 : decode cL_isFlat 22 = .ok (.astore_n 3, 1) := by decide +kernel
theorem dL_isFlat_23 : decode cL_isFlat 23 = .ok (.iconst 2, 1) := by decide +kernel
theorem dL_isFlat_24 : decode cL_isFlat 24 = .ok (.ireturn, 1) := by decide +kernel
theorem dL_isFlat_25 : decode cL_isFlat 25 = .ok (.iconst 0, 1) := by decide +kernel
theorem dL_isFlat_26 : decode cL_isFlat 26 = .ok (.ireturn, 1) := by decide +kernel
theorem dL_cupMonth_0 : decode cL_cupMonth 0 = .ok (.aload_n 2, 1) := by decide +kernel
theorem dL_cupMonth_1 : decode cL_cupMonth 1 = .ok (.iconst 0, 1) := by decide +kernel
theorem dL_cupMonth_2 : decode cL_cupMonth 2 = .ok (.aload_n 0, 1) := by decide +kernel
theorem dL_cupMonth_3 : decode cL_cupMonth 3 = .ok (.iload_n 1, 1) := by decide +kernel
theorem dL_cupMonth_4 : decode cL_cupMonth 4 = .ok (.invokevirtual 80, 3) := by decide +kernel
theorem dL_cupMonth_7 : decode cL_cupMonth 7 = .ok (.i2l, 1) := by decide +kernel
theorem dL_cupMonth_8 : decode cL_cupMonth 8 = .ok (.lastore, 1) := by decide +kernel
theorem dL_cupMonth_9 : decode cL_cupMonth 9 = .ok (.goto 12, 3) := by decide +kernel
theorem dL_cupMonth_12 : decode cL_cupMonth 12 = .ok (.astore_n 3, 1) := by decide +kernel
theorem dL_cupMonth_13 : decode cL_cupMonth 13 = .ok (.iconst 1, 1) := by decide +kernel
theorem dL_cupMonth_14 : decode cL_cupMonth 14 = .ok (.ireturn, 1) := by decide +kernel
theorem dL_cupMonth_15 : decode cL_cupMonth 15 = .ok (.astore_n 3, 1) := by decide +kernel
theorem dL_cupMonth_16 : decode cL_cupMonth 16 = .ok (.iconst 2, 1) := by decide +kernel
theorem dL_cupMonth_17 : decode cL_cupMonth 17 = .ok (.ireturn, 1) := by decide +kernel
theorem dL_cupMonth_18 : decode cL_cupMonth 18 = .ok (.astore_n 3, 1) := by decide +kernel
theorem dL_cupMonth_19 : decode cL_cupMonth 19 = .ok (.iconst 3, 1) := by decide +kernel
theorem dL_cupMonth_20 : decode cL_cupMonth 20 = .ok (.ireturn, 1) := by decide +kernel
theorem dL_cupMonth_21 : decode cL_cupMonth 21 = .ok (.iconst 0, 1) := by decide +kernel
theorem dL_cupMonth_22 : decode cL_cupMonth 22 = .ok (.ireturn, 1) := by decide +kernel
theorem dL_scrape_0 : decode cL_scrape 0 = .ok (.aload_n 3, 1) := by decide +kernel
theorem dL_scrape_1 : decode cL_scrape 1 = .ok (.iconst 0, 1) := by decide +kernel
theorem dL_scrape_2 : decode cL_scrape 2 = .ok (.aload_n 0, 1) := by decide +kernel
theorem dL_scrape_3 : decode cL_scrape 3 = .ok (.iload_n 1, 1) := by decide +kernel
theorem dL_scrape_4 : decode cL_scrape 4 = .ok (.iload_n 2, 1) := by decide +kernel
theorem dL_scrape_5 : decode cL_scrape 5 = .ok (.invokevirtual 83, 3) := by decide +kernel
theorem dL_scrape_8 : decode cL_scrape 8 = .ok (.i2l, 1) := by decide +kernel
theorem dL_scrape_9 : decode cL_scrape 9 = .ok (.lastore, 1) := by decide +kernel
theorem dL_scrape_10 : decode cL_scrape 10 = .ok (.goto 15, 3) := by decide +kernel
theorem dL_scrape_13 : decode cL_scrape 13 = .ok (.astore 4, 2) := by decide +kernel
theorem dL_scrape_15 : decode cL_scrape 15 = .ok (.iconst 1, 1) := by decide +kernel
theorem dL_scrape_16 : decode cL_scrape 16 = .ok (.ireturn, 1) := by decide +kernel
theorem dL_scrape_17 : decode cL_scrape 17 = .ok (.astore 4, 2) := by decide +kernel
theorem dL_scrape_19 : decode cL_scrape 19 = .ok (.iconst 2, 1) := by decide +kernel
theorem dL_scrape_20 : decode cL_scrape 20 = .ok (.ireturn, 1) := by decide +kernel
theorem dL_scrape_21 : decode cL_scrape 21 = .ok (.astore 4, 2) := by decide +kernel
theorem dL_scrape_23 : decode cL_scrape 23 = .ok (.iconst 3, 1) := by decide +kernel
theorem dL_scrape_24 : decode cL_scrape 24 = .ok (.ireturn, 1) := by decide +kernel
theorem dL_scrape_25 : decode cL_scrape 25 = .ok (.iconst 0, 1) := by decide +kernel
theorem dL_scrape_26 : decode cL_scrape 26 = .ok (.ireturn, 1) := by decide +kernel
theorem dL_isThrough_0 : decode cL_isThrough 0 = .ok (.aload_n 2, 1) := by decide +kernel
theorem dL_isThrough_1 : decode cL_isThrough 1 = .ok (.iconst 0, 1) := by decide +kernel
theorem dL_isThrough_2 : decode cL_isThrough 2 = .ok (.aload_n 0, 1) := by decide +kernel
theorem dL_isThrough_3 : decode cL_isThrough 3 = .ok (.iload_n 1, 1) := by decide +kernel
theorem dL_isThrough_4 : decode cL_isThrough 4 = .ok (.invokevirtual 86, 3) := by decide +kernel
theorem dL_isThrough_7 : decode cL_isThrough 7 = .ok (.ifCond .eq 7, 3) := by decide +kernel
theorem dL_isThrough_10 : decode cL_isThrough 10 = .ok (.lconst 1, 1) := by decide +kernel
theorem dL_isThrough_11 : decode cL_isThrough 11 = .ok (.goto 4, 3) := by decide +kernel
theorem dL_isThrough_14 : decode cL_isThrough 14 = .ok (.lconst 0, 1) := by decide +kernel
theorem dL_isThrough_15 : decode cL_isThrough 15 = .ok (.lastore, 1) := by decide +kernel
theorem dL_isThrough_16 : decode cL_isThrough 16 = .ok (.goto 6, 3) := by decide +kernel
theorem dL_isThrough_19 : decode cL_isThrough 19 = .ok (.astore_n 3, 1) := by decide +kernel
theorem dL_isThrough_20 : decode cL_isThrough 20 = .ok (.iconst 1, 1) := by decide +kernel
theorem dL_isThrough_21 : decode cL_isThrough 21 = .ok (.ireturn, 1) := by decide +kernel
theorem dL_isThrough_22 : decode cL_isThrough 22 = .ok (.iconst 0, 1) := by decide +kernel
theorem dL_isThrough_23 : decode cL_isThrough 23 = .ok (.ireturn, 1) := by decide +kernel
theorem dL_pad_0 : decode cL_pad 0 = .ok (.aload_n 3, 1) := by decide +kernel
theorem dL_pad_1 : decode cL_pad 1 = .ok (.iconst 0, 1) := by decide +kernel
theorem dL_pad_2 : decode cL_pad 2 = .ok (.aload_n 0, 1) := by decide +kernel
theorem dL_pad_3 : decode cL_pad 3 = .ok (.iload_n 1, 1) := by decide +kernel
theorem dL_pad_4 : decode cL_pad 4 = .ok (.iload_n 2, 1) := by decide +kernel
theorem dL_pad_5 : decode cL_pad 5 = .ok (.invokevirtual 89, 3) := by decide +kernel
theorem dL_pad_8 : decode cL_pad 8 = .ok (.i2l, 1) := by decide +kernel
theorem dL_pad_9 : decode cL_pad 9 = .ok (.lastore, 1) := by decide +kernel
theorem dL_pad_10 : decode cL_pad 10 = .ok (.goto 15, 3) := by decide +kernel
theorem dL_pad_13 : decode cL_pad 13 = .ok (.astore 4, 2) := by decide +kernel
theorem dL_pad_15 : decode cL_pad 15 = .ok (.iconst 1, 1) := by decide +kernel
theorem dL_pad_16 : decode cL_pad 16 = .ok (.ireturn, 1) := by decide +kernel
theorem dL_pad_17 : decode cL_pad 17 = .ok (.astore 4, 2) := by decide +kernel
theorem dL_pad_19 : decode cL_pad 19 = .ok (.iconst 2, 1) := by decide +kernel
theorem dL_pad_20 : decode cL_pad 20 = .ok (.ireturn, 1) := by decide +kernel
theorem dL_pad_21 : decode cL_pad 21 = .ok (.astore 4, 2) := by decide +kernel
theorem dL_pad_23 : decode cL_pad 23 = .ok (.iconst 3, 1) := by decide +kernel
theorem dL_pad_24 : decode cL_pad 24 = .ok (.ireturn, 1) := by decide +kernel
theorem dL_pad_25 : decode cL_pad 25 = .ok (.iconst 0, 1) := by decide +kernel
theorem dL_pad_26 : decode cL_pad 26 = .ok (.ireturn, 1) := by decide +kernel
theorem dL_ghosts_0 : decode cL_ghosts 0 = .ok (.aload_n 2, 1) := by decide +kernel
theorem dL_ghosts_1 : decode cL_ghosts 1 = .ok (.iconst 0, 1) := by decide +kernel
theorem dL_ghosts_2 : decode cL_ghosts 2 = .ok (.aload_n 0, 1) := by decide +kernel
theorem dL_ghosts_3 : decode cL_ghosts 3 = .ok (.iload_n 1, 1) := by decide +kernel
theorem dL_ghosts_4 : decode cL_ghosts 4 = .ok (.invokevirtual 92, 3) := by decide +kernel
theorem dL_ghosts_7 : decode cL_ghosts 7 = .ok (.i2l, 1) := by decide +kernel
theorem dL_ghosts_8 : decode cL_ghosts 8 = .ok (.lastore, 1) := by decide +kernel
theorem dL_ghosts_9 : decode cL_ghosts 9 = .ok (.goto 6, 3) := by decide +kernel
theorem dL_ghosts_12 : decode cL_ghosts 12 = .ok (.astore_n 3, 1) := by decide +kernel
theorem dL_ghosts_13 : decode cL_ghosts 13 = .ok (.iconst 1, 1) := by decide +kernel
theorem dL_ghosts_14 : decode cL_ghosts 14 = .ok (.ireturn, 1) := by decide +kernel
theorem dL_ghosts_15 : decode cL_ghosts 15 = .ok (.iconst 0, 1) := by decide +kernel
theorem dL_ghosts_16 : decode cL_ghosts 16 = .ok (.ireturn, 1) := by decide +kernel
theorem dL_picture_0 : decode cL_picture 0 = .ok (.aload_n 1, 1) := by decide +kernel
theorem dL_picture_1 : decode cL_picture 1 = .ok (.iconst 0, 1) := by decide +kernel
theorem dL_picture_2 : decode cL_picture 2 = .ok (.aload_n 0, 1) := by decide +kernel
theorem dL_picture_3 : decode cL_picture 3 = .ok (.invokevirtual 95, 3) := by decide +kernel
theorem dL_picture_6 : decode cL_picture 6 = .ok (.i2l, 1) := by decide +kernel
theorem dL_picture_7 : decode cL_picture 7 = .ok (.lastore, 1) := by decide +kernel
theorem dL_picture_8 : decode cL_picture 8 = .ok (.goto 6, 3) := by decide +kernel
theorem dL_picture_11 : decode cL_picture 11 = .ok (.astore_n 2, 1) := by decide +kernel
theorem dL_picture_12 : decode cL_picture 12 = .ok (.iconst 1, 1) := by decide +kernel
theorem dL_picture_13 : decode cL_picture 13 = .ok (.ireturn, 1) := by decide +kernel
theorem dL_picture_14 : decode cL_picture 14 = .ok (.iconst 0, 1) := by decide +kernel
theorem dL_picture_15 : decode cL_picture 15 = .ok (.ireturn, 1) := by decide +kernel
theorem dL_draw_0 : decode cL_draw 0 = .ok (.aload 6, 2) := by decide +kernel
theorem dL_draw_2 : decode cL_draw 2 = .ok (.iconst 0, 1) := by decide +kernel
theorem dL_draw_3 : decode cL_draw 3 = .ok (.aload_n 0, 1) := by decide +kernel
theorem dL_draw_4 : decode cL_draw 4 = .ok (.iload_n 1, 1) := by decide +kernel
theorem dL_draw_5 : decode cL_draw 5 = .ok (.iload_n 2, 1) := by decide +kernel
theorem dL_draw_6 : decode cL_draw 6 = .ok (.iload_n 3, 1) := by decide +kernel
theorem dL_draw_7 : decode cL_draw 7 = .ok (.iload 4, 2) := by decide +kernel
theorem dL_draw_9 : decode cL_draw 9 = .ok (.iload 5, 2) := by decide +kernel
theorem dL_draw_11 : decode cL_draw 11 = .ok (.invokevirtual 99, 3) := by decide +kernel
theorem dL_draw_14 : decode cL_draw 14 = .ok (.i2l, 1) := by decide +kernel
theorem dL_draw_15 : decode cL_draw 15 = .ok (.lastore, 1) := by decide +kernel
theorem dL_draw_16 : decode cL_draw 16 = .ok (.goto 15, 3) := by decide +kernel
theorem dL_draw_19 : decode cL_draw 19 = .ok (.astore 7, 2) := by decide +kernel
theorem dL_draw_21 : decode cL_draw 21 = .ok (.iconst 1, 1) := by decide +kernel
theorem dL_draw_22 : decode cL_draw 22 = .ok (.ireturn, 1) := by decide +kernel
theorem dL_draw_23 : decode cL_draw 23 = .ok (.astore 7, 2) := by decide +kernel
theorem dL_draw_25 : decode cL_draw 25 = .ok (.iconst 2, 1) := by decide +kernel
theorem dL_draw_26 : decode cL_draw 26 = .ok (.ireturn, 1) := by decide +kernel
theorem dL_draw_27 : decode cL_draw 27 = .ok (.astore 7, 2) := by decide +kernel
theorem dL_draw_29 : decode cL_draw 29 = .ok (.iconst 3, 1) := by decide +kernel
theorem dL_draw_30 : decode cL_draw 30 = .ok (.ireturn, 1) := by decide +kernel
theorem dL_draw_31 : decode cL_draw 31 = .ok (.iconst 0, 1) := by decide +kernel
theorem dL_draw_32 : decode cL_draw 32 = .ok (.ireturn, 1) := by decide +kernel
theorem dL_fieldAt_0 : decode cL_fieldAt 0 = .ok (.aload 4, 2) := by decide +kernel
theorem dL_fieldAt_2 : decode cL_fieldAt 2 = .ok (.iconst 0, 1) := by decide +kernel
theorem dL_fieldAt_3 : decode cL_fieldAt 3 = .ok (.aload_n 0, 1) := by decide +kernel
theorem dL_fieldAt_4 : decode cL_fieldAt 4 = .ok (.iload_n 1, 1) := by decide +kernel
theorem dL_fieldAt_5 : decode cL_fieldAt 5 = .ok (.iload_n 2, 1) := by decide +kernel
theorem dL_fieldAt_6 : decode cL_fieldAt 6 = .ok (.iload_n 3, 1) := by decide +kernel
theorem dL_fieldAt_7 : decode cL_fieldAt 7 = .ok (.invokevirtual 102, 3) := by decide +kernel
theorem dL_fieldAt_10 : decode cL_fieldAt 10 = .ok (.i2l, 1) := by decide +kernel
theorem dL_fieldAt_11 : decode cL_fieldAt 11 = .ok (.lastore, 1) := by decide +kernel
theorem dL_fieldAt_12 : decode cL_fieldAt 12 = .ok (.goto 7, 3) := by decide +kernel
theorem dL_fieldAt_15 : decode cL_fieldAt 15 = .ok (.astore 5, 2) := by decide +kernel
theorem dL_fieldAt_17 : decode cL_fieldAt 17 = .ok (.iconst 1, 1) := by decide +kernel
theorem dL_fieldAt_18 : decode cL_fieldAt 18 = .ok (.ireturn, 1) := by decide +kernel
theorem dL_fieldAt_19 : decode cL_fieldAt 19 = .ok (.iconst 0, 1) := by decide +kernel
theorem dL_fieldAt_20 : decode cL_fieldAt 20 = .ok (.ireturn, 1) := by decide +kernel
theorem dL_pieces_0 : decode cL_pieces 0 = .ok (.aload_n 2, 1) := by decide +kernel
theorem dL_pieces_1 : decode cL_pieces 1 = .ok (.iconst 0, 1) := by decide +kernel
theorem dL_pieces_2 : decode cL_pieces 2 = .ok (.aload_n 0, 1) := by decide +kernel
theorem dL_pieces_3 : decode cL_pieces 3 = .ok (.iload_n 1, 1) := by decide +kernel
theorem dL_pieces_4 : decode cL_pieces 4 = .ok (.invokevirtual 106, 3) := by decide +kernel
theorem dL_pieces_7 : decode cL_pieces 7 = .ok (.i2l, 1) := by decide +kernel
theorem dL_pieces_8 : decode cL_pieces 8 = .ok (.lastore, 1) := by decide +kernel
theorem dL_pieces_9 : decode cL_pieces 9 = .ok (.goto 6, 3) := by decide +kernel
theorem dL_pieces_12 : decode cL_pieces 12 = .ok (.astore_n 3, 1) := by decide +kernel
theorem dL_pieces_13 : decode cL_pieces 13 = .ok (.iconst 1, 1) := by decide +kernel
theorem dL_pieces_14 : decode cL_pieces 14 = .ok (.ireturn, 1) := by decide +kernel
theorem dL_pieces_15 : decode cL_pieces 15 = .ok (.iconst 0, 1) := by decide +kernel
theorem dL_pieces_16 : decode cL_pieces 16 = .ok (.ireturn, 1) := by decide +kernel
theorem dL_islands_0 : decode cL_islands 0 = .ok (.aload_n 2, 1) := by decide +kernel
theorem dL_islands_1 : decode cL_islands 1 = .ok (.iconst 0, 1) := by decide +kernel
theorem dL_islands_2 : decode cL_islands 2 = .ok (.aload_n 0, 1) := by decide +kernel
theorem dL_islands_3 : decode cL_islands 3 = .ok (.iload_n 1, 1) := by decide +kernel
theorem dL_islands_4 : decode cL_islands 4 = .ok (.invokevirtual 109, 3) := by decide +kernel
theorem dL_islands_7 : decode cL_islands 7 = .ok (.i2l, 1) := by decide +kernel
theorem dL_islands_8 : decode cL_islands 8 = .ok (.lastore, 1) := by decide +kernel
theorem dL_islands_9 : decode cL_islands 9 = .ok (.goto 6, 3) := by decide +kernel
theorem dL_islands_12 : decode cL_islands 12 = .ok (.astore_n 3, 1) := by decide +kernel
theorem dL_islands_13 : decode cL_islands 13 = .ok (.iconst 1, 1) := by decide +kernel
theorem dL_islands_14 : decode cL_islands 14 = .ok (.ireturn, 1) := by decide +kernel
theorem dL_islands_15 : decode cL_islands 15 = .ok (.iconst 0, 1) := by decide +kernel
theorem dL_islands_16 : decode cL_islands 16 = .ok (.ireturn, 1) := by decide +kernel
theorem dL_saw_0 : decode cL_saw 0 = .ok (.aload 5, 2) := by decide +kernel
theorem dL_saw_2 : decode cL_saw 2 = .ok (.iconst 0, 1) := by decide +kernel
theorem dL_saw_3 : decode cL_saw 3 = .ok (.aload_n 0, 1) := by decide +kernel
theorem dL_saw_4 : decode cL_saw 4 = .ok (.iload_n 1, 1) := by decide +kernel
theorem dL_saw_5 : decode cL_saw 5 = .ok (.iload_n 2, 1) := by decide +kernel
theorem dL_saw_6 : decode cL_saw 6 = .ok (.iload_n 3, 1) := by decide +kernel
theorem dL_saw_7 : decode cL_saw 7 = .ok (.iload 4, 2) := by decide +kernel
theorem dL_saw_9 : decode cL_saw 9 = .ok (.invokevirtual 112, 3) := by decide +kernel
theorem dL_saw_12 : decode cL_saw 12 = .ok (.i2l, 1) := by decide +kernel
theorem dL_saw_13 : decode cL_saw 13 = .ok (.lastore, 1) := by decide +kernel
theorem dL_saw_14 : decode cL_saw 14 = .ok (.goto 15, 3) := by decide +kernel
theorem dL_saw_17 : decode cL_saw 17 = .ok (.astore 6, 2) := by decide +kernel
theorem dL_saw_19 : decode cL_saw 19 = .ok (.iconst 1, 1) := by decide +kernel
theorem dL_saw_20 : decode cL_saw 20 = .ok (.ireturn, 1) := by decide +kernel
theorem dL_saw_21 : decode cL_saw 21 = .ok (.astore 6, 2) := by decide +kernel
theorem dL_saw_23 : decode cL_saw 23 = .ok (.iconst 2, 1) := by decide +kernel
theorem dL_saw_24 : decode cL_saw 24 = .ok (.ireturn, 1) := by decide +kernel
theorem dL_saw_25 : decode cL_saw 25 = .ok (.astore 6, 2) := by decide +kernel
theorem dL_saw_27 : decode cL_saw 27 = .ok (.iconst 3, 1) := by decide +kernel
theorem dL_saw_28 : decode cL_saw 28 = .ok (.ireturn, 1) := by decide +kernel
theorem dL_saw_29 : decode cL_saw 29 = .ok (.iconst 0, 1) := by decide +kernel
theorem dL_saw_30 : decode cL_saw 30 = .ok (.ireturn, 1) := by decide +kernel
theorem dL_leafAt_0 : decode cL_leafAt 0 = .ok (.aload 5, 2) := by decide +kernel
theorem dL_leafAt_2 : decode cL_leafAt 2 = .ok (.iconst 0, 1) := by decide +kernel
theorem dL_leafAt_3 : decode cL_leafAt 3 = .ok (.aload_n 0, 1) := by decide +kernel
theorem dL_leafAt_4 : decode cL_leafAt 4 = .ok (.iload_n 1, 1) := by decide +kernel
theorem dL_leafAt_5 : decode cL_leafAt 5 = .ok (.iload_n 2, 1) := by decide +kernel
theorem dL_leafAt_6 : decode cL_leafAt 6 = .ok (.iload_n 3, 1) := by decide +kernel
theorem dL_leafAt_7 : decode cL_leafAt 7 = .ok (.iload 4, 2) := by decide +kernel
theorem dL_leafAt_9 : decode cL_leafAt 9 = .ok (.invokevirtual 115, 3) := by decide +kernel
theorem dL_leafAt_12 : decode cL_leafAt 12 = .ok (.i2l, 1) := by decide +kernel
theorem dL_leafAt_13 : decode cL_leafAt 13 = .ok (.lastore, 1) := by decide +kernel
theorem dL_leafAt_14 : decode cL_leafAt 14 = .ok (.goto 11, 3) := by decide +kernel
theorem dL_leafAt_17 : decode cL_leafAt 17 = .ok (.astore 6, 2) := by decide +kernel
theorem dL_leafAt_19 : decode cL_leafAt 19 = .ok (.iconst 1, 1) := by decide +kernel
theorem dL_leafAt_20 : decode cL_leafAt 20 = .ok (.ireturn, 1) := by decide +kernel
theorem dL_leafAt_21 : decode cL_leafAt 21 = .ok (.astore 6, 2) := by decide +kernel
theorem dL_leafAt_23 : decode cL_leafAt 23 = .ok (.iconst 2, 1) := by decide +kernel
theorem dL_leafAt_24 : decode cL_leafAt 24 = .ok (.ireturn, 1) := by decide +kernel
theorem dL_leafAt_25 : decode cL_leafAt 25 = .ok (.iconst 0, 1) := by decide +kernel
theorem dL_leafAt_26 : decode cL_leafAt 26 = .ok (.ireturn, 1) := by decide +kernel
theorem dL_contrast_0 : decode cL_contrast 0 = .ok (.aload_n 3, 1) := by decide +kernel
theorem dL_contrast_1 : decode cL_contrast 1 = .ok (.iconst 0, 1) := by decide +kernel
theorem dL_contrast_2 : decode cL_contrast 2 = .ok (.aload_n 0, 1) := by decide +kernel
theorem dL_contrast_3 : decode cL_contrast 3 = .ok (.iload_n 1, 1) := by decide +kernel
theorem dL_contrast_4 : decode cL_contrast 4 = .ok (.iload_n 2, 1) := by decide +kernel
theorem dL_contrast_5 : decode cL_contrast 5 = .ok (.invokevirtual 118, 3) := by decide +kernel
theorem dL_contrast_8 : decode cL_contrast 8 = .ok (.i2l, 1) := by decide +kernel
theorem dL_contrast_9 : decode cL_contrast 9 = .ok (.lastore, 1) := by decide +kernel
theorem dL_contrast_10 : decode cL_contrast 10 = .ok (.goto 11, 3) := by decide +kernel
theorem dL_contrast_13 : decode cL_contrast 13 = .ok (.astore 4, 2) := by decide +kernel
theorem dL_contrast_15 : decode cL_contrast 15 = .ok (.iconst 1, 1) := by decide +kernel
theorem dL_contrast_16 : decode cL_contrast 16 = .ok (.ireturn, 1) := by decide +kernel
theorem dL_contrast_17 : decode cL_contrast 17 = .ok (.astore 4, 2) := by decide +kernel
theorem dL_contrast_19 : decode cL_contrast 19 = .ok (.iconst 2, 1) := by decide +kernel
theorem dL_contrast_20 : decode cL_contrast 20 = .ok (.ireturn, 1) := by decide +kernel
theorem dL_contrast_21 : decode cL_contrast 21 = .ok (.iconst 0, 1) := by decide +kernel
theorem dL_contrast_22 : decode cL_contrast 22 = .ok (.ireturn, 1) := by decide +kernel
theorem dL_sand_0 : decode cL_sand 0 = .ok (.aload 5, 2) := by decide +kernel
theorem dL_sand_2 : decode cL_sand 2 = .ok (.iconst 0, 1) := by decide +kernel
theorem dL_sand_3 : decode cL_sand 3 = .ok (.aload_n 0, 1) := by decide +kernel
theorem dL_sand_4 : decode cL_sand 4 = .ok (.iload_n 1, 1) := by decide +kernel
theorem dL_sand_5 : decode cL_sand 5 = .ok (.iload_n 2, 1) := by decide +kernel
theorem dL_sand_6 : decode cL_sand 6 = .ok (.iload_n 3, 1) := by decide +kernel
theorem dL_sand_7 : decode cL_sand 7 = .ok (.iload 4, 2) := by decide +kernel
theorem dL_sand_9 : decode cL_sand 9 = .ok (.invokevirtual 121, 3) := by decide +kernel
theorem dL_sand_12 : decode cL_sand 12 = .ok (.i2l, 1) := by decide +kernel
theorem dL_sand_13 : decode cL_sand 13 = .ok (.lastore, 1) := by decide +kernel
theorem dL_sand_14 : decode cL_sand 14 = .ok (.goto 15, 3) := by decide +kernel
theorem dL_sand_17 : decode cL_sand 17 = .ok (.astore 6, 2) := by decide +kernel
theorem dL_sand_19 : decode cL_sand 19 = .ok (.iconst 1, 1) := by decide +kernel
theorem dL_sand_20 : decode cL_sand 20 = .ok (.ireturn, 1) := by decide +kernel
theorem dL_sand_21 : decode cL_sand 21 = .ok (.astore 6, 2) := by decide +kernel
theorem dL_sand_23 : decode cL_sand 23 = .ok (.iconst 2, 1) := by decide +kernel
theorem dL_sand_24 : decode cL_sand 24 = .ok (.ireturn, 1) := by decide +kernel
theorem dL_sand_25 : decode cL_sand 25 = .ok (.astore 6, 2) := by decide +kernel
theorem dL_sand_27 : decode cL_sand 27 = .ok (.iconst 3, 1) := by decide +kernel
theorem dL_sand_28 : decode cL_sand 28 = .ok (.ireturn, 1) := by decide +kernel
theorem dL_sand_29 : decode cL_sand 29 = .ok (.iconst 0, 1) := by decide +kernel
theorem dL_sand_30 : decode cL_sand 30 = .ok (.ireturn, 1) := by decide +kernel
theorem dL_burnt_0 : decode cL_burnt 0 = .ok (.aload_n 2, 1) := by decide +kernel
theorem dL_burnt_1 : decode cL_burnt 1 = .ok (.iconst 0, 1) := by decide +kernel
theorem dL_burnt_2 : decode cL_burnt 2 = .ok (.aload_n 0, 1) := by decide +kernel
theorem dL_burnt_3 : decode cL_burnt 3 = .ok (.iload_n 1, 1) := by decide +kernel
theorem dL_burnt_4 : decode cL_burnt 4 = .ok (.invokevirtual 125, 3) := by decide +kernel
theorem dL_burnt_7 : decode cL_burnt 7 = .ok (.i2l, 1) := by decide +kernel
theorem dL_burnt_8 : decode cL_burnt 8 = .ok (.lastore, 1) := by decide +kernel
theorem dL_burnt_9 : decode cL_burnt 9 = .ok (.goto 6, 3) := by decide +kernel
theorem dL_burnt_12 : decode cL_burnt 12 = .ok (.astore_n 3, 1) := by decide +kernel
theorem dL_burnt_13 : decode cL_burnt 13 = .ok (.iconst 1, 1) := by decide +kernel
theorem dL_burnt_14 : decode cL_burnt 14 = .ok (.ireturn, 1) := by decide +kernel
theorem dL_burnt_15 : decode cL_burnt 15 = .ok (.iconst 0, 1) := by decide +kernel
theorem dL_burnt_16 : decode cL_burnt 16 = .ok (.ireturn, 1) := by decide +kernel
theorem dL_gap_0 : decode cL_gap 0 = .ok (.aload 4, 2) := by decide +kernel
theorem dL_gap_2 : decode cL_gap 2 = .ok (.iconst 0, 1) := by decide +kernel
theorem dL_gap_3 : decode cL_gap 3 = .ok (.aload_n 0, 1) := by decide +kernel
theorem dL_gap_4 : decode cL_gap 4 = .ok (.iload_n 1, 1) := by decide +kernel
theorem dL_gap_5 : decode cL_gap 5 = .ok (.iload_n 2, 1) := by decide +kernel
theorem dL_gap_6 : decode cL_gap 6 = .ok (.iload_n 3, 1) := by decide +kernel
theorem dL_gap_7 : decode cL_gap 7 = .ok (.invokevirtual 128, 3) := by decide +kernel
theorem dL_gap_10 : decode cL_gap 10 = .ok (.i2l, 1) := by decide +kernel
theorem dL_gap_11 : decode cL_gap 11 = .ok (.lastore, 1) := by decide +kernel
theorem dL_gap_12 : decode cL_gap 12 = .ok (.goto 7, 3) := by decide +kernel
theorem dL_gap_15 : decode cL_gap 15 = .ok (.astore 5, 2) := by decide +kernel
theorem dL_gap_17 : decode cL_gap 17 = .ok (.iconst 1, 1) := by decide +kernel
theorem dL_gap_18 : decode cL_gap 18 = .ok (.ireturn, 1) := by decide +kernel
theorem dL_gap_19 : decode cL_gap 19 = .ok (.iconst 0, 1) := by decide +kernel
theorem dL_gap_20 : decode cL_gap 20 = .ok (.ireturn, 1) := by decide +kernel
theorem dL_takeOffcut_0 : decode cL_takeOffcut 0 = .ok (.aload_n 3, 1) := by decide +kernel
theorem dL_takeOffcut_1 : decode cL_takeOffcut 1 = .ok (.iconst 0, 1) := by decide +kernel
theorem dL_takeOffcut_2 : decode cL_takeOffcut 2 = .ok (.aload_n 0, 1) := by decide +kernel
theorem dL_takeOffcut_3 : decode cL_takeOffcut 3 = .ok (.iload_n 1, 1) := by decide +kernel
theorem dL_takeOffcut_4 : decode cL_takeOffcut 4 = .ok (.iload_n 2, 1) := by decide +kernel
theorem dL_takeOffcut_5 : decode cL_takeOffcut 5 = .ok (.invokevirtual 132, 3) := by decide +kernel
theorem dL_takeOffcut_8 : decode cL_takeOffcut 8 = .ok (.i2l, 1) := by decide +kernel
theorem dL_takeOffcut_9 : decode cL_takeOffcut 9 = .ok (.lastore, 1) := by decide +kernel
theorem dL_takeOffcut_10 : decode cL_takeOffcut 10 = .ok (.goto 11, 3) := by decide +kernel
theorem dL_takeOffcut_13 : decode cL_takeOffcut 13 = .ok (.astore 4, 2) := by decide +kernel
theorem dL_takeOffcut_15 : decode cL_takeOffcut 15 = .ok (.iconst 1, 1) := by decide +kernel
theorem dL_takeOffcut_16 : decode cL_takeOffcut 16 = .ok (.ireturn, 1) := by decide +kernel
theorem dL_takeOffcut_17 : decode cL_takeOffcut 17 = .ok (.astore 4, 2) := by decide +kernel
theorem dL_takeOffcut_19 : decode cL_takeOffcut 19 = .ok (.iconst 2, 1) := by decide +kernel
theorem dL_takeOffcut_20 : decode cL_takeOffcut 20 = .ok (.ireturn, 1) := by decide +kernel
theorem dL_takeOffcut_21 : decode cL_takeOffcut 21 = .ok (.iconst 0, 1) := by decide +kernel
theorem dL_takeOffcut_22 : decode cL_takeOffcut 22 = .ok (.ireturn, 1) := by decide +kernel
theorem dL_account_0 : decode cL_account 0 = .ok (.aload_n 2, 1) := by decide +kernel
theorem dL_account_1 : decode cL_account 1 = .ok (.iconst 0, 1) := by decide +kernel
theorem dL_account_2 : decode cL_account 2 = .ok (.aload_n 0, 1) := by decide +kernel
theorem dL_account_3 : decode cL_account 3 = .ok (.iload_n 1, 1) := by decide +kernel
theorem dL_account_4 : decode cL_account 4 = .ok (.invokevirtual 135, 3) := by decide +kernel
theorem dL_account_7 : decode cL_account 7 = .ok (.i2l, 1) := by decide +kernel
theorem dL_account_8 : decode cL_account 8 = .ok (.lastore, 1) := by decide +kernel
theorem dL_account_9 : decode cL_account 9 = .ok (.goto 6, 3) := by decide +kernel
theorem dL_account_12 : decode cL_account 12 = .ok (.astore_n 3, 1) := by decide +kernel
theorem dL_account_13 : decode cL_account 13 = .ok (.iconst 1, 1) := by decide +kernel
theorem dL_account_14 : decode cL_account 14 = .ok (.ireturn, 1) := by decide +kernel
theorem dL_account_15 : decode cL_account 15 = .ok (.iconst 0, 1) := by decide +kernel
theorem dL_account_16 : decode cL_account 16 = .ok (.ireturn, 1) := by decide +kernel
theorem dL_price_0 : decode cL_price 0 = .ok (.aload_n 2, 1) := by decide +kernel
theorem dL_price_1 : decode cL_price 1 = .ok (.iconst 0, 1) := by decide +kernel
theorem dL_price_2 : decode cL_price 2 = .ok (.aload_n 0, 1) := by decide +kernel
theorem dL_price_3 : decode cL_price 3 = .ok (.iload_n 1, 1) := by decide +kernel
theorem dL_price_4 : decode cL_price 4 = .ok (.invokevirtual 139, 3) := by decide +kernel
theorem dL_price_7 : decode cL_price 7 = .ok (.i2l, 1) := by decide +kernel
theorem dL_price_8 : decode cL_price 8 = .ok (.lastore, 1) := by decide +kernel
theorem dL_price_9 : decode cL_price 9 = .ok (.goto 6, 3) := by decide +kernel
theorem dL_price_12 : decode cL_price 12 = .ok (.astore_n 3, 1) := by decide +kernel
theorem dL_price_13 : decode cL_price 13 = .ok (.iconst 1, 1) := by decide +kernel
theorem dL_price_14 : decode cL_price 14 = .ok (.ireturn, 1) := by decide +kernel
theorem dL_price_15 : decode cL_price 15 = .ok (.iconst 0, 1) := by decide +kernel
theorem dL_price_16 : decode cL_price 16 = .ok (.ireturn, 1) := by decide +kernel
theorem dL_usedShare_0 : decode cL_usedShare 0 = .ok (.aload_n 1, 1) := by decide +kernel
theorem dL_usedShare_1 : decode cL_usedShare 1 = .ok (.iconst 0, 1) := by decide +kernel
theorem dL_usedShare_2 : decode cL_usedShare 2 = .ok (.aload_n 0, 1) := by decide +kernel
theorem dL_usedShare_3 : decode cL_usedShare 3 = .ok (.invokevirtual 142, 3) := by decide +kernel
theorem dL_usedShare_6 : decode cL_usedShare 6 = .ok (.f2d, 1) := by decide +kernel
theorem dL_usedShare_7 : decode cL_usedShare 7 = .ok (.dastore, 1) := by decide +kernel
theorem dL_usedShare_8 : decode cL_usedShare 8 = .ok (.goto 6, 3) := by decide +kernel
theorem dL_usedShare_11 : decode cL_usedShare 11 = .ok (.astore_n 2, 1) := by decide +kernel
theorem dL_usedShare_12 : decode cL_usedShare 12 = .ok (.iconst 1, 1) := by decide +kernel
theorem dL_usedShare_13 : decode cL_usedShare 13 = .ok (.ireturn, 1) := by decide +kernel
theorem dL_usedShare_14 : decode cL_usedShare 14 = .ok (.iconst 0, 1) := by decide +kernel
theorem dL_usedShare_15 : decode cL_usedShare 15 = .ok (.ireturn, 1) := by decide +kernel
theorem dL_meanFigure_0 : decode cL_meanFigure 0 = .ok (.aload_n 1, 1) := by decide +kernel
theorem dL_meanFigure_1 : decode cL_meanFigure 1 = .ok (.iconst 0, 1) := by decide +kernel
theorem dL_meanFigure_2 : decode cL_meanFigure 2 = .ok (.aload_n 0, 1) := by decide +kernel
theorem dL_meanFigure_3 : decode cL_meanFigure 3 = .ok (.invokevirtual 148, 3) := by decide +kernel
theorem dL_meanFigure_6 : decode cL_meanFigure 6 = .ok (.dastore, 1) := by decide +kernel
theorem dL_meanFigure_7 : decode cL_meanFigure 7 = .ok (.goto 6, 3) := by decide +kernel
theorem dL_meanFigure_10 : decode cL_meanFigure 10 = .ok (.astore_n 2, 1) := by decide +kernel
theorem dL_meanFigure_11 : decode cL_meanFigure 11 = .ok (.iconst 1, 1) := by decide +kernel
theorem dL_meanFigure_12 : decode cL_meanFigure 12 = .ok (.ireturn, 1) := by decide +kernel
theorem dL_meanFigure_13 : decode cL_meanFigure 13 = .ok (.iconst 0, 1) := by decide +kernel
theorem dL_meanFigure_14 : decode cL_meanFigure 14 = .ok (.ireturn, 1) := by decide +kernel
