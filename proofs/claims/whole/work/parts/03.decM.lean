theorem dX9_init_0 : decode cX9_init 0 = .ok (.aload_n 0, 1) := by decide +kernel
theorem dX9_init_1 : decode cX9_init 1 = .ok (.invokespecial 1, 3) := by decide +kernel
theorem dX9_init_4 : decode cX9_init 4 = .ok (.aload_n 0, 1) := by decide +kernel
theorem dX9_init_5 : decode cX9_init 5 = .ok (.sipush 500, 3) := by decide +kernel
theorem dX9_init_8 : decode cX9_init 8 = .ok (.newarray .int, 2) := by decide +kernel
theorem dX9_init_10 : decode cX9_init 10 = .ok (.putfield 7, 3) := by decide +kernel
theorem dX9_init_13 : decode cX9_init 13 = .ok (.aload_n 0, 1) := by decide +kernel
theorem dX9_init_14 : decode cX9_init 14 = .ok (.iconst 3, 1) := by decide +kernel
theorem dX9_init_15 : decode cX9_init 15 = .ok (.putfield 13, 3) := by decide +kernel
theorem dX9_init_18 : decode cX9_init 18 = .ok (.aload_n 0, 1) := by decide +kernel
theorem dX9_init_19 : decode cX9_init 19 = .ok (.bipush 64, 2) := by decide +kernel
theorem dX9_init_21 : decode cX9_init 21 = .ok (.putfield 17, 3) := by decide +kernel
theorem dX9_init_24 : decode cX9_init 24 = .ok (.aload_n 0, 1) := by decide +kernel
theorem dX9_init_25 : decode cX9_init 25 = .ok (.sipush 500, 3) := by decide +kernel
theorem dX9_init_28 : decode cX9_init 28 = .ok (.putfield 20, 3) := by decide +kernel
theorem dX9_init_31 : decode cX9_init 31 = .ok (.aload_n 0, 1) := by decide +kernel
theorem dX9_init_32 : decode cX9_init 32 = .ok (.bipush 26, 2) := by decide +kernel
theorem dX9_init_34 : decode cX9_init 34 = .ok (.newarray .int, 2) := by decide +kernel
theorem dX9_init_36 : decode cX9_init 36 = .ok (.putfield 23, 3) := by decide +kernel
theorem dX9_init_39 : decode cX9_init 39 = .ok (.aload_n 0, 1) := by decide +kernel
theorem dX9_init_40 : decode cX9_init 40 = .ok (.ldc 26, 2) := by decide +kernel
theorem dX9_init_42 : decode cX9_init 42 = .ok (.newarray .short, 2) := by decide +kernel
theorem dX9_init_44 : decode cX9_init 44 = .ok (.putfield 27, 3) := by decide +kernel
theorem dX9_init_47 : decode cX9_init 47 = .ok (.aload_n 0, 1) := by decide +kernel
theorem dX9_init_48 : decode cX9_init 48 = .ok (.sipush 501, 3) := by decide +kernel
theorem dX9_init_51 : decode cX9_init 51 = .ok (.newarray .int, 2) := by decide +kernel
theorem dX9_init_53 : decode cX9_init 53 = .ok (.putfield 31, 3) := by decide +kernel
theorem dX9_init_56 : decode cX9_init 56 = .ok (.aload_n 0, 1) := by decide +kernel
theorem dX9_init_57 : decode cX9_init 57 = .ok (.sipush 500, 3) := by decide +kernel
theorem dX9_init_60 : decode cX9_init 60 = .ok (.newarray .int, 2) := by decide +kernel
theorem dX9_init_62 : decode cX9_init 62 = .ok (.putfield 34, 3) := by decide +kernel
theorem dX9_init_65 : decode cX9_init 65 = .ok (.aload_n 0, 1) := by decide +kernel
theorem dX9_init_66 : decode cX9_init 66 = .ok (.sipush 500, 3) := by decide +kernel
theorem dX9_init_69 : decode cX9_init 69 = .ok (.newarray .int, 2) := by decide +kernel
theorem dX9_init_71 : decode cX9_init 71 = .ok (.putfield 37, 3) := by decide +kernel
theorem dX9_init_74 : decode cX9_init 74 = .ok (.aload_n 0, 1) := by decide +kernel
theorem dX9_init_75 : decode cX9_init 75 = .ok (.sipush 500, 3) := by decide +kernel
theorem dX9_init_78 : decode cX9_init 78 = .ok (.newarray .int, 2) := by decide +kernel
theorem dX9_init_80 : decode cX9_init 80 = .ok (.putfield 40, 3) := by decide +kernel
theorem dX9_init_83 : decode cX9_init 83 = .ok (.aload_n 0, 1) := by decide +kernel
theorem dX9_init_84 : decode cX9_init 84 = .ok (.sipush 500, 3) := by decide +kernel
theorem dX9_init_87 : decode cX9_init 87 = .ok (.newarray .int, 2) := by decide +kernel
theorem dX9_init_89 : decode cX9_init 89 = .ok (.putfield 43, 3) := by decide +kernel
theorem dX9_init_92 : decode cX9_init 92 = .ok (.aload_n 0, 1) := by decide +kernel
theorem dX9_init_93 : decode cX9_init 93 = .ok (.sipush 5600, 3) := by decide +kernel
theorem dX9_init_96 : decode cX9_init 96 = .ok (.newarray .boolean, 2) := by decide +kernel
theorem dX9_init_98 : decode cX9_init 98 = .ok (.putfield 46, 3) := by decide +kernel
theorem dX9_init_101 : decode cX9_init 101 = .ok (.aload_n 0, 1) := by decide +kernel
theorem dX9_init_102 : decode cX9_init 102 = .ok (.sipush 700, 3) := by decide +kernel
theorem dX9_init_105 : decode cX9_init 105 = .ok (.newarray .int, 2) := by decide +kernel
theorem dX9_init_107 : decode cX9_init 107 = .ok (.putfield 50, 3) := by decide +kernel
theorem dX9_init_110 : decode cX9_init 110 = .ok (.aload_n 0, 1) := by decide +kernel
theorem dX9_init_111 : decode cX9_init 111 = .ok (.sipush 500, 3) := by decide +kernel
theorem dX9_init_114 : decode cX9_init 114 = .ok (.newarray .int, 2) := by decide +kernel
theorem dX9_init_116 : decode cX9_init 116 = .ok (.putfield 53, 3) := by decide +kernel
theorem dX9_init_119 : decode cX9_init 119 = .ok (.aload_n 0, 1) := by decide +kernel
theorem dX9_init_120 : decode cX9_init 120 = .ok (.sipush 500, 3) := by decide +kernel
theorem dX9_init_123 : decode cX9_init 123 = .ok (.newarray .int, 2) := by decide +kernel
theorem dX9_init_125 : decode cX9_init 125 = .ok (.putfield 56, 3) := by decide +kernel
theorem dX9_init_128 : decode cX9_init 128 = .ok (.aload_n 0, 1) := by decide +kernel
theorem dX9_init_129 : decode cX9_init 129 = .ok (.iconst (-1), 1) := by decide +kernel
theorem dX9_init_130 : decode cX9_init 130 = .ok (.putfield 59, 3) := by decide +kernel
theorem dX9_init_133 : decode cX9_init 133 = .ok (.aload_n 0, 1) := by decide +kernel
theorem dX9_init_134 : decode cX9_init 134 = .ok (.bipush 9, 2) := by decide +kernel
theorem dX9_init_136 : decode cX9_init 136 = .ok (.newarray .int, 2) := by decide +kernel
theorem dX9_init_138 : decode cX9_init 138 = .ok (.putfield 62, 3) := by decide +kernel
theorem dX9_init_141 : decode cX9_init 141 = .ok (.iconst 0, 1) := by decide +kernel
theorem dX9_init_142 : decode cX9_init 142 = .ok (.istore_n 1, 1) := by decide +kernel
theorem dX9_init_143 : decode cX9_init 143 = .ok (.iload_n 1, 1) := by decide +kernel
theorem dX9_init_144 : decode cX9_init 144 = .ok (.bipush 26, 2) := by decide +kernel
theorem dX9_init_146 : decode cX9_init 146 = .ok (.if_icmp .ge 17, 3) := by decide +kernel
theorem dX9_init_149 : decode cX9_init 149 = .ok (.aload_n 0, 1) := by decide +kernel
theorem dX9_init_150 : decode cX9_init 150 = .ok (.getfield 23, 3) := by decide +kernel
theorem dX9_init_153 : decode cX9_init 153 = .ok (.iload_n 1, 1) := by decide +kernel
theorem dX9_init_154 : decode cX9_init 154 = .ok (.bipush 8, 2) := by decide +kernel
theorem dX9_init_156 : decode cX9_init 156 = .ok (.iastore, 1) := by decide +kernel
theorem dX9_init_157 : decode cX9_init 157 = .ok (.iinc 1 1, 3) := by decide +kernel
theorem dX9_init_160 : decode cX9_init 160 = .ok (.goto (-17), 3) := by decide +kernel
theorem dX9_init_163 : decode cX9_init 163 = .ok (.return_, 1) := by decide +kernel
theorem dX9_classOf_0 : decode cX9_classOf 0 = .ok (.iconst 0, 1) := by decide +kernel
theorem dX9_classOf_1 : decode cX9_classOf 1 = .ok (.istore_n 1, 1) := by decide +kernel
theorem dX9_classOf_2 : decode cX9_classOf 2 = .ok (.iload_n 0, 1) := by decide +kernel
theorem dX9_classOf_3 : decode cX9_classOf 3 = .ok (.istore_n 2, 1) := by decide +kernel
theorem dX9_classOf_4 : decode cX9_classOf 4 = .ok (.iload_n 2, 1) := by decide +kernel
theorem dX9_classOf_5 : decode cX9_classOf 5 = .ok (.iconst 1, 1) := by decide +kernel
theorem dX9_classOf_6 : decode cX9_classOf 6 = .ok (.if_icmp .le 13, 3) := by decide +kernel
theorem dX9_classOf_9 : decode cX9_classOf 9 = .ok (.iinc 1 1, 3) := by decide +kernel
theorem dX9_classOf_12 : decode cX9_classOf 12 = .ok (.iload_n 2, 1) := by decide +kernel
theorem dX9_classOf_13 : decode cX9_classOf 13 = .ok (.iconst 2, 1) := by decide +kernel
theorem dX9_classOf_14 : decode cX9_classOf 14 = .ok (.idiv, 1) := by decide +kernel
theorem dX9_classOf_15 : decode cX9_classOf 15 = .ok (.istore_n 2, 1) := by decide +kernel
theorem dX9_classOf_16 : decode cX9_classOf 16 = .ok (.goto (-12), 3) := by decide +kernel
theorem dX9_classOf_19 : decode cX9_classOf 19 = .ok (.iload_n 1, 1) := by decide +kernel
theorem dX9_classOf_20 : decode cX9_classOf 20 = .ok (.ireturn, 1) := by decide +kernel
theorem dX9_type_0 : decode cX9_type 0 = .ok (.aload_n 0, 1) := by decide +kernel
theorem dX9_type_1 : decode cX9_type 1 = .ok (.iconst 0, 1) := by decide +kernel
theorem dX9_type_2 : decode cX9_type 2 = .ok (.putfield 65, 3) := by decide +kernel
theorem dX9_type_5 : decode cX9_type 5 = .ok (.iload_n 3, 1) := by decide +kernel
theorem dX9_type_6 : decode cX9_type 6 = .ok (.iconst 1, 1) := by decide +kernel
theorem dX9_type_7 : decode cX9_type 7 = .ok (.if_icmp .lt 21, 3) := by decide +kernel
theorem dX9_type_10 : decode cX9_type 10 = .ok (.iload_n 3, 1) := by decide +kernel
theorem dX9_type_11 : decode cX9_type 11 = .ok (.bipush 8, 2) := by decide +kernel
theorem dX9_type_13 : decode cX9_type 13 = .ok (.if_icmp .gt 15, 3) := by decide +kernel
theorem dX9_type_16 : decode cX9_type 16 = .ok (.aload_n 0, 1) := by decide +kernel
theorem dX9_type_17 : decode cX9_type 17 = .ok (.getfield 68, 3) := by decide +kernel
theorem dX9_type_20 : decode cX9_type 20 = .ok (.iload_n 3, 1) := by decide +kernel
theorem dX9_type_21 : decode cX9_type 21 = .ok (.iadd, 1) := by decide +kernel
theorem dX9_type_22 : decode cX9_type 22 = .ok (.sipush 500, 3) := by decide +kernel
theorem dX9_type_25 : decode cX9_type 25 = .ok (.if_icmp .le 5, 3) := by decide +kernel
theorem dX9_type_28 : decode cX9_type 28 = .ok (.iconst (-1), 1) := by decide +kernel
theorem dX9_type_29 : decode cX9_type 29 = .ok (.ireturn, 1) := by decide +kernel
theorem dX9_type_30 : decode cX9_type 30 = .ok (.iload_n 3, 1) := by decide +kernel
theorem dX9_type_31 : decode cX9_type 31 = .ok (.iconst 1, 1) := by decide +kernel
theorem dX9_type_32 : decode cX9_type 32 = .ok (.isub, 1) := by decide +kernel
theorem dX9_type_33 : decode cX9_type 33 = .ok (.istore 4, 2) := by decide +kernel
theorem dX9_type_35 : decode cX9_type 35 = .ok (.iload 4, 2) := by decide +kernel
theorem dX9_type_37 : decode cX9_type 37 = .ok (.ifCond .lt 40, 3) := by decide +kernel
theorem dX9_type_40 : decode cX9_type 40 = .ok (.aload_n 0, 1) := by decide +kernel
theorem dX9_type_41 : decode cX9_type 41 = .ok (.getfield 7, 3) := by decide +kernel
theorem dX9_type_44 : decode cX9_type 44 = .ok (.aload_n 0, 1) := by decide +kernel
theorem dX9_type_45 : decode cX9_type 45 = .ok (.getfield 68, 3) := by decide +kernel
theorem dX9_type_48 : decode cX9_type 48 = .ok (.lload_n 1, 1) := by decide +kernel
theorem dX9_type_49 : decode cX9_type 49 = .ok (.bipush 8, 2) := by decide +kernel
theorem dX9_type_51 : decode cX9_type 51 = .ok (.iload 4, 2) := by decide +kernel
theorem dX9_type_53 : decode cX9_type 53 = .ok (.imul, 1) := by decide +kernel
theorem dX9_type_54 : decode cX9_type 54 = .ok (.lshr, 1) := by decide +kernel
theorem dX9_type_55 : decode cX9_type 55 = .ok (.ldc2_w 71, 3) := by decide +kernel
theorem dX9_type_58 : decode cX9_type 58 = .ok (.land, 1) := by decide +kernel
theorem dX9_type_59 : decode cX9_type 59 = .ok (.l2i, 1) := by decide +kernel
theorem dX9_type_60 : decode cX9_type 60 = .ok (.iastore, 1) := by decide +kernel
theorem dX9_type_61 : decode cX9_type 61 = .ok (.aload_n 0, 1) := by decide +kernel
theorem dX9_type_62 : decode cX9_type 62 = .ok (.dup, 1) := by decide +kernel
theorem dX9_type_63 : decode cX9_type 63 = .ok (.getfield 68, 3) := by decide +kernel
theorem dX9_type_66 : decode cX9_type 66 = .ok (.iconst 1, 1) := by decide +kernel
theorem dX9_type_67 : decode cX9_type 67 = .ok (.iadd, 1) := by decide +kernel
theorem dX9_type_68 : decode cX9_type 68 = .ok (.putfield 68, 3) := by decide +kernel
theorem dX9_type_71 : decode cX9_type 71 = .ok (.iinc 4 (-1), 3) := by decide +kernel
theorem dX9_type_74 : decode cX9_type 74 = .ok (.goto (-39), 3) := by decide +kernel
theorem dX9_type_77 : decode cX9_type 77 = .ok (.aload_n 0, 1) := by decide +kernel
theorem dX9_type_78 : decode cX9_type 78 = .ok (.iconst 0, 1) := by decide +kernel
theorem dX9_type_79 : decode cX9_type 79 = .ok (.putfield 73, 3) := by decide +kernel
theorem dX9_type_82 : decode cX9_type 82 = .ok (.aload_n 0, 1) := by decide +kernel
theorem dX9_type_83 : decode cX9_type 83 = .ok (.getfield 68, 3) := by decide +kernel
theorem dX9_type_86 : decode cX9_type 86 = .ok (.ireturn, 1) := by decide +kernel
theorem dX9_fill_0 : decode cX9_fill 0 = .ok (.aload_n 0, 1) := by decide +kernel
theorem dX9_fill_1 : decode cX9_fill 1 = .ok (.iconst 0, 1) := by decide +kernel
theorem dX9_fill_2 : decode cX9_fill 2 = .ok (.putfield 65, 3) := by decide +kernel
theorem dX9_fill_5 : decode cX9_fill 5 = .ok (.iload_n 2, 1) := by decide +kernel
theorem dX9_fill_6 : decode cX9_fill 6 = .ok (.iconst 1, 1) := by decide +kernel
theorem dX9_fill_7 : decode cX9_fill 7 = .ok (.if_icmp .lt 22, 3) := by decide +kernel
theorem dX9_fill_10 : decode cX9_fill 10 = .ok (.iload_n 2, 1) := by decide +kernel
theorem dX9_fill_11 : decode cX9_fill 11 = .ok (.sipush 500, 3) := by decide +kernel
theorem dX9_fill_14 : decode cX9_fill 14 = .ok (.if_icmp .gt 15, 3) := by decide +kernel
theorem dX9_fill_17 : decode cX9_fill 17 = .ok (.aload_n 0, 1) := by decide +kernel
theorem dX9_fill_18 : decode cX9_fill 18 = .ok (.getfield 68, 3) := by decide +kernel
theorem dX9_fill_21 : decode cX9_fill 21 = .ok (.iload_n 2, 1) := by decide +kernel
theorem dX9_fill_22 : decode cX9_fill 22 = .ok (.iadd, 1) := by decide +kernel
theorem dX9_fill_23 : decode cX9_fill 23 = .ok (.sipush 500, 3) := by decide +kernel
theorem dX9_fill_26 : decode cX9_fill 26 = .ok (.if_icmp .le 5, 3) := by decide +kernel
theorem dX9_fill_29 : decode cX9_fill 29 = .ok (.iconst (-1), 1) := by decide +kernel
theorem dX9_fill_30 : decode cX9_fill 30 = .ok (.ireturn, 1) := by decide +kernel
theorem dX9_fill_31 : decode cX9_fill 31 = .ok (.iconst 0, 1) := by decide +kernel
theorem dX9_fill_32 : decode cX9_fill 32 = .ok (.istore_n 3, 1) := by decide +kernel
theorem dX9_fill_33 : decode cX9_fill 33 = .ok (.iload_n 3, 1) := by decide +kernel
theorem dX9_fill_34 : decode cX9_fill 34 = .ok (.iload_n 2, 1) := by decide +kernel
theorem dX9_fill_35 : decode cX9_fill 35 = .ok (.if_icmp .ge 33, 3) := by decide +kernel
theorem dX9_fill_38 : decode cX9_fill 38 = .ok (.aload_n 0, 1) := by decide +kernel
theorem dX9_fill_39 : decode cX9_fill 39 = .ok (.getfield 7, 3) := by decide +kernel
theorem dX9_fill_42 : decode cX9_fill 42 = .ok (.aload_n 0, 1) := by decide +kernel
theorem dX9_fill_43 : decode cX9_fill 43 = .ok (.getfield 68, 3) := by decide +kernel
theorem dX9_fill_46 : decode cX9_fill 46 = .ok (.iload_n 1, 1) := by decide +kernel
theorem dX9_fill_47 : decode cX9_fill 47 = .ok (.sipush 255, 3) := by decide +kernel
theorem dX9_fill_50 : decode cX9_fill 50 = .ok (.iand, 1) := by decide +kernel
theorem dX9_fill_51 : decode cX9_fill 51 = .ok (.iastore, 1) := by decide +kernel
theorem dX9_fill_52 : decode cX9_fill 52 = .ok (.aload_n 0, 1) := by decide +kernel
theorem dX9_fill_53 : decode cX9_fill 53 = .ok (.dup, 1) := by decide +kernel
theorem dX9_fill_54 : decode cX9_fill 54 = .ok (.getfield 68, 3) := by decide +kernel
theorem dX9_fill_57 : decode cX9_fill 57 = .ok (.iconst 1, 1) := by decide +kernel
theorem dX9_fill_58 : decode cX9_fill 58 = .ok (.iadd, 1) := by decide +kernel
theorem dX9_fill_59 : decode cX9_fill 59 = .ok (.putfield 68, 3) := by decide +kernel
theorem dX9_fill_62 : decode cX9_fill 62 = .ok (.iinc 3 1, 3) := by decide +kernel
theorem dX9_fill_65 : decode cX9_fill 65 = .ok (.goto (-32), 3) := by decide +kernel
theorem dX9_fill_68 : decode cX9_fill 68 = .ok (.aload_n 0, 1) := by decide +kernel
theorem dX9_fill_69 : decode cX9_fill 69 = .ok (.iconst 0, 1) := by decide +kernel
theorem dX9_fill_70 : decode cX9_fill 70 = .ok (.putfield 73, 3) := by decide +kernel
theorem dX9_fill_73 : decode cX9_fill 73 = .ok (.aload_n 0, 1) := by decide +kernel
theorem dX9_fill_74 : decode cX9_fill 74 = .ok (.getfield 68, 3) := by decide +kernel
theorem dX9_fill_77 : decode cX9_fill 77 = .ok (.ireturn, 1) := by decide +kernel
theorem dX9_clear_0 : decode cX9_clear 0 = .ok (.aload_n 0, 1) := by decide +kernel
theorem dX9_clear_1 : decode cX9_clear 1 = .ok (.iconst 0, 1) := by decide +kernel
theorem dX9_clear_2 : decode cX9_clear 2 = .ok (.putfield 65, 3) := by decide +kernel
theorem dX9_clear_5 : decode cX9_clear 5 = .ok (.aload_n 0, 1) := by decide +kernel
theorem dX9_clear_6 : decode cX9_clear 6 = .ok (.getfield 68, 3) := by decide +kernel
theorem dX9_clear_9 : decode cX9_clear 9 = .ok (.istore_n 1, 1) := by decide +kernel
theorem dX9_clear_10 : decode cX9_clear 10 = .ok (.aload_n 0, 1) := by decide +kernel
theorem dX9_clear_11 : decode cX9_clear 11 = .ok (.iconst 0, 1) := by decide +kernel
theorem dX9_clear_12 : decode cX9_clear 12 = .ok (.putfield 68, 3) := by decide +kernel
theorem dX9_clear_15 : decode cX9_clear 15 = .ok (.aload_n 0, 1) := by decide +kernel
theorem dX9_clear_16 : decode cX9_clear 16 = .ok (.iconst 0, 1) := by decide +kernel
theorem dX9_clear_17 : decode cX9_clear 17 = .ok (.putfield 73, 3) := by decide +kernel
theorem dX9_clear_20 : decode cX9_clear 20 = .ok (.iload_n 1, 1) := by decide +kernel
theorem dX9_clear_21 : decode cX9_clear 21 = .ok (.ireturn, 1) := by decide +kernel
theorem dX9_limits_0 : decode cX9_limits 0 = .ok (.aload_n 0, 1) := by decide +kernel
theorem dX9_limits_1 : decode cX9_limits 1 = .ok (.iconst 0, 1) := by decide +kernel
theorem dX9_limits_2 : decode cX9_limits 2 = .ok (.putfield 65, 3) := by decide +kernel
theorem dX9_limits_5 : decode cX9_limits 5 = .ok (.iload_n 1, 1) := by decide +kernel
theorem dX9_limits_6 : decode cX9_limits 6 = .ok (.iconst 2, 1) := by decide +kernel
theorem dX9_limits_7 : decode cX9_limits 7 = .ok (.if_icmp .lt 33, 3) := by decide +kernel
theorem dX9_limits_10 : decode cX9_limits 10 = .ok (.iload_n 1, 1) := by decide +kernel
theorem dX9_limits_11 : decode cX9_limits 11 = .ok (.bipush 16, 2) := by decide +kernel
theorem dX9_limits_13 : decode cX9_limits 13 = .ok (.if_icmp .gt 27, 3) := by decide +kernel
theorem dX9_limits_16 : decode cX9_limits 16 = .ok (.iload_n 2, 1) := by decide +kernel
theorem dX9_limits_17 : decode cX9_limits 17 = .ok (.iload_n 1, 1) := by decide +kernel
theorem dX9_limits_18 : decode cX9_limits 18 = .ok (.if_icmp .lt 22, 3) := by decide +kernel
theorem dX9_limits_21 : decode cX9_limits 21 = .ok (.iload_n 2, 1) := by decide +kernel
theorem dX9_limits_22 : decode cX9_limits 22 = .ok (.sipush 255, 3) := by decide +kernel
theorem dX9_limits_25 : decode cX9_limits 25 = .ok (.if_icmp .gt 15, 3) := by decide +kernel
theorem dX9_limits_28 : decode cX9_limits 28 = .ok (.iload_n 3, 1) := by decide +kernel
theorem dX9_limits_29 : decode cX9_limits 29 = .ok (.iconst 1, 1) := by decide +kernel
theorem dX9_limits_30 : decode cX9_limits 30 = .ok (.if_icmp .lt 10, 3) := by decide +kernel
theorem dX9_limits_33 : decode cX9_limits 33 = .ok (.iload_n 3, 1) := by decide +kernel
theorem dX9_limits_34 : decode cX9_limits 34 = .ok (.sipush 500, 3) := by decide +kernel
theorem dX9_limits_37 : decode cX9_limits 37 = .ok (.if_icmp .le 5, 3) := by decide +kernel
theorem dX9_limits_40 : decode cX9_limits 40 = .ok (.iconst 0, 1) := by decide +kernel
theorem dX9_limits_41 : decode cX9_limits 41 = .ok (.ireturn, 1) := by decide +kernel
theorem dX9_limits_42 : decode cX9_limits 42 = .ok (.aload_n 0, 1) := by decide +kernel
theorem dX9_limits_43 : decode cX9_limits 43 = .ok (.iload_n 1, 1) := by decide +kernel
theorem dX9_limits_44 : decode cX9_limits 44 = .ok (.putfield 13, 3) := by decide +kernel
theorem dX9_limits_47 : decode cX9_limits 47 = .ok (.aload_n 0, 1) := by decide +kernel
theorem dX9_limits_48 : decode cX9_limits 48 = .ok (.iload_n 2, 1) := by decide +kernel
theorem dX9_limits_49 : decode cX9_limits 49 = .ok (.putfield 17, 3) := by decide +kernel
theorem dX9_limits_52 : decode cX9_limits 52 = .ok (.aload_n 0, 1) := by decide +kernel
theorem dX9_limits_53 : decode cX9_limits 53 = .ok (.iload_n 3, 1) := by decide +kernel
theorem dX9_limits_54 : decode cX9_limits 54 = .ok (.putfield 20, 3) := by decide +kernel
theorem dX9_limits_57 : decode cX9_limits 57 = .ok (.aload_n 0, 1) := by decide +kernel
theorem dX9_limits_58 : decode cX9_limits 58 = .ok (.iconst 0, 1) := by decide +kernel
theorem dX9_limits_59 : decode cX9_limits 59 = .ok (.putfield 73, 3) := by decide +kernel
theorem dX9_limits_62 : decode cX9_limits 62 = .ok (.iconst 1, 1) := by decide +kernel
theorem dX9_limits_63 : decode cX9_limits 63 = .ok (.ireturn, 1) := by decide +kernel
theorem dX9_price_0 : decode cX9_price 0 = .ok (.aload_n 0, 1) := by decide +kernel
theorem dX9_price_1 : decode cX9_price 1 = .ok (.iconst 0, 1) := by decide +kernel
theorem dX9_price_2 : decode cX9_price 2 = .ok (.putfield 65, 3) := by decide +kernel
theorem dX9_price_5 : decode cX9_price 5 = .ok (.iload_n 1, 1) := by decide +kernel
theorem dX9_price_6 : decode cX9_price 6 = .ok (.ifCond .eq 8, 3) := by decide +kernel
theorem dX9_price_9 : decode cX9_price 9 = .ok (.iload_n 1, 1) := by decide +kernel
theorem dX9_price_10 : decode cX9_price 10 = .ok (.iconst 2, 1) := by decide +kernel
theorem dX9_price_11 : decode cX9_price 11 = .ok (.if_icmp .ne 8, 3) := by decide +kernel
theorem dX9_price_14 : decode cX9_price 14 = .ok (.bipush 8, 2) := by decide +kernel
theorem dX9_price_16 : decode cX9_price 16 = .ok (.goto 23, 3) := by decide +kernel
theorem dX9_price_19 : decode cX9_price 19 = .ok (.iload_n 1, 1) := by decide +kernel
theorem dX9_price_20 : decode cX9_price 20 = .ok (.iconst 1, 1) := by decide +kernel
theorem dX9_price_21 : decode cX9_price 21 = .ok (.if_icmp .ne 7, 3) := by decide +kernel
theorem dX9_price_24 : decode cX9_price 24 = .ok (.iconst 1, 1) := by decide +kernel
theorem dX9_price_25 : decode cX9_price 25 = .ok (.goto 14, 3) := by decide +kernel
theorem dX9_price_28 : decode cX9_price 28 = .ok (.iload_n 1, 1) := by decide +kernel
theorem dX9_price_29 : decode cX9_price 29 = .ok (.iconst 3, 1) := by decide +kernel
theorem dX9_price_30 : decode cX9_price 30 = .ok (.if_icmp .ne 8, 3) := by decide +kernel
theorem dX9_price_33 : decode cX9_price 33 = .ok (.bipush 9, 2) := by decide +kernel
theorem dX9_price_35 : decode cX9_price 35 = .ok (.goto 4, 3) := by decide +kernel
theorem dX9_price_38 : decode cX9_price 38 = .ok (.iconst 0, 1) := by decide +kernel
theorem dX9_price_39 : decode cX9_price 39 = .ok (.istore 4, 2) := by decide +kernel
theorem dX9_price_41 : decode cX9_price 41 = .ok (.iload_n 2, 1) := by decide +kernel
theorem dX9_price_42 : decode cX9_price 42 = .ok (.ifCond .lt 21, 3) := by decide +kernel
theorem dX9_price_45 : decode cX9_price 45 = .ok (.iload_n 2, 1) := by decide +kernel
theorem dX9_price_46 : decode cX9_price 46 = .ok (.iload 4, 2) := by decide +kernel
theorem dX9_price_48 : decode cX9_price 48 = .ok (.if_icmp .ge 15, 3) := by decide +kernel
theorem dX9_price_51 : decode cX9_price 51 = .ok (.iload_n 3, 1) := by decide +kernel
theorem dX9_price_52 : decode cX9_price 52 = .ok (.iconst 1, 1) := by decide +kernel
theorem dX9_price_53 : decode cX9_price 53 = .ok (.if_icmp .lt 10, 3) := by decide +kernel
theorem dX9_price_56 : decode cX9_price 56 = .ok (.iload_n 3, 1) := by decide +kernel
theorem dX9_price_57 : decode cX9_price 57 = .ok (.sipush 1000, 3) := by decide +kernel
theorem dX9_price_60 : decode cX9_price 60 = .ok (.if_icmp .le 5, 3) := by decide +kernel
theorem dX9_price_63 : decode cX9_price 63 = .ok (.iconst 0, 1) := by decide +kernel
theorem dX9_price_64 : decode cX9_price 64 = .ok (.ireturn, 1) := by decide +kernel
theorem dX9_price_65 : decode cX9_price 65 = .ok (.aload_n 0, 1) := by decide +kernel
theorem dX9_price_66 : decode cX9_price 66 = .ok (.getfield 23, 3) := by decide +kernel
theorem dX9_price_69 : decode cX9_price 69 = .ok (.iload_n 1, 1) := by decide +kernel
theorem dX9_price_70 : decode cX9_price 70 = .ok (.ifCond .ne 7, 3) := by decide +kernel
theorem dX9_price_73 : decode cX9_price 73 = .ok (.iconst 0, 1) := by decide +kernel
theorem dX9_price_74 : decode cX9_price 74 = .ok (.goto 25, 3) := by decide +kernel
theorem dX9_price_77 : decode cX9_price 77 = .ok (.iload_n 1, 1) := by decide +kernel
theorem dX9_price_78 : decode cX9_price 78 = .ok (.iconst 1, 1) := by decide +kernel
theorem dX9_price_79 : decode cX9_price 79 = .ok (.if_icmp .ne 8, 3) := by decide +kernel
theorem dX9_price_82 : decode cX9_price 82 = .ok (.bipush 8, 2) := by decide +kernel
theorem dX9_price_84 : decode cX9_price 84 = .ok (.goto 15, 3) := by decide +kernel
theorem dX9_price_87 : decode cX9_price 87 = .ok (.iload_n 1, 1) := by decide +kernel
theorem dX9_price_88 : decode cX9_price 88 = .ok (.iconst 2, 1) := by decide +kernel
theorem dX9_price_89 : decode cX9_price 89 = .ok (.if_icmp .ne 8, 3) := by decide +kernel
theorem dX9_price_92 : decode cX9_price 92 = .ok (.bipush 9, 2) := by decide +kernel
theorem dX9_price_94 : decode cX9_price 94 = .ok (.goto 5, 3) := by decide +kernel
theorem dX9_price_97 : decode cX9_price 97 = .ok (.bipush 17, 2) := by decide +kernel
theorem dX9_price_99 : decode cX9_price 99 = .ok (.iload_n 2, 1) := by decide +kernel
theorem dX9_price_100 : decode cX9_price 100 = .ok (.iadd, 1) := by decide +kernel
theorem dX9_price_101 : decode cX9_price 101 = .ok (.iload_n 3, 1) := by decide +kernel
theorem dX9_price_102 : decode cX9_price 102 = .ok (.iastore, 1) := by decide +kernel
theorem dX9_price_103 : decode cX9_price 103 = .ok (.aload_n 0, 1) := by decide +kernel
theorem dX9_price_104 : decode cX9_price 104 = .ok (.iconst 0, 1) := by decide +kernel
theorem dX9_price_105 : decode cX9_price 105 = .ok (.putfield 73, 3) := by decide +kernel
theorem dX9_price_108 : decode cX9_price 108 = .ok (.iconst 1, 1) := by decide +kernel
theorem dX9_price_109 : decode cX9_price 109 = .ok (.ireturn, 1) := by decide +kernel
set_option maxRecDepth 20000 in
theorem ggX9_priceOf_X9_classOf : GoodIn wsX9_priceOf wsX9_classOf := goodIn_r _ [6] (by decide +kernel) (by decide +kernel)
set_option maxRecDepth 20000 in
theorem gX9_priceOf_X9_classOf : GoodIn wsX9_priceOf (va_wsS RX9 77 yX9_classOf wsX9_classOf) := goodIn_app (goodIn_of _ (by decide +kernel)) ggX9_priceOf_X9_classOf
theorem dX9_priceOf_0 : decode cX9_priceOf 0 = .ok (.iload_n 3, 1) := by decide +kernel
theorem dX9_priceOf_1 : decode cX9_priceOf 1 = .ok (.ifCond .ne 20, 3) := by decide +kernel
theorem dX9_priceOf_4 : decode cX9_priceOf 4 = .ok (.aload_n 0, 1) := by decide +kernel
theorem dX9_priceOf_5 : decode cX9_priceOf 5 = .ok (.getfield 23, 3) := by decide +kernel
theorem dX9_priceOf_8 : decode cX9_priceOf 8 = .ok (.aload_n 0, 1) := by decide +kernel
theorem dX9_priceOf_9 : decode cX9_priceOf 9 = .ok (.getfield 7, 3) := by decide +kernel
theorem dX9_priceOf_12 : decode cX9_priceOf 12 = .ok (.iload_n 1, 1) := by decide +kernel
theorem dX9_priceOf_13 : decode cX9_priceOf 13 = .ok (.iaload, 1) := by decide +kernel
theorem dX9_priceOf_14 : decode cX9_priceOf 14 = .ok (.bipush 32, 2) := by decide +kernel
theorem dX9_priceOf_16 : decode cX9_priceOf 16 = .ok (.idiv, 1) := by decide +kernel
theorem dX9_priceOf_17 : decode cX9_priceOf 17 = .ok (.iaload, 1) := by decide +kernel
theorem dX9_priceOf_18 : decode cX9_priceOf 18 = .ok (.goto 36, 3) := by decide +kernel
theorem dX9_priceOf_21 : decode cX9_priceOf 21 = .ok (.aload_n 0, 1) := by decide +kernel
theorem dX9_priceOf_22 : decode cX9_priceOf 22 = .ok (.getfield 23, 3) := by decide +kernel
theorem dX9_priceOf_25 : decode cX9_priceOf 25 = .ok (.bipush 8, 2) := by decide +kernel
theorem dX9_priceOf_27 : decode cX9_priceOf 27 = .ok (.iaload, 1) := by decide +kernel
theorem dX9_priceOf_28 : decode cX9_priceOf 28 = .ok (.aload_n 0, 1) := by decide +kernel
theorem dX9_priceOf_29 : decode cX9_priceOf 29 = .ok (.getfield 23, 3) := by decide +kernel
theorem dX9_priceOf_32 : decode cX9_priceOf 32 = .ok (.bipush 9, 2) := by decide +kernel
theorem dX9_priceOf_34 : decode cX9_priceOf 34 = .ok (.iload_n 2, 1) := by decide +kernel
theorem dX9_priceOf_35 : decode cX9_priceOf 35 = .ok (.invokestatic 77, 3) := by decide +kernel
theorem dX9_priceOf_38 : decode cX9_priceOf 38 = .ok (.iadd, 1) := by decide +kernel
theorem dX9_priceOf_39 : decode cX9_priceOf 39 = .ok (.iaload, 1) := by decide +kernel
theorem dX9_priceOf_40 : decode cX9_priceOf 40 = .ok (.iadd, 1) := by decide +kernel
theorem dX9_priceOf_41 : decode cX9_priceOf 41 = .ok (.aload_n 0, 1) := by decide +kernel
theorem dX9_priceOf_42 : decode cX9_priceOf 42 = .ok (.getfield 23, 3) := by decide +kernel
theorem dX9_priceOf_45 : decode cX9_priceOf 45 = .ok (.bipush 17, 2) := by decide +kernel
theorem dX9_priceOf_47 : decode cX9_priceOf 47 = .ok (.iload_n 3, 1) := by decide +kernel
theorem dX9_priceOf_48 : decode cX9_priceOf 48 = .ok (.invokestatic 77, 3) := by decide +kernel
theorem dX9_priceOf_51 : decode cX9_priceOf 51 = .ok (.iadd, 1) := by decide +kernel
theorem dX9_priceOf_52 : decode cX9_priceOf 52 = .ok (.iaload, 1) := by decide +kernel
theorem dX9_priceOf_53 : decode cX9_priceOf 53 = .ok (.iadd, 1) := by decide +kernel
theorem dX9_priceOf_54 : decode cX9_priceOf 54 = .ok (.ireturn, 1) := by decide +kernel
theorem dX9_longest_0 : decode cX9_longest 0 = .ok (.iload_n 2, 1) := by decide +kernel
theorem dX9_longest_1 : decode cX9_longest 1 = .ok (.iconst 1, 1) := by decide +kernel
theorem dX9_longest_2 : decode cX9_longest 2 = .ok (.if_icmp .lt 16, 3) := by decide +kernel
theorem dX9_longest_5 : decode cX9_longest 5 = .ok (.iload_n 2, 1) := by decide +kernel
theorem dX9_longest_6 : decode cX9_longest 6 = .ok (.aload_n 0, 1) := by decide +kernel
theorem dX9_longest_7 : decode cX9_longest 7 = .ok (.getfield 20, 3) := by decide +kernel
theorem dX9_longest_10 : decode cX9_longest 10 = .ok (.if_icmp .gt 8, 3) := by decide +kernel
theorem dX9_longest_13 : decode cX9_longest 13 = .ok (.iload_n 2, 1) := by decide +kernel
theorem dX9_longest_14 : decode cX9_longest 14 = .ok (.iload_n 1, 1) := by decide +kernel
theorem dX9_longest_15 : decode cX9_longest 15 = .ok (.if_icmp .le 5, 3) := by decide +kernel
theorem dX9_longest_18 : decode cX9_longest 18 = .ok (.iconst 0, 1) := by decide +kernel
theorem dX9_longest_19 : decode cX9_longest 19 = .ok (.ireturn, 1) := by decide +kernel
theorem dX9_longest_20 : decode cX9_longest 20 = .ok (.aload_n 0, 1) := by decide +kernel
theorem dX9_longest_21 : decode cX9_longest 21 = .ok (.getfield 27, 3) := by decide +kernel
theorem dX9_longest_24 : decode cX9_longest 24 = .ok (.sipush 501, 3) := by decide +kernel
theorem dX9_longest_27 : decode cX9_longest 27 = .ok (.iload_n 1, 1) := by decide +kernel
theorem dX9_longest_28 : decode cX9_longest 28 = .ok (.imul, 1) := by decide +kernel
theorem dX9_longest_29 : decode cX9_longest 29 = .ok (.iload_n 1, 1) := by decide +kernel
theorem dX9_longest_30 : decode cX9_longest 30 = .ok (.iadd, 1) := by decide +kernel
theorem dX9_longest_31 : decode cX9_longest 31 = .ok (.iload_n 2, 1) := by decide +kernel
theorem dX9_longest_32 : decode cX9_longest 32 = .ok (.isub, 1) := by decide +kernel
theorem dX9_longest_33 : decode cX9_longest 33 = .ok (.saload, 1) := by decide +kernel
theorem dX9_longest_34 : decode cX9_longest 34 = .ok (.istore_n 3, 1) := by decide +kernel
theorem dX9_longest_35 : decode cX9_longest 35 = .ok (.iload_n 3, 1) := by decide +kernel
theorem dX9_longest_36 : decode cX9_longest 36 = .ok (.aload_n 0, 1) := by decide +kernel
theorem dX9_longest_37 : decode cX9_longest 37 = .ok (.getfield 17, 3) := by decide +kernel
theorem dX9_longest_40 : decode cX9_longest 40 = .ok (.if_icmp .le 10, 3) := by decide +kernel
theorem dX9_longest_43 : decode cX9_longest 43 = .ok (.aload_n 0, 1) := by decide +kernel
theorem dX9_longest_44 : decode cX9_longest 44 = .ok (.getfield 17, 3) := by decide +kernel
theorem dX9_longest_47 : decode cX9_longest 47 = .ok (.goto 4, 3) := by decide +kernel
theorem dX9_longest_50 : decode cX9_longest 50 = .ok (.iload_n 3, 1) := by decide +kernel
theorem dX9_longest_51 : decode cX9_longest 51 = .ok (.istore_n 3, 1) := by decide +kernel
theorem dX9_longest_52 : decode cX9_longest 52 = .ok (.iload_n 3, 1) := by decide +kernel
theorem dX9_longest_53 : decode cX9_longest 53 = .ok (.aload_n 0, 1) := by decide +kernel
theorem dX9_longest_54 : decode cX9_longest 54 = .ok (.getfield 13, 3) := by decide +kernel
theorem dX9_longest_57 : decode cX9_longest 57 = .ok (.if_icmp .ge 7, 3) := by decide +kernel
theorem dX9_longest_60 : decode cX9_longest 60 = .ok (.iconst 0, 1) := by decide +kernel
theorem dX9_longest_61 : decode cX9_longest 61 = .ok (.goto 4, 3) := by decide +kernel
theorem dX9_longest_64 : decode cX9_longest 64 = .ok (.iload_n 3, 1) := by decide +kernel
theorem dX9_longest_65 : decode cX9_longest 65 = .ok (.ireturn, 1) := by decide +kernel
set_option maxRecDepth 20000 in
theorem ggX9_know_X9_priceOf : GoodIn wsX9_know wsX9_priceOf := goodIn_r _ [12, 13, 4, 14, 15, 11, 16, 27, 28, 29, 30, 31, 32, 33, 34, 35, 36, 37, 38, 39, 40, 41, 42, 43, 44, 45, 46, 47, 48, 49, 50, 51, 52, 53, 54, 55, 56, 57] (by decide +kernel) (by decide +kernel)
set_option maxRecDepth 20000 in
theorem gX9_know_X9_priceOf : GoodIn wsX9_know (wsV RX9 81 RX9 yX9_priceOf wsX9_priceOf) := goodIn_app (goodIn_of _ (by decide +kernel)) ggX9_know_X9_priceOf
set_option maxRecDepth 20000 in
theorem ggX9_know_X9_findFar : GoodIn wsX9_know wsX9_findFar := goodIn_r _ [20, 7, 21, 22, 23, 11, 24, 25, 3, 26, 6, 27, 28, 29, 30, 31, 32, 33, 34, 35, 36, 37, 38, 39, 40, 41, 42, 43, 44, 45, 46, 47, 48, 49, 50, 51, 52, 53, 54, 55, 56, 57] (by decide +kernel) (by decide +kernel)
set_option maxRecDepth 20000 in
theorem gX9_know_X9_findFar : GoodIn wsX9_know (wsV RX9 85 RX9 yX9_findFar wsX9_findFar) := goodIn_app (goodIn_of _ (by decide +kernel)) ggX9_know_X9_findFar
theorem dX9_know_0 : decode cX9_know 0 = .ok (.aload_n 0, 1) := by decide +kernel
theorem dX9_know_1 : decode cX9_know 1 = .ok (.getfield 73, 3) := by decide +kernel
theorem dX9_know_4 : decode cX9_know 4 = .ok (.ifCond .eq 4, 3) := by decide +kernel
theorem dX9_know_7 : decode cX9_know 7 = .ok (.return_, 1) := by decide +kernel
theorem dX9_know_8 : decode cX9_know 8 = .ok (.aload_n 0, 1) := by decide +kernel
theorem dX9_know_9 : decode cX9_know 9 = .ok (.iconst 1, 1) := by decide +kernel
theorem dX9_know_10 : decode cX9_know 10 = .ok (.putfield 73, 3) := by decide +kernel
theorem dX9_know_13 : decode cX9_know 13 = .ok (.aload_n 0, 1) := by decide +kernel
theorem dX9_know_14 : decode cX9_know 14 = .ok (.getfield 68, 3) := by decide +kernel
theorem dX9_know_17 : decode cX9_know 17 = .ok (.iconst 1, 1) := by decide +kernel
theorem dX9_know_18 : decode cX9_know 18 = .ok (.isub, 1) := by decide +kernel
theorem dX9_know_19 : decode cX9_know 19 = .ok (.istore_n 1, 1) := by decide +kernel
theorem dX9_know_20 : decode cX9_know 20 = .ok (.iload_n 1, 1) := by decide +kernel
theorem dX9_know_21 : decode cX9_know 21 = .ok (.ifCond .lt 88, 3) := by decide +kernel
theorem dX9_know_24 : decode cX9_know 24 = .ok (.iconst 0, 1) := by decide +kernel
theorem dX9_know_25 : decode cX9_know 25 = .ok (.istore_n 2, 1) := by decide +kernel
theorem dX9_know_26 : decode cX9_know 26 = .ok (.iload_n 2, 1) := by decide +kernel
theorem dX9_know_27 : decode cX9_know 27 = .ok (.iload_n 1, 1) := by decide +kernel
theorem dX9_know_28 : decode cX9_know 28 = .ok (.if_icmp .ge 75, 3) := by decide +kernel
theorem dX9_know_31 : decode cX9_know 31 = .ok (.iload_n 1, 1) := by decide +kernel
theorem dX9_know_32 : decode cX9_know 32 = .ok (.iconst 1, 1) := by decide +kernel
theorem dX9_know_33 : decode cX9_know 33 = .ok (.iadd, 1) := by decide +kernel
theorem dX9_know_34 : decode cX9_know 34 = .ok (.aload_n 0, 1) := by decide +kernel
theorem dX9_know_35 : decode cX9_know 35 = .ok (.getfield 68, 3) := by decide +kernel
theorem dX9_know_38 : decode cX9_know 38 = .ok (.if_icmp .ge 22, 3) := by decide +kernel
theorem dX9_know_41 : decode cX9_know 41 = .ok (.aload_n 0, 1) := by decide +kernel
theorem dX9_know_42 : decode cX9_know 42 = .ok (.getfield 27, 3) := by decide +kernel
theorem dX9_know_45 : decode cX9_know 45 = .ok (.sipush 501, 3) := by decide +kernel
theorem dX9_know_48 : decode cX9_know 48 = .ok (.iload_n 1, 1) := by decide +kernel
theorem dX9_know_49 : decode cX9_know 49 = .ok (.iconst 1, 1) := by decide +kernel
theorem dX9_know_50 : decode cX9_know 50 = .ok (.iadd, 1) := by decide +kernel
theorem dX9_know_51 : decode cX9_know 51 = .ok (.imul, 1) := by decide +kernel
theorem dX9_know_52 : decode cX9_know 52 = .ok (.iload_n 2, 1) := by decide +kernel
theorem dX9_know_53 : decode cX9_know 53 = .ok (.iadd, 1) := by decide +kernel
theorem dX9_know_54 : decode cX9_know 54 = .ok (.iconst 1, 1) := by decide +kernel
theorem dX9_know_55 : decode cX9_know 55 = .ok (.iadd, 1) := by decide +kernel
theorem dX9_know_56 : decode cX9_know 56 = .ok (.saload, 1) := by decide +kernel
theorem dX9_know_57 : decode cX9_know 57 = .ok (.goto 4, 3) := by decide +kernel
theorem dX9_know_60 : decode cX9_know 60 = .ok (.iconst 0, 1) := by decide +kernel
theorem dX9_know_61 : decode cX9_know 61 = .ok (.istore_n 3, 1) := by decide +kernel
theorem dX9_know_62 : decode cX9_know 62 = .ok (.aload_n 0, 1) := by decide +kernel
theorem dX9_know_63 : decode cX9_know 63 = .ok (.getfield 27, 3) := by decide +kernel
theorem dX9_know_66 : decode cX9_know 66 = .ok (.sipush 501, 3) := by decide +kernel
theorem dX9_know_69 : decode cX9_know 69 = .ok (.iload_n 1, 1) := by decide +kernel
theorem dX9_know_70 : decode cX9_know 70 = .ok (.imul, 1) := by decide +kernel
theorem dX9_know_71 : decode cX9_know 71 = .ok (.iload_n 2, 1) := by decide +kernel
theorem dX9_know_72 : decode cX9_know 72 = .ok (.iadd, 1) := by decide +kernel
theorem dX9_know_73 : decode cX9_know 73 = .ok (.aload_n 0, 1) := by decide +kernel
theorem dX9_know_74 : decode cX9_know 74 = .ok (.getfield 7, 3) := by decide +kernel
theorem dX9_know_77 : decode cX9_know 77 = .ok (.iload_n 1, 1) := by decide +kernel
theorem dX9_know_78 : decode cX9_know 78 = .ok (.iaload, 1) := by decide +kernel
theorem dX9_know_79 : decode cX9_know 79 = .ok (.aload_n 0, 1) := by decide +kernel
theorem dX9_know_80 : decode cX9_know 80 = .ok (.getfield 7, 3) := by decide +kernel
theorem dX9_know_83 : decode cX9_know 83 = .ok (.iload_n 2, 1) := by decide +kernel
theorem dX9_know_84 : decode cX9_know 84 = .ok (.iaload, 1) := by decide +kernel
theorem dX9_know_85 : decode cX9_know 85 = .ok (.if_icmp .ne 9, 3) := by decide +kernel
theorem dX9_know_88 : decode cX9_know 88 = .ok (.iload_n 3, 1) := by decide +kernel
theorem dX9_know_89 : decode cX9_know 89 = .ok (.iconst 1, 1) := by decide +kernel
theorem dX9_know_90 : decode cX9_know 90 = .ok (.iadd, 1) := by decide +kernel
theorem dX9_know_91 : decode cX9_know 91 = .ok (.goto 4, 3) := by decide +kernel
theorem dX9_know_94 : decode cX9_know 94 = .ok (.iconst 0, 1) := by decide +kernel
theorem dX9_know_95 : decode cX9_know 95 = .ok (.i2s, 1) := by decide +kernel
theorem dX9_know_96 : decode cX9_know 96 = .ok (.sastore, 1) := by decide +kernel
theorem dX9_know_97 : decode cX9_know 97 = .ok (.iinc 2 1, 3) := by decide +kernel
theorem dX9_know_100 : decode cX9_know 100 = .ok (.goto (-74), 3) := by decide +kernel
theorem dX9_know_103 : decode cX9_know 103 = .ok (.iinc 1 (-1), 3) := by decide +kernel
theorem dX9_know_106 : decode cX9_know 106 = .ok (.goto (-86), 3) := by decide +kernel
theorem dX9_know_109 : decode cX9_know 109 = .ok (.aload_n 0, 1) := by decide +kernel
theorem dX9_know_110 : decode cX9_know 110 = .ok (.getfield 31, 3) := by decide +kernel
theorem dX9_know_113 : decode cX9_know 113 = .ok (.aload_n 0, 1) := by decide +kernel
theorem dX9_know_114 : decode cX9_know 114 = .ok (.getfield 68, 3) := by decide +kernel
theorem dX9_know_117 : decode cX9_know 117 = .ok (.iconst 0, 1) := by decide +kernel
theorem dX9_know_118 : decode cX9_know 118 = .ok (.iastore, 1) := by decide +kernel
theorem dX9_know_119 : decode cX9_know 119 = .ok (.aload_n 0, 1) := by decide +kernel
theorem dX9_know_120 : decode cX9_know 120 = .ok (.getfield 68, 3) := by decide +kernel
theorem dX9_know_123 : decode cX9_know 123 = .ok (.iconst 1, 1) := by decide +kernel
theorem dX9_know_124 : decode cX9_know 124 = .ok (.isub, 1) := by decide +kernel
theorem dX9_know_125 : decode cX9_know 125 = .ok (.istore_n 1, 1) := by decide +kernel
theorem dX9_know_126 : decode cX9_know 126 = .ok (.iload_n 1, 1) := by decide +kernel
theorem dX9_know_127 : decode cX9_know 127 = .ok (.ifCond .lt 110, 3) := by decide +kernel
theorem dX9_know_130 : decode cX9_know 130 = .ok (.aload_n 0, 1) := by decide +kernel
theorem dX9_know_131 : decode cX9_know 131 = .ok (.iload_n 1, 1) := by decide +kernel
theorem dX9_know_132 : decode cX9_know 132 = .ok (.iconst 1, 1) := by decide +kernel
theorem dX9_know_133 : decode cX9_know 133 = .ok (.iconst 0, 1) := by decide +kernel
theorem dX9_know_134 : decode cX9_know 134 = .ok (.invokevirtual 81, 3) := by decide +kernel
theorem dX9_know_137 : decode cX9_know 137 = .ok (.aload_n 0, 1) := by decide +kernel
theorem dX9_know_138 : decode cX9_know 138 = .ok (.getfield 31, 3) := by decide +kernel
theorem dX9_know_141 : decode cX9_know 141 = .ok (.iload_n 1, 1) := by decide +kernel
theorem dX9_know_142 : decode cX9_know 142 = .ok (.iconst 1, 1) := by decide +kernel
theorem dX9_know_143 : decode cX9_know 143 = .ok (.iadd, 1) := by decide +kernel
theorem dX9_know_144 : decode cX9_know 144 = .ok (.iaload, 1) := by decide +kernel
theorem dX9_know_145 : decode cX9_know 145 = .ok (.iadd, 1) := by decide +kernel
theorem dX9_know_146 : decode cX9_know 146 = .ok (.istore_n 2, 1) := by decide +kernel
theorem dX9_know_147 : decode cX9_know 147 = .ok (.aload_n 0, 1) := by decide +kernel
theorem dX9_know_148 : decode cX9_know 148 = .ok (.iload_n 1, 1) := by decide +kernel
theorem dX9_know_149 : decode cX9_know 149 = .ok (.invokevirtual 85, 3) := by decide +kernel
theorem dX9_know_152 : decode cX9_know 152 = .ok (.iconst 0, 1) := by decide +kernel
theorem dX9_know_153 : decode cX9_know 153 = .ok (.istore_n 3, 1) := by decide +kernel
theorem dX9_know_154 : decode cX9_know 154 = .ok (.iload_n 3, 1) := by decide +kernel
theorem dX9_know_155 : decode cX9_know 155 = .ok (.bipush 9, 2) := by decide +kernel
theorem dX9_know_157 : decode cX9_know 157 = .ok (.if_icmp .ge 67, 3) := by decide +kernel
theorem dX9_know_160 : decode cX9_know 160 = .ok (.aload_n 0, 1) := by decide +kernel
theorem dX9_know_161 : decode cX9_know 161 = .ok (.getfield 13, 3) := by decide +kernel
theorem dX9_know_164 : decode cX9_know 164 = .ok (.istore 4, 2) := by decide +kernel
theorem dX9_know_166 : decode cX9_know 166 = .ok (.iload 4, 2) := by decide +kernel
theorem dX9_know_168 : decode cX9_know 168 = .ok (.aload_n 0, 1) := by decide +kernel
theorem dX9_know_169 : decode cX9_know 169 = .ok (.getfield 62, 3) := by decide +kernel
theorem dX9_know_172 : decode cX9_know 172 = .ok (.iload_n 3, 1) := by decide +kernel
theorem dX9_know_173 : decode cX9_know 173 = .ok (.iaload, 1) := by decide +kernel
theorem dX9_know_174 : decode cX9_know 174 = .ok (.if_icmp .gt 44, 3) := by decide +kernel
theorem dX9_know_177 : decode cX9_know 177 = .ok (.aload_n 0, 1) := by decide +kernel
theorem dX9_know_178 : decode cX9_know 178 = .ok (.iload_n 1, 1) := by decide +kernel
theorem dX9_know_179 : decode cX9_know 179 = .ok (.iload 4, 2) := by decide +kernel
theorem dX9_know_181 : decode cX9_know 181 = .ok (.iconst 1, 1) := by decide +kernel
theorem dX9_know_182 : decode cX9_know 182 = .ok (.iload_n 3, 1) := by decide +kernel
theorem dX9_know_183 : decode cX9_know 183 = .ok (.ishl, 1) := by decide +kernel
theorem dX9_know_184 : decode cX9_know 184 = .ok (.invokevirtual 81, 3) := by decide +kernel
theorem dX9_know_187 : decode cX9_know 187 = .ok (.aload_n 0, 1) := by decide +kernel
theorem dX9_know_188 : decode cX9_know 188 = .ok (.getfield 31, 3) := by decide +kernel
theorem dX9_know_191 : decode cX9_know 191 = .ok (.iload_n 1, 1) := by decide +kernel
theorem dX9_know_192 : decode cX9_know 192 = .ok (.iload 4, 2) := by decide +kernel
theorem dX9_know_194 : decode cX9_know 194 = .ok (.iadd, 1) := by decide +kernel
theorem dX9_know_195 : decode cX9_know 195 = .ok (.iaload, 1) := by decide +kernel
theorem dX9_know_196 : decode cX9_know 196 = .ok (.iadd, 1) := by decide +kernel
theorem dX9_know_197 : decode cX9_know 197 = .ok (.istore 5, 2) := by decide +kernel
theorem dX9_know_199 : decode cX9_know 199 = .ok (.iload 5, 2) := by decide +kernel
theorem dX9_know_201 : decode cX9_know 201 = .ok (.iload_n 2, 1) := by decide +kernel
theorem dX9_know_202 : decode cX9_know 202 = .ok (.if_icmp .ge 8, 3) := by decide +kernel
theorem dX9_know_205 : decode cX9_know 205 = .ok (.iload 5, 2) := by decide +kernel
theorem dX9_know_207 : decode cX9_know 207 = .ok (.goto 4, 3) := by decide +kernel
theorem dX9_know_210 : decode cX9_know 210 = .ok (.iload_n 2, 1) := by decide +kernel
theorem dX9_know_211 : decode cX9_know 211 = .ok (.istore_n 2, 1) := by decide +kernel
theorem dX9_know_212 : decode cX9_know 212 = .ok (.iinc 4 1, 3) := by decide +kernel
theorem dX9_know_215 : decode cX9_know 215 = .ok (.goto (-49), 3) := by decide +kernel
theorem dX9_know_218 : decode cX9_know 218 = .ok (.iinc 3 1, 3) := by decide +kernel
theorem dX9_know_221 : decode cX9_know 221 = .ok (.goto (-67), 3) := by decide +kernel
theorem dX9_know_224 : decode cX9_know 224 = .ok (.aload_n 0, 1) := by decide +kernel
theorem dX9_know_225 : decode cX9_know 225 = .ok (.getfield 31, 3) := by decide +kernel
theorem dX9_know_228 : decode cX9_know 228 = .ok (.iload_n 1, 1) := by decide +kernel
theorem dX9_know_229 : decode cX9_know 229 = .ok (.iload_n 2, 1) := by decide +kernel
theorem dX9_know_230 : decode cX9_know 230 = .ok (.iastore, 1) := by decide +kernel
theorem dX9_know_231 : decode cX9_know 231 = .ok (.iinc 1 (-1), 3) := by decide +kernel
theorem dX9_know_234 : decode cX9_know 234 = .ok (.goto (-108), 3) := by decide +kernel
theorem dX9_know_237 : decode cX9_know 237 = .ok (.return_, 1) := by decide +kernel
set_option maxRecDepth 20000 in
theorem ggX9_findFar_X9_longest : GoodIn wsX9_findFar wsX9_longest := goodIn_r _ [6, 7, 8, 9, 10, 11, 12, 13, 14, 15, 16, 17, 18, 19, 20, 21, 22, 23, 24, 25, 26, 27, 28, 29, 30, 31, 32, 33, 34, 35, 36, 37, 38, 39, 40, 41] (by decide +kernel) (by decide +kernel)
set_option maxRecDepth 20000 in
theorem gX9_findFar_X9_longest : GoodIn wsX9_findFar (wsV RX9 89 RX9 yX9_longest wsX9_longest) := goodIn_app (goodIn_of _ (by decide +kernel)) ggX9_findFar_X9_longest
theorem dX9_findFar_0 : decode cX9_findFar 0 = .ok (.iconst 0, 1) := by decide +kernel
theorem dX9_findFar_1 : decode cX9_findFar 1 = .ok (.istore_n 2, 1) := by decide +kernel
theorem dX9_findFar_2 : decode cX9_findFar 2 = .ok (.iload_n 2, 1) := by decide +kernel
theorem dX9_findFar_3 : decode cX9_findFar 3 = .ok (.bipush 9, 2) := by decide +kernel
theorem dX9_findFar_5 : decode cX9_findFar 5 = .ok (.if_icmp .ge 74, 3) := by decide +kernel
theorem dX9_findFar_8 : decode cX9_findFar 8 = .ok (.aload_n 0, 1) := by decide +kernel
theorem dX9_findFar_9 : decode cX9_findFar 9 = .ok (.getfield 62, 3) := by decide +kernel
theorem dX9_findFar_12 : decode cX9_findFar 12 = .ok (.iload_n 2, 1) := by decide +kernel
theorem dX9_findFar_13 : decode cX9_findFar 13 = .ok (.iconst 0, 1) := by decide +kernel
theorem dX9_findFar_14 : decode cX9_findFar 14 = .ok (.iastore, 1) := by decide +kernel
theorem dX9_findFar_15 : decode cX9_findFar 15 = .ok (.iconst 1, 1) := by decide +kernel
theorem dX9_findFar_16 : decode cX9_findFar 16 = .ok (.iload_n 2, 1) := by decide +kernel
theorem dX9_findFar_17 : decode cX9_findFar 17 = .ok (.ishl, 1) := by decide +kernel
theorem dX9_findFar_18 : decode cX9_findFar 18 = .ok (.istore_n 3, 1) := by decide +kernel
theorem dX9_findFar_19 : decode cX9_findFar 19 = .ok (.iload_n 3, 1) := by decide +kernel
theorem dX9_findFar_20 : decode cX9_findFar 20 = .ok (.iconst 2, 1) := by decide +kernel
theorem dX9_findFar_21 : decode cX9_findFar 21 = .ok (.iload_n 2, 1) := by decide +kernel
theorem dX9_findFar_22 : decode cX9_findFar 22 = .ok (.ishl, 1) := by decide +kernel
theorem dX9_findFar_23 : decode cX9_findFar 23 = .ok (.if_icmp .ge 50, 3) := by decide +kernel
theorem dX9_findFar_26 : decode cX9_findFar 26 = .ok (.iload_n 3, 1) := by decide +kernel
theorem dX9_findFar_27 : decode cX9_findFar 27 = .ok (.iload_n 1, 1) := by decide +kernel
theorem dX9_findFar_28 : decode cX9_findFar 28 = .ok (.if_icmp .gt 45, 3) := by decide +kernel
theorem dX9_findFar_31 : decode cX9_findFar 31 = .ok (.aload_n 0, 1) := by decide +kernel
theorem dX9_findFar_32 : decode cX9_findFar 32 = .ok (.getfield 62, 3) := by decide +kernel
theorem dX9_findFar_35 : decode cX9_findFar 35 = .ok (.iload_n 2, 1) := by decide +kernel
theorem dX9_findFar_36 : decode cX9_findFar 36 = .ok (.aload_n 0, 1) := by decide +kernel
theorem dX9_findFar_37 : decode cX9_findFar 37 = .ok (.iload_n 1, 1) := by decide +kernel
theorem dX9_findFar_38 : decode cX9_findFar 38 = .ok (.iload_n 3, 1) := by decide +kernel
theorem dX9_findFar_39 : decode cX9_findFar 39 = .ok (.invokevirtual 89, 3) := by decide +kernel
theorem dX9_findFar_42 : decode cX9_findFar 42 = .ok (.aload_n 0, 1) := by decide +kernel
theorem dX9_findFar_43 : decode cX9_findFar 43 = .ok (.getfield 62, 3) := by decide +kernel
theorem dX9_findFar_46 : decode cX9_findFar 46 = .ok (.iload_n 2, 1) := by decide +kernel
theorem dX9_findFar_47 : decode cX9_findFar 47 = .ok (.iaload, 1) := by decide +kernel
theorem dX9_findFar_48 : decode cX9_findFar 48 = .ok (.if_icmp .le 12, 3) := by decide +kernel
theorem dX9_findFar_51 : decode cX9_findFar 51 = .ok (.aload_n 0, 1) := by decide +kernel
theorem dX9_findFar_52 : decode cX9_findFar 52 = .ok (.iload_n 1, 1) := by decide +kernel
theorem dX9_findFar_53 : decode cX9_findFar 53 = .ok (.iload_n 3, 1) := by decide +kernel
theorem dX9_findFar_54 : decode cX9_findFar 54 = .ok (.invokevirtual 89, 3) := by decide +kernel
theorem dX9_findFar_57 : decode cX9_findFar 57 = .ok (.goto 9, 3) := by decide +kernel
theorem dX9_findFar_60 : decode cX9_findFar 60 = .ok (.aload_n 0, 1) := by decide +kernel
theorem dX9_findFar_61 : decode cX9_findFar 61 = .ok (.getfield 62, 3) := by decide +kernel
theorem dX9_findFar_64 : decode cX9_findFar 64 = .ok (.iload_n 2, 1) := by decide +kernel
theorem dX9_findFar_65 : decode cX9_findFar 65 = .ok (.iaload, 1) := by decide +kernel
theorem dX9_findFar_66 : decode cX9_findFar 66 = .ok (.iastore, 1) := by decide +kernel
theorem dX9_findFar_67 : decode cX9_findFar 67 = .ok (.iinc 3 1, 3) := by decide +kernel
theorem dX9_findFar_70 : decode cX9_findFar 70 = .ok (.goto (-51), 3) := by decide +kernel
theorem dX9_findFar_73 : decode cX9_findFar 73 = .ok (.iinc 2 1, 3) := by decide +kernel
theorem dX9_findFar_76 : decode cX9_findFar 76 = .ok (.goto (-74), 3) := by decide +kernel
theorem dX9_findFar_79 : decode cX9_findFar 79 = .ok (.return_, 1) := by decide +kernel
set_option maxRecDepth 20000 in
theorem ggX9_goOn_X9_priceOf : GoodIn wsX9_goOn wsX9_priceOf := goodIn_r _ [12, 13, 14, 15, 16, 11, 17, 18, 19, 20, 21, 22, 23, 24, 25, 26, 27, 28, 29, 30, 31, 32, 33, 34, 35, 36, 37, 38, 39, 40, 41, 42, 43, 44, 45, 46, 47, 48] (by decide +kernel) (by decide +kernel)
set_option maxRecDepth 20000 in
theorem gX9_goOn_X9_priceOf : GoodIn wsX9_goOn (wsV RX9 81 RX9 yX9_priceOf wsX9_priceOf) := goodIn_app (goodIn_of _ (by decide +kernel)) ggX9_goOn_X9_priceOf
set_option maxRecDepth 20000 in
theorem ggX9_goOn_X9_classOf : GoodIn wsX9_goOn wsX9_classOf := goodIn_r _ [17] (by decide +kernel) (by decide +kernel)
set_option maxRecDepth 20000 in
theorem gX9_goOn_X9_classOf : GoodIn wsX9_goOn (va_wsS RX9 77 yX9_classOf wsX9_classOf) := goodIn_app (goodIn_of _ (by decide +kernel)) ggX9_goOn_X9_classOf
theorem dX9_goOn_0 : decode cX9_goOn 0 = .ok (.aload_n 0, 1) := by decide +kernel
theorem dX9_goOn_1 : decode cX9_goOn 1 = .ok (.getfield 34, 3) := by decide +kernel
theorem dX9_goOn_4 : decode cX9_goOn 4 = .ok (.aload_n 0, 1) := by decide +kernel
theorem dX9_goOn_5 : decode cX9_goOn 5 = .ok (.getfield 93, 3) := by decide +kernel
theorem dX9_goOn_8 : decode cX9_goOn 8 = .ok (.iload_n 1, 1) := by decide +kernel
theorem dX9_goOn_9 : decode cX9_goOn 9 = .ok (.iastore, 1) := by decide +kernel
theorem dX9_goOn_10 : decode cX9_goOn 10 = .ok (.aload_n 0, 1) := by decide +kernel
theorem dX9_goOn_11 : decode cX9_goOn 11 = .ok (.getfield 37, 3) := by decide +kernel
theorem dX9_goOn_14 : decode cX9_goOn 14 = .ok (.aload_n 0, 1) := by decide +kernel
theorem dX9_goOn_15 : decode cX9_goOn 15 = .ok (.getfield 93, 3) := by decide +kernel
theorem dX9_goOn_18 : decode cX9_goOn 18 = .ok (.iload_n 2, 1) := by decide +kernel
theorem dX9_goOn_19 : decode cX9_goOn 19 = .ok (.iastore, 1) := by decide +kernel
theorem dX9_goOn_20 : decode cX9_goOn 20 = .ok (.aload_n 0, 1) := by decide +kernel
theorem dX9_goOn_21 : decode cX9_goOn 21 = .ok (.getfield 40, 3) := by decide +kernel
theorem dX9_goOn_24 : decode cX9_goOn 24 = .ok (.aload_n 0, 1) := by decide +kernel
theorem dX9_goOn_25 : decode cX9_goOn 25 = .ok (.getfield 93, 3) := by decide +kernel
theorem dX9_goOn_28 : decode cX9_goOn 28 = .ok (.iload_n 3, 1) := by decide +kernel
theorem dX9_goOn_29 : decode cX9_goOn 29 = .ok (.iastore, 1) := by decide +kernel
theorem dX9_goOn_30 : decode cX9_goOn 30 = .ok (.aload_n 0, 1) := by decide +kernel
theorem dX9_goOn_31 : decode cX9_goOn 31 = .ok (.dup, 1) := by decide +kernel
theorem dX9_goOn_32 : decode cX9_goOn 32 = .ok (.getfield 93, 3) := by decide +kernel
theorem dX9_goOn_35 : decode cX9_goOn 35 = .ok (.iconst 1, 1) := by decide +kernel
theorem dX9_goOn_36 : decode cX9_goOn 36 = .ok (.iadd, 1) := by decide +kernel
theorem dX9_goOn_37 : decode cX9_goOn 37 = .ok (.putfield 93, 3) := by decide +kernel
theorem dX9_goOn_40 : decode cX9_goOn 40 = .ok (.aload_n 0, 1) := by decide +kernel
theorem dX9_goOn_41 : decode cX9_goOn 41 = .ok (.aload_n 0, 1) := by decide +kernel
theorem dX9_goOn_42 : decode cX9_goOn 42 = .ok (.getfield 96, 3) := by decide +kernel
theorem dX9_goOn_45 : decode cX9_goOn 45 = .ok (.aload_n 0, 1) := by decide +kernel
theorem dX9_goOn_46 : decode cX9_goOn 46 = .ok (.iload_n 1, 1) := by decide +kernel
theorem dX9_goOn_47 : decode cX9_goOn 47 = .ok (.iload_n 2, 1) := by decide +kernel
theorem dX9_goOn_48 : decode cX9_goOn 48 = .ok (.iload_n 3, 1) := by decide +kernel
theorem dX9_goOn_49 : decode cX9_goOn 49 = .ok (.invokevirtual 81, 3) := by decide +kernel
theorem dX9_goOn_52 : decode cX9_goOn 52 = .ok (.iadd, 1) := by decide +kernel
theorem dX9_goOn_53 : decode cX9_goOn 53 = .ok (.putfield 96, 3) := by decide +kernel
theorem dX9_goOn_56 : decode cX9_goOn 56 = .ok (.aload_n 0, 1) := by decide +kernel
theorem dX9_goOn_57 : decode cX9_goOn 57 = .ok (.aload_n 0, 1) := by decide +kernel
theorem dX9_goOn_58 : decode cX9_goOn 58 = .ok (.getfield 99, 3) := by decide +kernel
theorem dX9_goOn_61 : decode cX9_goOn 61 = .ok (.iload_n 3, 1) := by decide +kernel
theorem dX9_goOn_62 : decode cX9_goOn 62 = .ok (.ifCond .ne 8, 3) := by decide +kernel
theorem dX9_goOn_65 : decode cX9_goOn 65 = .ok (.bipush 9, 2) := by decide +kernel
theorem dX9_goOn_67 : decode cX9_goOn 67 = .ok (.goto 27, 3) := by decide +kernel
theorem dX9_goOn_70 : decode cX9_goOn 70 = .ok (.iconst 1, 1) := by decide +kernel
theorem dX9_goOn_71 : decode cX9_goOn 71 = .ok (.iconst 2, 1) := by decide +kernel
theorem dX9_goOn_72 : decode cX9_goOn 72 = .ok (.iload_n 2, 1) := by decide +kernel
theorem dX9_goOn_73 : decode cX9_goOn 73 = .ok (.aload_n 0, 1) := by decide +kernel
theorem dX9_goOn_74 : decode cX9_goOn 74 = .ok (.getfield 13, 3) := by decide +kernel
theorem dX9_goOn_77 : decode cX9_goOn 77 = .ok (.isub, 1) := by decide +kernel
theorem dX9_goOn_78 : decode cX9_goOn 78 = .ok (.iconst 1, 1) := by decide +kernel
theorem dX9_goOn_79 : decode cX9_goOn 79 = .ok (.iadd, 1) := by decide +kernel
theorem dX9_goOn_80 : decode cX9_goOn 80 = .ok (.invokestatic 77, 3) := by decide +kernel
theorem dX9_goOn_83 : decode cX9_goOn 83 = .ok (.imul, 1) := by decide +kernel
theorem dX9_goOn_84 : decode cX9_goOn 84 = .ok (.iadd, 1) := by decide +kernel
theorem dX9_goOn_85 : decode cX9_goOn 85 = .ok (.iconst 1, 1) := by decide +kernel
theorem dX9_goOn_86 : decode cX9_goOn 86 = .ok (.iadd, 1) := by decide +kernel
theorem dX9_goOn_87 : decode cX9_goOn 87 = .ok (.iconst 4, 1) := by decide +kernel
theorem dX9_goOn_88 : decode cX9_goOn 88 = .ok (.iadd, 1) := by decide +kernel
theorem dX9_goOn_89 : decode cX9_goOn 89 = .ok (.iload_n 3, 1) := by decide +kernel
theorem dX9_goOn_90 : decode cX9_goOn 90 = .ok (.invokestatic 77, 3) := by decide +kernel
theorem dX9_goOn_93 : decode cX9_goOn 93 = .ok (.iadd, 1) := by decide +kernel
theorem dX9_goOn_94 : decode cX9_goOn 94 = .ok (.iadd, 1) := by decide +kernel
theorem dX9_goOn_95 : decode cX9_goOn 95 = .ok (.putfield 99, 3) := by decide +kernel
theorem dX9_goOn_98 : decode cX9_goOn 98 = .ok (.return_, 1) := by decide +kernel
set_option maxRecDepth 20000 in
theorem ggX9_stepCheaply_X9_findFar : GoodIn wsX9_stepCheaply wsX9_findFar := goodIn_r _ [10, 4, 11, 12, 13, 9, 14, 15, 16, 2, 1, 36, 37, 38, 39, 40, 41, 42, 43, 44, 45, 46, 47, 48, 49, 50, 51, 52, 53, 54, 55, 56, 57, 58, 59, 60, 61, 62, 63, 64, 65, 66] (by decide +kernel) (by decide +kernel)
set_option maxRecDepth 20000 in
theorem gX9_stepCheaply_X9_findFar : GoodIn wsX9_stepCheaply (wsV RX9 85 RX9 yX9_findFar wsX9_findFar) := goodIn_app (goodIn_of _ (by decide +kernel)) ggX9_stepCheaply_X9_findFar
set_option maxRecDepth 20000 in
theorem ggX9_stepCheaply_X9_priceOf : GoodIn wsX9_stepCheaply wsX9_priceOf := goodIn_r _ [20, 21, 22, 23, 24, 9, 25, 36, 37, 38, 39, 40, 41, 42, 43, 44, 45, 46, 47, 48, 49, 50, 51, 52, 53, 54, 55, 56, 57, 58, 59, 60, 61, 62, 63, 64, 65, 66] (by decide +kernel) (by decide +kernel)
set_option maxRecDepth 20000 in
theorem gX9_stepCheaply_X9_priceOf : GoodIn wsX9_stepCheaply (wsV RX9 81 RX9 yX9_priceOf wsX9_priceOf) := goodIn_app (goodIn_of _ (by decide +kernel)) ggX9_stepCheaply_X9_priceOf
set_option maxRecDepth 20000 in
theorem ggX9_stepCheaply_X9_longest : GoodIn wsX9_stepCheaply wsX9_longest := goodIn_r _ [14, 15, 16, 2, 1, 36, 37, 38, 39, 40, 41, 42, 43, 44, 45, 46, 47, 48, 49, 50, 51, 52, 53, 54, 55, 56, 57, 58, 59, 60, 61, 62, 63, 64, 65, 66] (by decide +kernel) (by decide +kernel)
set_option maxRecDepth 20000 in
theorem gX9_stepCheaply_X9_longest : GoodIn wsX9_stepCheaply (wsV RX9 89 RX9 yX9_longest wsX9_longest) := goodIn_app (goodIn_of _ (by decide +kernel)) ggX9_stepCheaply_X9_longest
set_option maxRecDepth 20000 in
theorem ggX9_stepCheaply_X9_goOn : GoodIn wsX9_stepCheaply wsX9_goOn := goodIn_r _ [29, 30, 31, 32, 33, 34, 35, 1, 17, 18, 19, 9, 20, 21, 22, 23, 24, 25, 36, 37, 38, 39, 40, 41, 42, 43, 44, 45, 46, 47, 48, 49, 50, 51, 52, 53, 54, 55, 56, 57, 58, 59, 60, 61, 62, 63, 64, 65, 66] (by decide +kernel) (by decide +kernel)
set_option maxRecDepth 20000 in
theorem gX9_stepCheaply_X9_goOn : GoodIn wsX9_stepCheaply (wsV RX9 102 RX9 yX9_goOn wsX9_goOn) := goodIn_app (goodIn_of _ (by decide +kernel)) ggX9_stepCheaply_X9_goOn
theorem dX9_stepCheaply_0 : decode cX9_stepCheaply 0 = .ok (.iconst 1, 1) := by decide +kernel
theorem dX9_stepCheaply_1 : decode cX9_stepCheaply 1 = .ok (.istore_n 2, 1) := by decide +kernel
theorem dX9_stepCheaply_2 : decode cX9_stepCheaply 2 = .ok (.aload_n 0, 1) := by decide +kernel
theorem dX9_stepCheaply_3 : decode cX9_stepCheaply 3 = .ok (.iload_n 1, 1) := by decide +kernel
theorem dX9_stepCheaply_4 : decode cX9_stepCheaply 4 = .ok (.invokevirtual 85, 3) := by decide +kernel
theorem dX9_stepCheaply_7 : decode cX9_stepCheaply 7 = .ok (.aload_n 0, 1) := by decide +kernel
theorem dX9_stepCheaply_8 : decode cX9_stepCheaply 8 = .ok (.getfield 13, 3) := by decide +kernel
theorem dX9_stepCheaply_11 : decode cX9_stepCheaply 11 = .ok (.istore_n 3, 1) := by decide +kernel
theorem dX9_stepCheaply_12 : decode cX9_stepCheaply 12 = .ok (.iload_n 3, 1) := by decide +kernel
theorem dX9_stepCheaply_13 : decode cX9_stepCheaply 13 = .ok (.aload_n 0, 1) := by decide +kernel
theorem dX9_stepCheaply_14 : decode cX9_stepCheaply 14 = .ok (.getfield 17, 3) := by decide +kernel
theorem dX9_stepCheaply_17 : decode cX9_stepCheaply 17 = .ok (.if_icmp .gt 92, 3) := by decide +kernel
theorem dX9_stepCheaply_20 : decode cX9_stepCheaply 20 = .ok (.iload_n 1, 1) := by decide +kernel
theorem dX9_stepCheaply_21 : decode cX9_stepCheaply 21 = .ok (.iload_n 3, 1) := by decide +kernel
theorem dX9_stepCheaply_22 : decode cX9_stepCheaply 22 = .ok (.iadd, 1) := by decide +kernel
theorem dX9_stepCheaply_23 : decode cX9_stepCheaply 23 = .ok (.aload_n 0, 1) := by decide +kernel
theorem dX9_stepCheaply_24 : decode cX9_stepCheaply 24 = .ok (.getfield 68, 3) := by decide +kernel
theorem dX9_stepCheaply_27 : decode cX9_stepCheaply 27 = .ok (.if_icmp .gt 82, 3) := by decide +kernel
theorem dX9_stepCheaply_30 : decode cX9_stepCheaply 30 = .ok (.iconst 0, 1) := by decide +kernel
theorem dX9_stepCheaply_31 : decode cX9_stepCheaply 31 = .ok (.istore 4, 2) := by decide +kernel
theorem dX9_stepCheaply_33 : decode cX9_stepCheaply 33 = .ok (.iload 4, 2) := by decide +kernel
theorem dX9_stepCheaply_35 : decode cX9_stepCheaply 35 = .ok (.bipush 9, 2) := by decide +kernel
theorem dX9_stepCheaply_37 : decode cX9_stepCheaply 37 = .ok (.if_icmp .ge 66, 3) := by decide +kernel
theorem dX9_stepCheaply_40 : decode cX9_stepCheaply 40 = .ok (.aload_n 0, 1) := by decide +kernel
theorem dX9_stepCheaply_41 : decode cX9_stepCheaply 41 = .ok (.getfield 62, 3) := by decide +kernel
theorem dX9_stepCheaply_44 : decode cX9_stepCheaply 44 = .ok (.iload 4, 2) := by decide +kernel
theorem dX9_stepCheaply_46 : decode cX9_stepCheaply 46 = .ok (.iaload, 1) := by decide +kernel
theorem dX9_stepCheaply_47 : decode cX9_stepCheaply 47 = .ok (.iload_n 3, 1) := by decide +kernel
theorem dX9_stepCheaply_48 : decode cX9_stepCheaply 48 = .ok (.if_icmp .lt 35, 3) := by decide +kernel
theorem dX9_stepCheaply_51 : decode cX9_stepCheaply 51 = .ok (.aload_n 0, 1) := by decide +kernel
theorem dX9_stepCheaply_52 : decode cX9_stepCheaply 52 = .ok (.iload_n 1, 1) := by decide +kernel
theorem dX9_stepCheaply_53 : decode cX9_stepCheaply 53 = .ok (.iload_n 3, 1) := by decide +kernel
theorem dX9_stepCheaply_54 : decode cX9_stepCheaply 54 = .ok (.iconst 1, 1) := by decide +kernel
theorem dX9_stepCheaply_55 : decode cX9_stepCheaply 55 = .ok (.iload 4, 2) := by decide +kernel
theorem dX9_stepCheaply_57 : decode cX9_stepCheaply 57 = .ok (.ishl, 1) := by decide +kernel
theorem dX9_stepCheaply_58 : decode cX9_stepCheaply 58 = .ok (.invokevirtual 81, 3) := by decide +kernel
theorem dX9_stepCheaply_61 : decode cX9_stepCheaply 61 = .ok (.aload_n 0, 1) := by decide +kernel
theorem dX9_stepCheaply_62 : decode cX9_stepCheaply 62 = .ok (.getfield 31, 3) := by decide +kernel
theorem dX9_stepCheaply_65 : decode cX9_stepCheaply 65 = .ok (.iload_n 1, 1) := by decide +kernel
theorem dX9_stepCheaply_66 : decode cX9_stepCheaply 66 = .ok (.iload_n 3, 1) := by decide +kernel
theorem dX9_stepCheaply_67 : decode cX9_stepCheaply 67 = .ok (.iadd, 1) := by decide +kernel
theorem dX9_stepCheaply_68 : decode cX9_stepCheaply 68 = .ok (.iaload, 1) := by decide +kernel
theorem dX9_stepCheaply_69 : decode cX9_stepCheaply 69 = .ok (.iadd, 1) := by decide +kernel
theorem dX9_stepCheaply_70 : decode cX9_stepCheaply 70 = .ok (.aload_n 0, 1) := by decide +kernel
theorem dX9_stepCheaply_71 : decode cX9_stepCheaply 71 = .ok (.getfield 31, 3) := by decide +kernel
theorem dX9_stepCheaply_74 : decode cX9_stepCheaply 74 = .ok (.iload_n 1, 1) := by decide +kernel
theorem dX9_stepCheaply_75 : decode cX9_stepCheaply 75 = .ok (.iaload, 1) := by decide +kernel
theorem dX9_stepCheaply_76 : decode cX9_stepCheaply 76 = .ok (.if_icmp .ne 7, 3) := by decide +kernel
theorem dX9_stepCheaply_79 : decode cX9_stepCheaply 79 = .ok (.iconst 1, 1) := by decide +kernel
theorem dX9_stepCheaply_80 : decode cX9_stepCheaply 80 = .ok (.goto 4, 3) := by decide +kernel
theorem dX9_stepCheaply_83 : decode cX9_stepCheaply 83 = .ok (.iconst 0, 1) := by decide +kernel
theorem dX9_stepCheaply_84 : decode cX9_stepCheaply 84 = .ok (.istore 5, 2) := by decide +kernel
theorem dX9_stepCheaply_86 : decode cX9_stepCheaply 86 = .ok (.iload 5, 2) := by decide +kernel
theorem dX9_stepCheaply_88 : decode cX9_stepCheaply 88 = .ok (.ifCond .eq 7, 3) := by decide +kernel
theorem dX9_stepCheaply_91 : decode cX9_stepCheaply 91 = .ok (.iload_n 3, 1) := by decide +kernel
theorem dX9_stepCheaply_92 : decode cX9_stepCheaply 92 = .ok (.goto 4, 3) := by decide +kernel
theorem dX9_stepCheaply_95 : decode cX9_stepCheaply 95 = .ok (.iload_n 2, 1) := by decide +kernel
theorem dX9_stepCheaply_96 : decode cX9_stepCheaply 96 = .ok (.istore_n 2, 1) := by decide +kernel
theorem dX9_stepCheaply_97 : decode cX9_stepCheaply 97 = .ok (.iinc 4 1, 3) := by decide +kernel
theorem dX9_stepCheaply_100 : decode cX9_stepCheaply 100 = .ok (.goto (-67), 3) := by decide +kernel
theorem dX9_stepCheaply_103 : decode cX9_stepCheaply 103 = .ok (.iinc 3 1, 3) := by decide +kernel
theorem dX9_stepCheaply_106 : decode cX9_stepCheaply 106 = .ok (.goto (-94), 3) := by decide +kernel
theorem dX9_stepCheaply_109 : decode cX9_stepCheaply 109 = .ok (.iload_n 2, 1) := by decide +kernel
theorem dX9_stepCheaply_110 : decode cX9_stepCheaply 110 = .ok (.iconst 1, 1) := by decide +kernel
theorem dX9_stepCheaply_111 : decode cX9_stepCheaply 111 = .ok (.if_icmp .ne 7, 3) := by decide +kernel
theorem dX9_stepCheaply_114 : decode cX9_stepCheaply 114 = .ok (.iconst 0, 1) := by decide +kernel
theorem dX9_stepCheaply_115 : decode cX9_stepCheaply 115 = .ok (.goto 4, 3) := by decide +kernel
theorem dX9_stepCheaply_118 : decode cX9_stepCheaply 118 = .ok (.iconst 1, 1) := by decide +kernel
theorem dX9_stepCheaply_119 : decode cX9_stepCheaply 119 = .ok (.istore_n 3, 1) := by decide +kernel
theorem dX9_stepCheaply_120 : decode cX9_stepCheaply 120 = .ok (.iload_n 2, 1) := by decide +kernel
theorem dX9_stepCheaply_121 : decode cX9_stepCheaply 121 = .ok (.iconst 1, 1) := by decide +kernel
theorem dX9_stepCheaply_122 : decode cX9_stepCheaply 122 = .ok (.if_icmp .le 44, 3) := by decide +kernel
theorem dX9_stepCheaply_125 : decode cX9_stepCheaply 125 = .ok (.aload_n 0, 1) := by decide +kernel
theorem dX9_stepCheaply_126 : decode cX9_stepCheaply 126 = .ok (.iload_n 1, 1) := by decide +kernel
theorem dX9_stepCheaply_127 : decode cX9_stepCheaply 127 = .ok (.iload_n 3, 1) := by decide +kernel
theorem dX9_stepCheaply_128 : decode cX9_stepCheaply 128 = .ok (.invokevirtual 89, 3) := by decide +kernel
theorem dX9_stepCheaply_131 : decode cX9_stepCheaply 131 = .ok (.iload_n 2, 1) := by decide +kernel
theorem dX9_stepCheaply_132 : decode cX9_stepCheaply 132 = .ok (.if_icmp .lt 28, 3) := by decide +kernel
theorem dX9_stepCheaply_135 : decode cX9_stepCheaply 135 = .ok (.aload_n 0, 1) := by decide +kernel
theorem dX9_stepCheaply_136 : decode cX9_stepCheaply 136 = .ok (.iload_n 1, 1) := by decide +kernel
theorem dX9_stepCheaply_137 : decode cX9_stepCheaply 137 = .ok (.iload_n 2, 1) := by decide +kernel
theorem dX9_stepCheaply_138 : decode cX9_stepCheaply 138 = .ok (.iload_n 3, 1) := by decide +kernel
theorem dX9_stepCheaply_139 : decode cX9_stepCheaply 139 = .ok (.invokevirtual 81, 3) := by decide +kernel
theorem dX9_stepCheaply_142 : decode cX9_stepCheaply 142 = .ok (.aload_n 0, 1) := by decide +kernel
theorem dX9_stepCheaply_143 : decode cX9_stepCheaply 143 = .ok (.getfield 31, 3) := by decide +kernel
theorem dX9_stepCheaply_146 : decode cX9_stepCheaply 146 = .ok (.iload_n 1, 1) := by decide +kernel
theorem dX9_stepCheaply_147 : decode cX9_stepCheaply 147 = .ok (.iload_n 2, 1) := by decide +kernel
theorem dX9_stepCheaply_148 : decode cX9_stepCheaply 148 = .ok (.iadd, 1) := by decide +kernel
theorem dX9_stepCheaply_149 : decode cX9_stepCheaply 149 = .ok (.iaload, 1) := by decide +kernel
theorem dX9_stepCheaply_150 : decode cX9_stepCheaply 150 = .ok (.iadd, 1) := by decide +kernel
theorem dX9_stepCheaply_151 : decode cX9_stepCheaply 151 = .ok (.aload_n 0, 1) := by decide +kernel
theorem dX9_stepCheaply_152 : decode cX9_stepCheaply 152 = .ok (.getfield 31, 3) := by decide +kernel
theorem dX9_stepCheaply_155 : decode cX9_stepCheaply 155 = .ok (.iload_n 1, 1) := by decide +kernel
theorem dX9_stepCheaply_156 : decode cX9_stepCheaply 156 = .ok (.iaload, 1) := by decide +kernel
theorem dX9_stepCheaply_157 : decode cX9_stepCheaply 157 = .ok (.if_icmp .eq 9, 3) := by decide +kernel
theorem dX9_stepCheaply_160 : decode cX9_stepCheaply 160 = .ok (.iinc 3 1, 3) := by decide +kernel
theorem dX9_stepCheaply_163 : decode cX9_stepCheaply 163 = .ok (.goto (-43), 3) := by decide +kernel
theorem dX9_stepCheaply_166 : decode cX9_stepCheaply 166 = .ok (.aload_n 0, 1) := by decide +kernel
theorem dX9_stepCheaply_167 : decode cX9_stepCheaply 167 = .ok (.iload_n 1, 1) := by decide +kernel
theorem dX9_stepCheaply_168 : decode cX9_stepCheaply 168 = .ok (.iload_n 2, 1) := by decide +kernel
theorem dX9_stepCheaply_169 : decode cX9_stepCheaply 169 = .ok (.iload_n 3, 1) := by decide +kernel
theorem dX9_stepCheaply_170 : decode cX9_stepCheaply 170 = .ok (.invokevirtual 102, 3) := by decide +kernel
theorem dX9_stepCheaply_173 : decode cX9_stepCheaply 173 = .ok (.return_, 1) := by decide +kernel
set_option maxRecDepth 20000 in
theorem ggX9_longestAt_X9_longest : GoodIn wsX9_longestAt wsX9_longest := goodIn_r _ [6, 7, 8, 9, 10, 11, 12, 13, 14, 15, 16, 17, 18, 19, 20, 21, 22, 23, 24, 25, 26, 27, 28, 29, 30, 31, 32, 33, 34, 35, 36, 37, 38, 39, 40, 41] (by decide +kernel) (by decide +kernel)
set_option maxRecDepth 20000 in
theorem gX9_longestAt_X9_longest : GoodIn wsX9_longestAt (wsV RX9 89 RX9 yX9_longest wsX9_longest) := goodIn_app (goodIn_of _ (by decide +kernel)) ggX9_longestAt_X9_longest
theorem dX9_longestAt_0 : decode cX9_longestAt 0 = .ok (.iconst 0, 1) := by decide +kernel
theorem dX9_longestAt_1 : decode cX9_longestAt 1 = .ok (.istore_n 2, 1) := by decide +kernel
theorem dX9_longestAt_2 : decode cX9_longestAt 2 = .ok (.iconst 1, 1) := by decide +kernel
theorem dX9_longestAt_3 : decode cX9_longestAt 3 = .ok (.istore_n 3, 1) := by decide +kernel
theorem dX9_longestAt_4 : decode cX9_longestAt 4 = .ok (.iload_n 3, 1) := by decide +kernel
theorem dX9_longestAt_5 : decode cX9_longestAt 5 = .ok (.iload_n 1, 1) := by decide +kernel
theorem dX9_longestAt_6 : decode cX9_longestAt 6 = .ok (.if_icmp .gt 38, 3) := by decide +kernel
theorem dX9_longestAt_9 : decode cX9_longestAt 9 = .ok (.iload_n 1, 1) := by decide +kernel
theorem dX9_longestAt_10 : decode cX9_longestAt 10 = .ok (.aload_n 0, 1) := by decide +kernel
theorem dX9_longestAt_11 : decode cX9_longestAt 11 = .ok (.getfield 68, 3) := by decide +kernel
theorem dX9_longestAt_14 : decode cX9_longestAt 14 = .ok (.if_icmp .ge 30, 3) := by decide +kernel
theorem dX9_longestAt_17 : decode cX9_longestAt 17 = .ok (.aload_n 0, 1) := by decide +kernel
theorem dX9_longestAt_18 : decode cX9_longestAt 18 = .ok (.iload_n 1, 1) := by decide +kernel
theorem dX9_longestAt_19 : decode cX9_longestAt 19 = .ok (.iload_n 3, 1) := by decide +kernel
theorem dX9_longestAt_20 : decode cX9_longestAt 20 = .ok (.invokevirtual 89, 3) := by decide +kernel
theorem dX9_longestAt_23 : decode cX9_longestAt 23 = .ok (.iload_n 2, 1) := by decide +kernel
theorem dX9_longestAt_24 : decode cX9_longestAt 24 = .ok (.if_icmp .le 12, 3) := by decide +kernel
theorem dX9_longestAt_27 : decode cX9_longestAt 27 = .ok (.aload_n 0, 1) := by decide +kernel
theorem dX9_longestAt_28 : decode cX9_longestAt 28 = .ok (.iload_n 1, 1) := by decide +kernel
theorem dX9_longestAt_29 : decode cX9_longestAt 29 = .ok (.iload_n 3, 1) := by decide +kernel
theorem dX9_longestAt_30 : decode cX9_longestAt 30 = .ok (.invokevirtual 89, 3) := by decide +kernel
theorem dX9_longestAt_33 : decode cX9_longestAt 33 = .ok (.goto 4, 3) := by decide +kernel
theorem dX9_longestAt_36 : decode cX9_longestAt 36 = .ok (.iload_n 2, 1) := by decide +kernel
theorem dX9_longestAt_37 : decode cX9_longestAt 37 = .ok (.istore_n 2, 1) := by decide +kernel
theorem dX9_longestAt_38 : decode cX9_longestAt 38 = .ok (.iinc 3 1, 3) := by decide +kernel
theorem dX9_longestAt_41 : decode cX9_longestAt 41 = .ok (.goto (-37), 3) := by decide +kernel
theorem dX9_longestAt_44 : decode cX9_longestAt 44 = .ok (.iload_n 2, 1) := by decide +kernel
theorem dX9_longestAt_45 : decode cX9_longestAt 45 = .ok (.ireturn, 1) := by decide +kernel
set_option maxRecDepth 20000 in
theorem ggX9_nearestOf_X9_longest : GoodIn wsX9_nearestOf wsX9_longest := goodIn_r _ [5, 6, 7, 8, 9, 10, 11, 12, 13, 14, 15, 16, 17, 18, 19, 20, 21, 22, 23, 24, 25, 26, 27, 28, 29, 30, 31, 32, 33, 34, 35, 36, 37, 38, 39, 40] (by decide +kernel) (by decide +kernel)
set_option maxRecDepth 20000 in
theorem gX9_nearestOf_X9_longest : GoodIn wsX9_nearestOf (wsV RX9 89 RX9 yX9_longest wsX9_longest) := goodIn_app (goodIn_of _ (by decide +kernel)) ggX9_nearestOf_X9_longest
theorem dX9_nearestOf_0 : decode cX9_nearestOf 0 = .ok (.iconst 1, 1) := by decide +kernel
theorem dX9_nearestOf_1 : decode cX9_nearestOf 1 = .ok (.istore_n 3, 1) := by decide +kernel
theorem dX9_nearestOf_2 : decode cX9_nearestOf 2 = .ok (.aload_n 0, 1) := by decide +kernel
theorem dX9_nearestOf_3 : decode cX9_nearestOf 3 = .ok (.iload_n 1, 1) := by decide +kernel
theorem dX9_nearestOf_4 : decode cX9_nearestOf 4 = .ok (.iload_n 3, 1) := by decide +kernel
theorem dX9_nearestOf_5 : decode cX9_nearestOf 5 = .ok (.invokevirtual 89, 3) := by decide +kernel
theorem dX9_nearestOf_8 : decode cX9_nearestOf 8 = .ok (.iload_n 2, 1) := by decide +kernel
theorem dX9_nearestOf_9 : decode cX9_nearestOf 9 = .ok (.if_icmp .eq 9, 3) := by decide +kernel
theorem dX9_nearestOf_12 : decode cX9_nearestOf 12 = .ok (.iinc 3 1, 3) := by decide +kernel
theorem dX9_nearestOf_15 : decode cX9_nearestOf 15 = .ok (.goto (-13), 3) := by decide +kernel
theorem dX9_nearestOf_18 : decode cX9_nearestOf 18 = .ok (.iload_n 3, 1) := by decide +kernel
theorem dX9_nearestOf_19 : decode cX9_nearestOf 19 = .ok (.ireturn, 1) := by decide +kernel
set_option maxRecDepth 20000 in
theorem ggX9_stepGreedily_X9_longestAt : GoodIn wsX9_stepGreedily wsX9_longestAt := goodIn_r _ [5, 6, 7, 8, 9, 4, 10, 11, 12, 13, 14, 38, 39, 40, 41, 42, 43, 44, 45, 46, 47, 48, 49, 50, 51, 52, 53, 54, 55, 56, 57, 58, 59, 60, 61, 62, 63, 64, 65, 66, 67, 68] (by decide +kernel) (by decide +kernel)
set_option maxRecDepth 20000 in
theorem gX9_stepGreedily_X9_longestAt : GoodIn wsX9_stepGreedily (wsV RX9 106 RX9 yX9_longestAt wsX9_longestAt) := goodIn_app (goodIn_of _ (by decide +kernel)) ggX9_stepGreedily_X9_longestAt
set_option maxRecDepth 20000 in
theorem ggX9_stepGreedily_X9_nearestOf : GoodIn wsX9_stepGreedily wsX9_nearestOf := goodIn_r _ [18, 7, 8, 9, 4, 10, 11, 12, 13, 14, 38, 39, 40, 41, 42, 43, 44, 45, 46, 47, 48, 49, 50, 51, 52, 53, 54, 55, 56, 57, 58, 59, 60, 61, 62, 63, 64, 65, 66, 67, 68] (by decide +kernel) (by decide +kernel)
set_option maxRecDepth 20000 in
theorem gX9_stepGreedily_X9_nearestOf : GoodIn wsX9_stepGreedily (wsV RX9 109 RX9 yX9_nearestOf wsX9_nearestOf) := goodIn_app (goodIn_of _ (by decide +kernel)) ggX9_stepGreedily_X9_nearestOf
set_option maxRecDepth 20000 in
theorem ggX9_stepGreedily_X9_goOn : GoodIn wsX9_stepGreedily wsX9_goOn := goodIn_r _ [22, 23, 24, 25, 26, 27, 28, 14, 29, 30, 31, 4, 32, 33, 34, 35, 36, 37, 38, 39, 40, 41, 42, 43, 44, 45, 46, 47, 48, 49, 50, 51, 52, 53, 54, 55, 56, 57, 58, 59, 60, 61, 62, 63, 64, 65, 66, 67, 68] (by decide +kernel) (by decide +kernel)
set_option maxRecDepth 20000 in
theorem gX9_stepGreedily_X9_goOn : GoodIn wsX9_stepGreedily (wsV RX9 102 RX9 yX9_goOn wsX9_goOn) := goodIn_app (goodIn_of _ (by decide +kernel)) ggX9_stepGreedily_X9_goOn
theorem dX9_stepGreedily_0 : decode cX9_stepGreedily 0 = .ok (.aload_n 0, 1) := by decide +kernel
theorem dX9_stepGreedily_1 : decode cX9_stepGreedily 1 = .ok (.iload_n 1, 1) := by decide +kernel
theorem dX9_stepGreedily_2 : decode cX9_stepGreedily 2 = .ok (.invokevirtual 106, 3) := by decide +kernel
theorem dX9_stepGreedily_5 : decode cX9_stepGreedily 5 = .ok (.istore_n 3, 1) := by decide +kernel
theorem dX9_stepGreedily_6 : decode cX9_stepGreedily 6 = .ok (.iload_n 3, 1) := by decide +kernel
theorem dX9_stepGreedily_7 : decode cX9_stepGreedily 7 = .ok (.ifCond .eq 18, 3) := by decide +kernel
theorem dX9_stepGreedily_10 : decode cX9_stepGreedily 10 = .ok (.iload_n 2, 1) := by decide +kernel
theorem dX9_stepGreedily_11 : decode cX9_stepGreedily 11 = .ok (.ifCond .eq 18, 3) := by decide +kernel
theorem dX9_stepGreedily_14 : decode cX9_stepGreedily 14 = .ok (.aload_n 0, 1) := by decide +kernel
theorem dX9_stepGreedily_15 : decode cX9_stepGreedily 15 = .ok (.iload_n 1, 1) := by decide +kernel
theorem dX9_stepGreedily_16 : decode cX9_stepGreedily 16 = .ok (.iconst 1, 1) := by decide +kernel
theorem dX9_stepGreedily_17 : decode cX9_stepGreedily 17 = .ok (.iadd, 1) := by decide +kernel
theorem dX9_stepGreedily_18 : decode cX9_stepGreedily 18 = .ok (.invokevirtual 106, 3) := by decide +kernel
theorem dX9_stepGreedily_21 : decode cX9_stepGreedily 21 = .ok (.iload_n 3, 1) := by decide +kernel
theorem dX9_stepGreedily_22 : decode cX9_stepGreedily 22 = .ok (.if_icmp .le 7, 3) := by decide +kernel
theorem dX9_stepGreedily_25 : decode cX9_stepGreedily 25 = .ok (.iconst 1, 1) := by decide +kernel
theorem dX9_stepGreedily_26 : decode cX9_stepGreedily 26 = .ok (.goto 4, 3) := by decide +kernel
theorem dX9_stepGreedily_29 : decode cX9_stepGreedily 29 = .ok (.iconst 0, 1) := by decide +kernel
theorem dX9_stepGreedily_30 : decode cX9_stepGreedily 30 = .ok (.istore 4, 2) := by decide +kernel
theorem dX9_stepGreedily_32 : decode cX9_stepGreedily 32 = .ok (.aload_n 0, 1) := by decide +kernel
theorem dX9_stepGreedily_33 : decode cX9_stepGreedily 33 = .ok (.iload_n 1, 1) := by decide +kernel
theorem dX9_stepGreedily_34 : decode cX9_stepGreedily 34 = .ok (.iload 4, 2) := by decide +kernel
theorem dX9_stepGreedily_36 : decode cX9_stepGreedily 36 = .ok (.ifCond .eq 7, 3) := by decide +kernel
theorem dX9_stepGreedily_39 : decode cX9_stepGreedily 39 = .ok (.iconst 1, 1) := by decide +kernel
theorem dX9_stepGreedily_40 : decode cX9_stepGreedily 40 = .ok (.goto 4, 3) := by decide +kernel
theorem dX9_stepGreedily_43 : decode cX9_stepGreedily 43 = .ok (.iload_n 3, 1) := by decide +kernel
theorem dX9_stepGreedily_44 : decode cX9_stepGreedily 44 = .ok (.iload 4, 2) := by decide +kernel
theorem dX9_stepGreedily_46 : decode cX9_stepGreedily 46 = .ok (.ifCond .eq 7, 3) := by decide +kernel
theorem dX9_stepGreedily_49 : decode cX9_stepGreedily 49 = .ok (.iconst 0, 1) := by decide +kernel
theorem dX9_stepGreedily_50 : decode cX9_stepGreedily 50 = .ok (.goto 9, 3) := by decide +kernel
theorem dX9_stepGreedily_53 : decode cX9_stepGreedily 53 = .ok (.aload_n 0, 1) := by decide +kernel
theorem dX9_stepGreedily_54 : decode cX9_stepGreedily 54 = .ok (.iload_n 1, 1) := by decide +kernel
theorem dX9_stepGreedily_55 : decode cX9_stepGreedily 55 = .ok (.iload_n 3, 1) := by decide +kernel
theorem dX9_stepGreedily_56 : decode cX9_stepGreedily 56 = .ok (.invokevirtual 109, 3) := by decide +kernel
theorem dX9_stepGreedily_59 : decode cX9_stepGreedily 59 = .ok (.invokevirtual 102, 3) := by decide +kernel
theorem dX9_stepGreedily_62 : decode cX9_stepGreedily 62 = .ok (.return_, 1) := by decide +kernel
set_option maxRecDepth 20000 in
theorem ggX9_parse_X9_know : GoodIn wsX9_parse wsX9_know := goodIn_r _ [17, 18, 5, 19, 8, 20, 10, 21, 22, 23, 24, 16, 25, 26, 27, 28, 29, 30, 31, 32, 33, 34, 35, 36, 37, 38, 39, 62, 63, 64, 65, 66, 67, 68, 69, 70, 71, 72, 73, 74, 75, 76, 77, 78, 79, 80, 81, 82, 83, 84, 85, 86, 87, 88, 89, 90, 91, 92] (by decide +kernel) (by decide +kernel)
set_option maxRecDepth 20000 in
theorem gX9_parse_X9_know : GoodIn wsX9_parse (wsV RX9 112 RX9 yX9_know wsX9_know) := goodIn_app (goodIn_of _ (by decide +kernel)) ggX9_parse_X9_know
set_option maxRecDepth 20000 in
theorem ggX9_parse_X9_stepCheaply : GoodIn wsX9_parse wsX9_stepCheaply := goodIn_r _ [43, 10, 39, 5, 21, 20, 30, 31, 32, 16, 33, 34, 35, 36, 37, 38, 19, 22, 23, 24, 25, 26, 8, 27, 28, 29, 44, 45, 46, 47, 48, 2, 6, 49, 3, 4, 62, 63, 64, 65, 66, 67, 68, 69, 70, 71, 72, 73, 74, 75, 76, 77, 78, 79, 80, 81, 82, 83, 84, 85, 86, 87, 88, 89, 90, 91, 92] (by decide +kernel) (by decide +kernel)
set_option maxRecDepth 20000 in
theorem gX9_parse_X9_stepCheaply : GoodIn wsX9_parse (wsV RX9 115 RX9 yX9_stepCheaply wsX9_stepCheaply) := goodIn_app (goodIn_of _ (by decide +kernel)) ggX9_parse_X9_stepCheaply
set_option maxRecDepth 20000 in
theorem ggX9_parse_X9_stepGreedily : GoodIn wsX9_parse wsX9_stepGreedily := goodIn_r _ [53, 54, 55, 56, 16, 57, 5, 34, 35, 36, 37, 38, 19, 39, 10, 58, 59, 60, 61, 44, 45, 46, 47, 48, 2, 6, 49, 3, 4, 22, 23, 24, 25, 26, 8, 27, 28, 29, 62, 63, 64, 65, 66, 67, 68, 69, 70, 71, 72, 73, 74, 75, 76, 77, 78, 79, 80, 81, 82, 83, 84, 85, 86, 87, 88, 89, 90, 91, 92] (by decide +kernel) (by decide +kernel)
set_option maxRecDepth 20000 in
theorem gX9_parse_X9_stepGreedily : GoodIn wsX9_parse (wsV RX9 118 RX9 yX9_stepGreedily wsX9_stepGreedily) := goodIn_app (goodIn_of _ (by decide +kernel)) ggX9_parse_X9_stepGreedily
theorem dX9_parse_0 : decode cX9_parse 0 = .ok (.aload_n 0, 1) := by decide +kernel
theorem dX9_parse_1 : decode cX9_parse 1 = .ok (.iconst 0, 1) := by decide +kernel
theorem dX9_parse_2 : decode cX9_parse 2 = .ok (.putfield 65, 3) := by decide +kernel
theorem dX9_parse_5 : decode cX9_parse 5 = .ok (.iload_n 1, 1) := by decide +kernel
theorem dX9_parse_6 : decode cX9_parse 6 = .ok (.ifCond .lt 8, 3) := by decide +kernel
theorem dX9_parse_9 : decode cX9_parse 9 = .ok (.iload_n 1, 1) := by decide +kernel
theorem dX9_parse_10 : decode cX9_parse 10 = .ok (.iconst 2, 1) := by decide +kernel
theorem dX9_parse_11 : decode cX9_parse 11 = .ok (.if_icmp .le 5, 3) := by decide +kernel
theorem dX9_parse_14 : decode cX9_parse 14 = .ok (.iconst (-1), 1) := by decide +kernel
theorem dX9_parse_15 : decode cX9_parse 15 = .ok (.ireturn, 1) := by decide +kernel
theorem dX9_parse_16 : decode cX9_parse 16 = .ok (.aload_n 0, 1) := by decide +kernel
theorem dX9_parse_17 : decode cX9_parse 17 = .ok (.invokevirtual 112, 3) := by decide +kernel
theorem dX9_parse_20 : decode cX9_parse 20 = .ok (.aload_n 0, 1) := by decide +kernel
theorem dX9_parse_21 : decode cX9_parse 21 = .ok (.iconst 0, 1) := by decide +kernel
theorem dX9_parse_22 : decode cX9_parse 22 = .ok (.putfield 93, 3) := by decide +kernel
theorem dX9_parse_25 : decode cX9_parse 25 = .ok (.aload_n 0, 1) := by decide +kernel
theorem dX9_parse_26 : decode cX9_parse 26 = .ok (.iconst 0, 1) := by decide +kernel
theorem dX9_parse_27 : decode cX9_parse 27 = .ok (.putfield 96, 3) := by decide +kernel
theorem dX9_parse_30 : decode cX9_parse 30 = .ok (.aload_n 0, 1) := by decide +kernel
theorem dX9_parse_31 : decode cX9_parse 31 = .ok (.bipush 16, 2) := by decide +kernel
theorem dX9_parse_33 : decode cX9_parse 33 = .ok (.putfield 99, 3) := by decide +kernel
theorem dX9_parse_36 : decode cX9_parse 36 = .ok (.iconst 0, 1) := by decide +kernel
theorem dX9_parse_37 : decode cX9_parse 37 = .ok (.istore_n 2, 1) := by decide +kernel
theorem dX9_parse_38 : decode cX9_parse 38 = .ok (.iload_n 2, 1) := by decide +kernel
theorem dX9_parse_39 : decode cX9_parse 39 = .ok (.aload_n 0, 1) := by decide +kernel
theorem dX9_parse_40 : decode cX9_parse 40 = .ok (.getfield 68, 3) := by decide +kernel
theorem dX9_parse_43 : decode cX9_parse 43 = .ok (.if_icmp .ge 47, 3) := by decide +kernel
theorem dX9_parse_46 : decode cX9_parse 46 = .ok (.iload_n 1, 1) := by decide +kernel
theorem dX9_parse_47 : decode cX9_parse 47 = .ok (.ifCond .ne 11, 3) := by decide +kernel
theorem dX9_parse_50 : decode cX9_parse 50 = .ok (.aload_n 0, 1) := by decide +kernel
theorem dX9_parse_51 : decode cX9_parse 51 = .ok (.iload_n 2, 1) := by decide +kernel
theorem dX9_parse_52 : decode cX9_parse 52 = .ok (.invokevirtual 115, 3) := by decide +kernel
theorem dX9_parse_55 : decode cX9_parse 55 = .ok (.goto 18, 3) := by decide +kernel
theorem dX9_parse_58 : decode cX9_parse 58 = .ok (.aload_n 0, 1) := by decide +kernel
theorem dX9_parse_59 : decode cX9_parse 59 = .ok (.iload_n 2, 1) := by decide +kernel
theorem dX9_parse_60 : decode cX9_parse 60 = .ok (.iload_n 1, 1) := by decide +kernel
theorem dX9_parse_61 : decode cX9_parse 61 = .ok (.iconst 2, 1) := by decide +kernel
theorem dX9_parse_62 : decode cX9_parse 62 = .ok (.if_icmp .ne 7, 3) := by decide +kernel
theorem dX9_parse_65 : decode cX9_parse 65 = .ok (.iconst 1, 1) := by decide +kernel
theorem dX9_parse_66 : decode cX9_parse 66 = .ok (.goto 4, 3) := by decide +kernel
theorem dX9_parse_69 : decode cX9_parse 69 = .ok (.iconst 0, 1) := by decide +kernel
theorem dX9_parse_70 : decode cX9_parse 70 = .ok (.invokevirtual 118, 3) := by decide +kernel
theorem dX9_parse_73 : decode cX9_parse 73 = .ok (.iload_n 2, 1) := by decide +kernel
theorem dX9_parse_74 : decode cX9_parse 74 = .ok (.aload_n 0, 1) := by decide +kernel
theorem dX9_parse_75 : decode cX9_parse 75 = .ok (.getfield 37, 3) := by decide +kernel
theorem dX9_parse_78 : decode cX9_parse 78 = .ok (.aload_n 0, 1) := by decide +kernel
theorem dX9_parse_79 : decode cX9_parse 79 = .ok (.getfield 93, 3) := by decide +kernel
theorem dX9_parse_82 : decode cX9_parse 82 = .ok (.iconst 1, 1) := by decide +kernel
theorem dX9_parse_83 : decode cX9_parse 83 = .ok (.isub, 1) := by decide +kernel
theorem dX9_parse_84 : decode cX9_parse 84 = .ok (.iaload, 1) := by decide +kernel
theorem dX9_parse_85 : decode cX9_parse 85 = .ok (.iadd, 1) := by decide +kernel
theorem dX9_parse_86 : decode cX9_parse 86 = .ok (.istore_n 2, 1) := by decide +kernel
theorem dX9_parse_87 : decode cX9_parse 87 = .ok (.goto (-49), 3) := by decide +kernel
theorem dX9_parse_90 : decode cX9_parse 90 = .ok (.iconst 0, 1) := by decide +kernel
theorem dX9_parse_91 : decode cX9_parse 91 = .ok (.istore_n 3, 1) := by decide +kernel
theorem dX9_parse_92 : decode cX9_parse 92 = .ok (.iload_n 3, 1) := by decide +kernel
theorem dX9_parse_93 : decode cX9_parse 93 = .ok (.aload_n 0, 1) := by decide +kernel
theorem dX9_parse_94 : decode cX9_parse 94 = .ok (.getfield 68, 3) := by decide +kernel
theorem dX9_parse_97 : decode cX9_parse 97 = .ok (.if_icmp .ge 21, 3) := by decide +kernel
theorem dX9_parse_100 : decode cX9_parse 100 = .ok (.aload_n 0, 1) := by decide +kernel
theorem dX9_parse_101 : decode cX9_parse 101 = .ok (.getfield 43, 3) := by decide +kernel
theorem dX9_parse_104 : decode cX9_parse 104 = .ok (.iload_n 3, 1) := by decide +kernel
theorem dX9_parse_105 : decode cX9_parse 105 = .ok (.aload_n 0, 1) := by decide +kernel
theorem dX9_parse_106 : decode cX9_parse 106 = .ok (.getfield 7, 3) := by decide +kernel
theorem dX9_parse_109 : decode cX9_parse 109 = .ok (.iload_n 3, 1) := by decide +kernel
theorem dX9_parse_110 : decode cX9_parse 110 = .ok (.iaload, 1) := by decide +kernel
theorem dX9_parse_111 : decode cX9_parse 111 = .ok (.iastore, 1) := by decide +kernel
theorem dX9_parse_112 : decode cX9_parse 112 = .ok (.iinc 3 1, 3) := by decide +kernel
theorem dX9_parse_115 : decode cX9_parse 115 = .ok (.goto (-23), 3) := by decide +kernel
theorem dX9_parse_118 : decode cX9_parse 118 = .ok (.aload_n 0, 1) := by decide +kernel
theorem dX9_parse_119 : decode cX9_parse 119 = .ok (.aload_n 0, 1) := by decide +kernel
theorem dX9_parse_120 : decode cX9_parse 120 = .ok (.getfield 68, 3) := by decide +kernel
theorem dX9_parse_123 : decode cX9_parse 123 = .ok (.putfield 122, 3) := by decide +kernel
theorem dX9_parse_126 : decode cX9_parse 126 = .ok (.aload_n 0, 1) := by decide +kernel
theorem dX9_parse_127 : decode cX9_parse 127 = .ok (.aload_n 0, 1) := by decide +kernel
theorem dX9_parse_128 : decode cX9_parse 128 = .ok (.getfield 13, 3) := by decide +kernel
theorem dX9_parse_131 : decode cX9_parse 131 = .ok (.putfield 125, 3) := by decide +kernel
theorem dX9_parse_134 : decode cX9_parse 134 = .ok (.aload_n 0, 1) := by decide +kernel
theorem dX9_parse_135 : decode cX9_parse 135 = .ok (.iconst 1, 1) := by decide +kernel
theorem dX9_parse_136 : decode cX9_parse 136 = .ok (.putfield 128, 3) := by decide +kernel
theorem dX9_parse_139 : decode cX9_parse 139 = .ok (.aload_n 0, 1) := by decide +kernel
theorem dX9_parse_140 : decode cX9_parse 140 = .ok (.getfield 93, 3) := by decide +kernel
theorem dX9_parse_143 : decode cX9_parse 143 = .ok (.ireturn, 1) := by decide +kernel
theorem dX9_step_0 : decode cX9_step 0 = .ok (.aload_n 0, 1) := by decide +kernel
theorem dX9_step_1 : decode cX9_step 1 = .ok (.iconst 0, 1) := by decide +kernel
theorem dX9_step_2 : decode cX9_step 2 = .ok (.putfield 65, 3) := by decide +kernel
theorem dX9_step_5 : decode cX9_step 5 = .ok (.iload_n 1, 1) := by decide +kernel
theorem dX9_step_6 : decode cX9_step 6 = .ok (.ifCond .lt 11, 3) := by decide +kernel
theorem dX9_step_9 : decode cX9_step 9 = .ok (.iload_n 1, 1) := by decide +kernel
theorem dX9_step_10 : decode cX9_step 10 = .ok (.aload_n 0, 1) := by decide +kernel
theorem dX9_step_11 : decode cX9_step 11 = .ok (.getfield 93, 3) := by decide +kernel
theorem dX9_step_14 : decode cX9_step 14 = .ok (.if_icmp .lt 5, 3) := by decide +kernel
theorem dX9_step_17 : decode cX9_step 17 = .ok (.iconst (-1), 1) := by decide +kernel
theorem dX9_step_18 : decode cX9_step 18 = .ok (.ireturn, 1) := by decide +kernel
theorem dX9_step_19 : decode cX9_step 19 = .ok (.iload_n 2, 1) := by decide +kernel
theorem dX9_step_20 : decode cX9_step 20 = .ok (.ifCond .ne 12, 3) := by decide +kernel
theorem dX9_step_23 : decode cX9_step 23 = .ok (.aload_n 0, 1) := by decide +kernel
theorem dX9_step_24 : decode cX9_step 24 = .ok (.getfield 34, 3) := by decide +kernel
theorem dX9_step_27 : decode cX9_step 27 = .ok (.iload_n 1, 1) := by decide +kernel
theorem dX9_step_28 : decode cX9_step 28 = .ok (.iaload, 1) := by decide +kernel
theorem dX9_step_29 : decode cX9_step 29 = .ok (.goto 60, 3) := by decide +kernel
theorem dX9_step_32 : decode cX9_step 32 = .ok (.iload_n 2, 1) := by decide +kernel
theorem dX9_step_33 : decode cX9_step 33 = .ok (.iconst 1, 1) := by decide +kernel
theorem dX9_step_34 : decode cX9_step 34 = .ok (.if_icmp .ne 12, 3) := by decide +kernel
theorem dX9_step_37 : decode cX9_step 37 = .ok (.aload_n 0, 1) := by decide +kernel
theorem dX9_step_38 : decode cX9_step 38 = .ok (.getfield 37, 3) := by decide +kernel
theorem dX9_step_41 : decode cX9_step 41 = .ok (.iload_n 1, 1) := by decide +kernel
theorem dX9_step_42 : decode cX9_step 42 = .ok (.iaload, 1) := by decide +kernel
theorem dX9_step_43 : decode cX9_step 43 = .ok (.goto 46, 3) := by decide +kernel
theorem dX9_step_46 : decode cX9_step 46 = .ok (.iload_n 2, 1) := by decide +kernel
theorem dX9_step_47 : decode cX9_step 47 = .ok (.iconst 2, 1) := by decide +kernel
theorem dX9_step_48 : decode cX9_step 48 = .ok (.if_icmp .ne 12, 3) := by decide +kernel
theorem dX9_step_51 : decode cX9_step 51 = .ok (.aload_n 0, 1) := by decide +kernel
theorem dX9_step_52 : decode cX9_step 52 = .ok (.getfield 40, 3) := by decide +kernel
theorem dX9_step_55 : decode cX9_step 55 = .ok (.iload_n 1, 1) := by decide +kernel
theorem dX9_step_56 : decode cX9_step 56 = .ok (.iaload, 1) := by decide +kernel
theorem dX9_step_57 : decode cX9_step 57 = .ok (.goto 32, 3) := by decide +kernel
theorem dX9_step_60 : decode cX9_step 60 = .ok (.iload_n 2, 1) := by decide +kernel
theorem dX9_step_61 : decode cX9_step 61 = .ok (.iconst 3, 1) := by decide +kernel
theorem dX9_step_62 : decode cX9_step 62 = .ok (.if_icmp .ne 26, 3) := by decide +kernel
theorem dX9_step_65 : decode cX9_step 65 = .ok (.aload_n 0, 1) := by decide +kernel
theorem dX9_step_66 : decode cX9_step 66 = .ok (.getfield 40, 3) := by decide +kernel
theorem dX9_step_69 : decode cX9_step 69 = .ok (.iload_n 1, 1) := by decide +kernel
theorem dX9_step_70 : decode cX9_step 70 = .ok (.iaload, 1) := by decide +kernel
theorem dX9_step_71 : decode cX9_step 71 = .ok (.ifCond .ne 17, 3) := by decide +kernel
theorem dX9_step_74 : decode cX9_step 74 = .ok (.aload_n 0, 1) := by decide +kernel
theorem dX9_step_75 : decode cX9_step 75 = .ok (.getfield 43, 3) := by decide +kernel
theorem dX9_step_78 : decode cX9_step 78 = .ok (.aload_n 0, 1) := by decide +kernel
theorem dX9_step_79 : decode cX9_step 79 = .ok (.getfield 34, 3) := by decide +kernel
theorem dX9_step_82 : decode cX9_step 82 = .ok (.iload_n 1, 1) := by decide +kernel
theorem dX9_step_83 : decode cX9_step 83 = .ok (.iaload, 1) := by decide +kernel
theorem dX9_step_84 : decode cX9_step 84 = .ok (.iaload, 1) := by decide +kernel
theorem dX9_step_85 : decode cX9_step 85 = .ok (.goto 4, 3) := by decide +kernel
theorem dX9_step_88 : decode cX9_step 88 = .ok (.iconst (-1), 1) := by decide +kernel
theorem dX9_step_89 : decode cX9_step 89 = .ok (.ireturn, 1) := by decide +kernel
theorem dX9_told_0 : decode cX9_told 0 = .ok (.aload_n 0, 1) := by decide +kernel
theorem dX9_told_1 : decode cX9_told 1 = .ok (.iconst 0, 1) := by decide +kernel
theorem dX9_told_2 : decode cX9_told 2 = .ok (.putfield 65, 3) := by decide +kernel
theorem dX9_told_5 : decode cX9_told 5 = .ok (.iconst 0, 1) := by decide +kernel
theorem dX9_told_6 : decode cX9_told 6 = .ok (.istore_n 2, 1) := by decide +kernel
theorem dX9_told_7 : decode cX9_told 7 = .ok (.iconst 0, 1) := by decide +kernel
theorem dX9_told_8 : decode cX9_told 8 = .ok (.istore_n 3, 1) := by decide +kernel
theorem dX9_told_9 : decode cX9_told 9 = .ok (.iload_n 3, 1) := by decide +kernel
theorem dX9_told_10 : decode cX9_told 10 = .ok (.aload_n 0, 1) := by decide +kernel
theorem dX9_told_11 : decode cX9_told 11 = .ok (.getfield 93, 3) := by decide +kernel
theorem dX9_told_14 : decode cX9_told 14 = .ok (.if_icmp .ge 26, 3) := by decide +kernel
theorem dX9_told_17 : decode cX9_told 17 = .ok (.aload_n 0, 1) := by decide +kernel
theorem dX9_told_18 : decode cX9_told 18 = .ok (.getfield 40, 3) := by decide +kernel
theorem dX9_told_21 : decode cX9_told 21 = .ok (.iload_n 3, 1) := by decide +kernel
theorem dX9_told_22 : decode cX9_told 22 = .ok (.iaload, 1) := by decide +kernel
theorem dX9_told_23 : decode cX9_told 23 = .ok (.ifCond .le 9, 3) := by decide +kernel
theorem dX9_told_26 : decode cX9_told 26 = .ok (.iload_n 2, 1) := by decide +kernel
theorem dX9_told_27 : decode cX9_told 27 = .ok (.iconst 1, 1) := by decide +kernel
theorem dX9_told_28 : decode cX9_told 28 = .ok (.iadd, 1) := by decide +kernel
theorem dX9_told_29 : decode cX9_told 29 = .ok (.goto 4, 3) := by decide +kernel
theorem dX9_told_32 : decode cX9_told 32 = .ok (.iload_n 2, 1) := by decide +kernel
theorem dX9_told_33 : decode cX9_told 33 = .ok (.istore_n 2, 1) := by decide +kernel
theorem dX9_told_34 : decode cX9_told 34 = .ok (.iinc 3 1, 3) := by decide +kernel
theorem dX9_told_37 : decode cX9_told 37 = .ok (.goto (-28), 3) := by decide +kernel
theorem dX9_told_40 : decode cX9_told 40 = .ok (.iload_n 1, 1) := by decide +kernel
theorem dX9_told_41 : decode cX9_told 41 = .ok (.ifCond .ne 10, 3) := by decide +kernel
theorem dX9_told_44 : decode cX9_told 44 = .ok (.aload_n 0, 1) := by decide +kernel
theorem dX9_told_45 : decode cX9_told 45 = .ok (.getfield 93, 3) := by decide +kernel
theorem dX9_told_48 : decode cX9_told 48 = .ok (.goto 49, 3) := by decide +kernel
theorem dX9_told_51 : decode cX9_told 51 = .ok (.iload_n 1, 1) := by decide +kernel
theorem dX9_told_52 : decode cX9_told 52 = .ok (.iconst 1, 1) := by decide +kernel
theorem dX9_told_53 : decode cX9_told 53 = .ok (.if_icmp .ne 7, 3) := by decide +kernel
theorem dX9_told_56 : decode cX9_told 56 = .ok (.iload_n 2, 1) := by decide +kernel
theorem dX9_told_57 : decode cX9_told 57 = .ok (.goto 40, 3) := by decide +kernel
theorem dX9_told_60 : decode cX9_told 60 = .ok (.iload_n 1, 1) := by decide +kernel
theorem dX9_told_61 : decode cX9_told 61 = .ok (.iconst 2, 1) := by decide +kernel
theorem dX9_told_62 : decode cX9_told 62 = .ok (.if_icmp .ne 10, 3) := by decide +kernel
theorem dX9_told_65 : decode cX9_told 65 = .ok (.aload_n 0, 1) := by decide +kernel
theorem dX9_told_66 : decode cX9_told 66 = .ok (.getfield 96, 3) := by decide +kernel
theorem dX9_told_69 : decode cX9_told 69 = .ok (.goto 28, 3) := by decide +kernel
theorem dX9_told_72 : decode cX9_told 72 = .ok (.iload_n 1, 1) := by decide +kernel
theorem dX9_told_73 : decode cX9_told 73 = .ok (.iconst 3, 1) := by decide +kernel
theorem dX9_told_74 : decode cX9_told 74 = .ok (.if_icmp .ne 10, 3) := by decide +kernel
theorem dX9_told_77 : decode cX9_told 77 = .ok (.aload_n 0, 1) := by decide +kernel
theorem dX9_told_78 : decode cX9_told 78 = .ok (.getfield 99, 3) := by decide +kernel
theorem dX9_told_81 : decode cX9_told 81 = .ok (.goto 16, 3) := by decide +kernel
theorem dX9_told_84 : decode cX9_told 84 = .ok (.iload_n 1, 1) := by decide +kernel
theorem dX9_told_85 : decode cX9_told 85 = .ok (.iconst 4, 1) := by decide +kernel
theorem dX9_told_86 : decode cX9_told 86 = .ok (.if_icmp .ne 10, 3) := by decide +kernel
theorem dX9_told_89 : decode cX9_told 89 = .ok (.aload_n 0, 1) := by decide +kernel
theorem dX9_told_90 : decode cX9_told 90 = .ok (.getfield 122, 3) := by decide +kernel
theorem dX9_told_93 : decode cX9_told 93 = .ok (.goto 4, 3) := by decide +kernel
theorem dX9_told_96 : decode cX9_told 96 = .ok (.iconst (-1), 1) := by decide +kernel
theorem dX9_told_97 : decode cX9_told 97 = .ok (.ireturn, 1) := by decide +kernel
set_option maxRecDepth 20000 in
theorem ggX9_at_X9_know : GoodIn wsX9_at wsX9_know := goodIn_r _ [8, 9, 2, 10, 11, 3, 12, 13, 14, 15, 16, 7, 17, 18, 19, 20, 21, 22, 23, 24, 25, 26, 27, 28, 29, 30, 31, 40, 41, 42, 43, 44, 45, 46, 47, 48, 49, 50, 51, 52, 53, 54, 55, 56, 57, 58, 59, 60, 61, 62, 63, 64, 65, 66, 67, 68, 69, 70] (by decide +kernel) (by decide +kernel)
set_option maxRecDepth 20000 in
theorem gX9_at_X9_know : GoodIn wsX9_at (wsV RX9 112 RX9 yX9_know wsX9_know) := goodIn_app (goodIn_of _ (by decide +kernel)) ggX9_at_X9_know
set_option maxRecDepth 20000 in
theorem ggX9_at_X9_longestAt : GoodIn wsX9_at wsX9_longestAt := goodIn_r _ [35, 2, 26, 27, 28, 7, 29, 30, 10, 31, 12, 40, 41, 42, 43, 44, 45, 46, 47, 48, 49, 50, 51, 52, 53, 54, 55, 56, 57, 58, 59, 60, 61, 62, 63, 64, 65, 66, 67, 68, 69, 70] (by decide +kernel) (by decide +kernel)
set_option maxRecDepth 20000 in
theorem gX9_at_X9_longestAt : GoodIn wsX9_at (wsV RX9 106 RX9 yX9_longestAt wsX9_longestAt) := goodIn_app (goodIn_of _ (by decide +kernel)) ggX9_at_X9_longestAt
set_option maxRecDepth 20000 in
theorem ggX9_at_X9_longest : GoodIn wsX9_at wsX9_longest := goodIn_r _ [29, 30, 10, 31, 12, 40, 41, 42, 43, 44, 45, 46, 47, 48, 49, 50, 51, 52, 53, 54, 55, 56, 57, 58, 59, 60, 61, 62, 63, 64, 65, 66, 67, 68, 69, 70] (by decide +kernel) (by decide +kernel)
set_option maxRecDepth 20000 in
theorem gX9_at_X9_longest : GoodIn wsX9_at (wsV RX9 89 RX9 yX9_longest wsX9_longest) := goodIn_app (goodIn_of _ (by decide +kernel)) ggX9_at_X9_longest
set_option maxRecDepth 20000 in
theorem ggX9_at_X9_nearestOf : GoodIn wsX9_at wsX9_nearestOf := goodIn_r _ [39, 26, 27, 28, 7, 29, 30, 10, 31, 12, 40, 41, 42, 43, 44, 45, 46, 47, 48, 49, 50, 51, 52, 53, 54, 55, 56, 57, 58, 59, 60, 61, 62, 63, 64, 65, 66, 67, 68, 69, 70] (by decide +kernel) (by decide +kernel)
set_option maxRecDepth 20000 in
theorem gX9_at_X9_nearestOf : GoodIn wsX9_at (wsV RX9 109 RX9 yX9_nearestOf wsX9_nearestOf) := goodIn_app (goodIn_of _ (by decide +kernel)) ggX9_at_X9_nearestOf
theorem dX9_at_0 : decode cX9_at 0 = .ok (.aload_n 0, 1) := by decide +kernel
theorem dX9_at_1 : decode cX9_at 1 = .ok (.iconst 0, 1) := by decide +kernel
theorem dX9_at_2 : decode cX9_at 2 = .ok (.putfield 65, 3) := by decide +kernel
theorem dX9_at_5 : decode cX9_at 5 = .ok (.iload_n 2, 1) := by decide +kernel
theorem dX9_at_6 : decode cX9_at 6 = .ok (.ifCond .lt 37, 3) := by decide +kernel
theorem dX9_at_9 : decode cX9_at 9 = .ok (.iload_n 2, 1) := by decide +kernel
theorem dX9_at_10 : decode cX9_at 10 = .ok (.iconst 3, 1) := by decide +kernel
theorem dX9_at_11 : decode cX9_at 11 = .ok (.if_icmp .gt 32, 3) := by decide +kernel
theorem dX9_at_14 : decode cX9_at 14 = .ok (.iload_n 1, 1) := by decide +kernel
theorem dX9_at_15 : decode cX9_at 15 = .ok (.ifCond .lt 28, 3) := by decide +kernel
theorem dX9_at_18 : decode cX9_at 18 = .ok (.iload_n 1, 1) := by decide +kernel
theorem dX9_at_19 : decode cX9_at 19 = .ok (.aload_n 0, 1) := by decide +kernel
theorem dX9_at_20 : decode cX9_at 20 = .ok (.getfield 68, 3) := by decide +kernel
theorem dX9_at_23 : decode cX9_at 23 = .ok (.if_icmp .lt 16, 3) := by decide +kernel
theorem dX9_at_26 : decode cX9_at 26 = .ok (.iload_n 2, 1) := by decide +kernel
theorem dX9_at_27 : decode cX9_at 27 = .ok (.iconst 3, 1) := by decide +kernel
theorem dX9_at_28 : decode cX9_at 28 = .ok (.if_icmp .ne 15, 3) := by decide +kernel
theorem dX9_at_31 : decode cX9_at 31 = .ok (.iload_n 1, 1) := by decide +kernel
theorem dX9_at_32 : decode cX9_at 32 = .ok (.aload_n 0, 1) := by decide +kernel
theorem dX9_at_33 : decode cX9_at 33 = .ok (.getfield 68, 3) := by decide +kernel
theorem dX9_at_36 : decode cX9_at 36 = .ok (.if_icmp .ne 7, 3) := by decide +kernel
theorem dX9_at_39 : decode cX9_at 39 = .ok (.iconst 1, 1) := by decide +kernel
theorem dX9_at_40 : decode cX9_at 40 = .ok (.goto 4, 3) := by decide +kernel
theorem dX9_at_43 : decode cX9_at 43 = .ok (.iconst 0, 1) := by decide +kernel
theorem dX9_at_44 : decode cX9_at 44 = .ok (.istore_n 3, 1) := by decide +kernel
theorem dX9_at_45 : decode cX9_at 45 = .ok (.iload_n 3, 1) := by decide +kernel
theorem dX9_at_46 : decode cX9_at 46 = .ok (.ifCond .ne 5, 3) := by decide +kernel
theorem dX9_at_49 : decode cX9_at 49 = .ok (.iconst (-1), 1) := by decide +kernel
theorem dX9_at_50 : decode cX9_at 50 = .ok (.ireturn, 1) := by decide +kernel
theorem dX9_at_51 : decode cX9_at 51 = .ok (.aload_n 0, 1) := by decide +kernel
theorem dX9_at_52 : decode cX9_at 52 = .ok (.invokevirtual 112, 3) := by decide +kernel
theorem dX9_at_55 : decode cX9_at 55 = .ok (.iload_n 2, 1) := by decide +kernel
theorem dX9_at_56 : decode cX9_at 56 = .ok (.iconst 3, 1) := by decide +kernel
theorem dX9_at_57 : decode cX9_at 57 = .ok (.if_icmp .ne 10, 3) := by decide +kernel
theorem dX9_at_60 : decode cX9_at 60 = .ok (.aload_n 0, 1) := by decide +kernel
theorem dX9_at_61 : decode cX9_at 61 = .ok (.getfield 31, 3) := by decide +kernel
theorem dX9_at_64 : decode cX9_at 64 = .ok (.iload_n 1, 1) := by decide +kernel
theorem dX9_at_65 : decode cX9_at 65 = .ok (.iaload, 1) := by decide +kernel
theorem dX9_at_66 : decode cX9_at 66 = .ok (.ireturn, 1) := by decide +kernel
theorem dX9_at_67 : decode cX9_at 67 = .ok (.aload_n 0, 1) := by decide +kernel
theorem dX9_at_68 : decode cX9_at 68 = .ok (.iload_n 1, 1) := by decide +kernel
theorem dX9_at_69 : decode cX9_at 69 = .ok (.invokevirtual 106, 3) := by decide +kernel
theorem dX9_at_72 : decode cX9_at 72 = .ok (.istore 4, 2) := by decide +kernel
theorem dX9_at_74 : decode cX9_at 74 = .ok (.iconst 0, 1) := by decide +kernel
theorem dX9_at_75 : decode cX9_at 75 = .ok (.istore 5, 2) := by decide +kernel
theorem dX9_at_77 : decode cX9_at 77 = .ok (.iconst 1, 1) := by decide +kernel
theorem dX9_at_78 : decode cX9_at 78 = .ok (.istore 6, 2) := by decide +kernel
theorem dX9_at_80 : decode cX9_at 80 = .ok (.iload 6, 2) := by decide +kernel
theorem dX9_at_82 : decode cX9_at 82 = .ok (.iload_n 1, 1) := by decide +kernel
theorem dX9_at_83 : decode cX9_at 83 = .ok (.if_icmp .gt 30, 3) := by decide +kernel
theorem dX9_at_86 : decode cX9_at 86 = .ok (.aload_n 0, 1) := by decide +kernel
theorem dX9_at_87 : decode cX9_at 87 = .ok (.iload_n 1, 1) := by decide +kernel
theorem dX9_at_88 : decode cX9_at 88 = .ok (.iload 6, 2) := by decide +kernel
theorem dX9_at_90 : decode cX9_at 90 = .ok (.invokevirtual 89, 3) := by decide +kernel
theorem dX9_at_93 : decode cX9_at 93 = .ok (.ifCond .le 10, 3) := by decide +kernel
theorem dX9_at_96 : decode cX9_at 96 = .ok (.iload 5, 2) := by decide +kernel
theorem dX9_at_98 : decode cX9_at 98 = .ok (.iconst 1, 1) := by decide +kernel
theorem dX9_at_99 : decode cX9_at 99 = .ok (.iadd, 1) := by decide +kernel
theorem dX9_at_100 : decode cX9_at 100 = .ok (.goto 5, 3) := by decide +kernel
theorem dX9_at_103 : decode cX9_at 103 = .ok (.iload 5, 2) := by decide +kernel
theorem dX9_at_105 : decode cX9_at 105 = .ok (.istore 5, 2) := by decide +kernel
theorem dX9_at_107 : decode cX9_at 107 = .ok (.iinc 6 1, 3) := by decide +kernel
theorem dX9_at_110 : decode cX9_at 110 = .ok (.goto (-30), 3) := by decide +kernel
theorem dX9_at_113 : decode cX9_at 113 = .ok (.iload_n 2, 1) := by decide +kernel
theorem dX9_at_114 : decode cX9_at 114 = .ok (.ifCond .ne 8, 3) := by decide +kernel
theorem dX9_at_117 : decode cX9_at 117 = .ok (.iload 4, 2) := by decide +kernel
theorem dX9_at_119 : decode cX9_at 119 = .ok (.goto 29, 3) := by decide +kernel
theorem dX9_at_122 : decode cX9_at 122 = .ok (.iload_n 2, 1) := by decide +kernel
theorem dX9_at_123 : decode cX9_at 123 = .ok (.iconst 2, 1) := by decide +kernel
theorem dX9_at_124 : decode cX9_at 124 = .ok (.if_icmp .ne 8, 3) := by decide +kernel
theorem dX9_at_127 : decode cX9_at 127 = .ok (.iload 5, 2) := by decide +kernel
theorem dX9_at_129 : decode cX9_at 129 = .ok (.goto 19, 3) := by decide +kernel
theorem dX9_at_132 : decode cX9_at 132 = .ok (.iload 4, 2) := by decide +kernel
theorem dX9_at_134 : decode cX9_at 134 = .ok (.ifCond .ne 7, 3) := by decide +kernel
theorem dX9_at_137 : decode cX9_at 137 = .ok (.iconst 0, 1) := by decide +kernel
theorem dX9_at_138 : decode cX9_at 138 = .ok (.goto 10, 3) := by decide +kernel
theorem dX9_at_141 : decode cX9_at 141 = .ok (.aload_n 0, 1) := by decide +kernel
theorem dX9_at_142 : decode cX9_at 142 = .ok (.iload_n 1, 1) := by decide +kernel
theorem dX9_at_143 : decode cX9_at 143 = .ok (.iload 4, 2) := by decide +kernel
theorem dX9_at_145 : decode cX9_at 145 = .ok (.invokevirtual 109, 3) := by decide +kernel
theorem dX9_at_148 : decode cX9_at 148 = .ok (.ireturn, 1) := by decide +kernel
theorem dX9_put_0 : decode cX9_put 0 = .ok (.iload_n 2, 1) := by decide +kernel
theorem dX9_put_1 : decode cX9_put 1 = .ok (.iconst 1, 1) := by decide +kernel
theorem dX9_put_2 : decode cX9_put 2 = .ok (.isub, 1) := by decide +kernel
theorem dX9_put_3 : decode cX9_put 3 = .ok (.istore_n 3, 1) := by decide +kernel
theorem dX9_put_4 : decode cX9_put 4 = .ok (.iload_n 3, 1) := by decide +kernel
theorem dX9_put_5 : decode cX9_put 5 = .ok (.ifCond .lt 42, 3) := by decide +kernel
theorem dX9_put_8 : decode cX9_put 8 = .ok (.aload_n 0, 1) := by decide +kernel
theorem dX9_put_9 : decode cX9_put 9 = .ok (.getfield 46, 3) := by decide +kernel
theorem dX9_put_12 : decode cX9_put 12 = .ok (.aload_n 0, 1) := by decide +kernel
theorem dX9_put_13 : decode cX9_put 13 = .ok (.getfield 131, 3) := by decide +kernel
theorem dX9_put_16 : decode cX9_put 16 = .ok (.iload_n 1, 1) := by decide +kernel
theorem dX9_put_17 : decode cX9_put 17 = .ok (.iload_n 3, 1) := by decide +kernel
theorem dX9_put_18 : decode cX9_put 18 = .ok (.ishr, 1) := by decide +kernel
theorem dX9_put_19 : decode cX9_put 19 = .ok (.iconst 1, 1) := by decide +kernel
theorem dX9_put_20 : decode cX9_put 20 = .ok (.iand, 1) := by decide +kernel
theorem dX9_put_21 : decode cX9_put 21 = .ok (.iconst 1, 1) := by decide +kernel
theorem dX9_put_22 : decode cX9_put 22 = .ok (.if_icmp .ne 7, 3) := by decide +kernel
theorem dX9_put_25 : decode cX9_put 25 = .ok (.iconst 1, 1) := by decide +kernel
theorem dX9_put_26 : decode cX9_put 26 = .ok (.goto 4, 3) := by decide +kernel
theorem dX9_put_29 : decode cX9_put 29 = .ok (.iconst 0, 1) := by decide +kernel
theorem dX9_put_30 : decode cX9_put 30 = .ok (.bastore, 1) := by decide +kernel
theorem dX9_put_31 : decode cX9_put 31 = .ok (.aload_n 0, 1) := by decide +kernel
theorem dX9_put_32 : decode cX9_put 32 = .ok (.dup, 1) := by decide +kernel
theorem dX9_put_33 : decode cX9_put 33 = .ok (.getfield 131, 3) := by decide +kernel
theorem dX9_put_36 : decode cX9_put 36 = .ok (.iconst 1, 1) := by decide +kernel
theorem dX9_put_37 : decode cX9_put 37 = .ok (.iadd, 1) := by decide +kernel
theorem dX9_put_38 : decode cX9_put 38 = .ok (.putfield 131, 3) := by decide +kernel
theorem dX9_put_41 : decode cX9_put 41 = .ok (.iinc 3 (-1), 3) := by decide +kernel
theorem dX9_put_44 : decode cX9_put 44 = .ok (.goto (-40), 3) := by decide +kernel
theorem dX9_put_47 : decode cX9_put 47 = .ok (.return_, 1) := by decide +kernel
set_option maxRecDepth 20000 in
theorem ggX9_write_X9_put : GoodIn wsX9_write wsX9_put := goodIn_r _ [16, 17, 2, 21, 22, 23, 24, 25, 26, 27, 28, 29, 30, 31, 32, 33, 34, 35, 36, 37, 38, 39, 40, 41, 42, 43, 44, 45, 46, 47, 48, 49, 50, 51] (by decide +kernel) (by decide +kernel)
set_option maxRecDepth 20000 in
theorem gX9_write_X9_put : GoodIn wsX9_write (wsV RX9 134 RX9 yX9_put wsX9_put) := goodIn_app (goodIn_of _ (by decide +kernel)) ggX9_write_X9_put
set_option maxRecDepth 20000 in
theorem ggX9_write_X9_classOf : GoodIn wsX9_write wsX9_classOf := goodIn_r _ [20] (by decide +kernel) (by decide +kernel)
set_option maxRecDepth 20000 in
theorem gX9_write_X9_classOf : GoodIn wsX9_write (va_wsS RX9 77 yX9_classOf wsX9_classOf) := goodIn_app (goodIn_of _ (by decide +kernel)) ggX9_write_X9_classOf
theorem dX9_write_0 : decode cX9_write 0 = .ok (.aload_n 0, 1) := by decide +kernel
theorem dX9_write_1 : decode cX9_write 1 = .ok (.iconst 0, 1) := by decide +kernel
theorem dX9_write_2 : decode cX9_write 2 = .ok (.putfield 65, 3) := by decide +kernel
theorem dX9_write_5 : decode cX9_write 5 = .ok (.aload_n 0, 1) := by decide +kernel
theorem dX9_write_6 : decode cX9_write 6 = .ok (.iconst 0, 1) := by decide +kernel
theorem dX9_write_7 : decode cX9_write 7 = .ok (.putfield 131, 3) := by decide +kernel
theorem dX9_write_10 : decode cX9_write 10 = .ok (.aload_n 0, 1) := by decide +kernel
theorem dX9_write_11 : decode cX9_write 11 = .ok (.getfield 128, 3) := by decide +kernel
theorem dX9_write_14 : decode cX9_write 14 = .ok (.ifCond .eq 13, 3) := by decide +kernel
theorem dX9_write_17 : decode cX9_write 17 = .ok (.aload_n 0, 1) := by decide +kernel
theorem dX9_write_18 : decode cX9_write 18 = .ok (.aload_n 0, 1) := by decide +kernel
theorem dX9_write_19 : decode cX9_write 19 = .ok (.getfield 122, 3) := by decide +kernel
theorem dX9_write_22 : decode cX9_write 22 = .ok (.bipush 16, 2) := by decide +kernel
theorem dX9_write_24 : decode cX9_write 24 = .ok (.invokevirtual 134, 3) := by decide +kernel
theorem dX9_write_27 : decode cX9_write 27 = .ok (.iconst 0, 1) := by decide +kernel
theorem dX9_write_28 : decode cX9_write 28 = .ok (.istore_n 1, 1) := by decide +kernel
theorem dX9_write_29 : decode cX9_write 29 = .ok (.iload_n 1, 1) := by decide +kernel
theorem dX9_write_30 : decode cX9_write 30 = .ok (.aload_n 0, 1) := by decide +kernel
theorem dX9_write_31 : decode cX9_write 31 = .ok (.getfield 93, 3) := by decide +kernel
theorem dX9_write_34 : decode cX9_write 34 = .ok (.if_icmp .ge 116, 3) := by decide +kernel
theorem dX9_write_37 : decode cX9_write 37 = .ok (.aload_n 0, 1) := by decide +kernel
theorem dX9_write_38 : decode cX9_write 38 = .ok (.getfield 40, 3) := by decide +kernel
theorem dX9_write_41 : decode cX9_write 41 = .ok (.iload_n 1, 1) := by decide +kernel
theorem dX9_write_42 : decode cX9_write 42 = .ok (.iaload, 1) := by decide +kernel
theorem dX9_write_43 : decode cX9_write 43 = .ok (.ifCond .ne 29, 3) := by decide +kernel
theorem dX9_write_46 : decode cX9_write 46 = .ok (.aload_n 0, 1) := by decide +kernel
theorem dX9_write_47 : decode cX9_write 47 = .ok (.iconst 0, 1) := by decide +kernel
theorem dX9_write_48 : decode cX9_write 48 = .ok (.iconst 1, 1) := by decide +kernel
theorem dX9_write_49 : decode cX9_write 49 = .ok (.invokevirtual 134, 3) := by decide +kernel
theorem dX9_write_52 : decode cX9_write 52 = .ok (.aload_n 0, 1) := by decide +kernel
theorem dX9_write_53 : decode cX9_write 53 = .ok (.aload_n 0, 1) := by decide +kernel
theorem dX9_write_54 : decode cX9_write 54 = .ok (.getfield 43, 3) := by decide +kernel
theorem dX9_write_57 : decode cX9_write 57 = .ok (.aload_n 0, 1) := by decide +kernel
theorem dX9_write_58 : decode cX9_write 58 = .ok (.getfield 34, 3) := by decide +kernel
theorem dX9_write_61 : decode cX9_write 61 = .ok (.iload_n 1, 1) := by decide +kernel
theorem dX9_write_62 : decode cX9_write 62 = .ok (.iaload, 1) := by decide +kernel
theorem dX9_write_63 : decode cX9_write 63 = .ok (.iaload, 1) := by decide +kernel
theorem dX9_write_64 : decode cX9_write 64 = .ok (.bipush 8, 2) := by decide +kernel
theorem dX9_write_66 : decode cX9_write 66 = .ok (.invokevirtual 134, 3) := by decide +kernel
theorem dX9_write_69 : decode cX9_write 69 = .ok (.goto 75, 3) := by decide +kernel
theorem dX9_write_72 : decode cX9_write 72 = .ok (.aload_n 0, 1) := by decide +kernel
theorem dX9_write_73 : decode cX9_write 73 = .ok (.getfield 37, 3) := by decide +kernel
theorem dX9_write_76 : decode cX9_write 76 = .ok (.iload_n 1, 1) := by decide +kernel
theorem dX9_write_77 : decode cX9_write 77 = .ok (.iaload, 1) := by decide +kernel
theorem dX9_write_78 : decode cX9_write 78 = .ok (.aload_n 0, 1) := by decide +kernel
theorem dX9_write_79 : decode cX9_write 79 = .ok (.getfield 125, 3) := by decide +kernel
theorem dX9_write_82 : decode cX9_write 82 = .ok (.isub, 1) := by decide +kernel
theorem dX9_write_83 : decode cX9_write 83 = .ok (.iconst 1, 1) := by decide +kernel
theorem dX9_write_84 : decode cX9_write 84 = .ok (.iadd, 1) := by decide +kernel
theorem dX9_write_85 : decode cX9_write 85 = .ok (.istore_n 2, 1) := by decide +kernel
theorem dX9_write_86 : decode cX9_write 86 = .ok (.iload_n 2, 1) := by decide +kernel
theorem dX9_write_87 : decode cX9_write 87 = .ok (.invokestatic 77, 3) := by decide +kernel
theorem dX9_write_90 : decode cX9_write 90 = .ok (.istore_n 3, 1) := by decide +kernel
theorem dX9_write_91 : decode cX9_write 91 = .ok (.aload_n 0, 1) := by decide +kernel
theorem dX9_write_92 : decode cX9_write 92 = .ok (.iconst 1, 1) := by decide +kernel
theorem dX9_write_93 : decode cX9_write 93 = .ok (.iconst 1, 1) := by decide +kernel
theorem dX9_write_94 : decode cX9_write 94 = .ok (.invokevirtual 134, 3) := by decide +kernel
theorem dX9_write_97 : decode cX9_write 97 = .ok (.aload_n 0, 1) := by decide +kernel
theorem dX9_write_98 : decode cX9_write 98 = .ok (.iconst 0, 1) := by decide +kernel
theorem dX9_write_99 : decode cX9_write 99 = .ok (.iload_n 3, 1) := by decide +kernel
theorem dX9_write_100 : decode cX9_write 100 = .ok (.invokevirtual 134, 3) := by decide +kernel
theorem dX9_write_103 : decode cX9_write 103 = .ok (.aload_n 0, 1) := by decide +kernel
theorem dX9_write_104 : decode cX9_write 104 = .ok (.iload_n 2, 1) := by decide +kernel
theorem dX9_write_105 : decode cX9_write 105 = .ok (.iload_n 3, 1) := by decide +kernel
theorem dX9_write_106 : decode cX9_write 106 = .ok (.iconst 1, 1) := by decide +kernel
theorem dX9_write_107 : decode cX9_write 107 = .ok (.iadd, 1) := by decide +kernel
theorem dX9_write_108 : decode cX9_write 108 = .ok (.invokevirtual 134, 3) := by decide +kernel
theorem dX9_write_111 : decode cX9_write 111 = .ok (.aload_n 0, 1) := by decide +kernel
theorem dX9_write_112 : decode cX9_write 112 = .ok (.aload_n 0, 1) := by decide +kernel
theorem dX9_write_113 : decode cX9_write 113 = .ok (.getfield 40, 3) := by decide +kernel
theorem dX9_write_116 : decode cX9_write 116 = .ok (.iload_n 1, 1) := by decide +kernel
theorem dX9_write_117 : decode cX9_write 117 = .ok (.iaload, 1) := by decide +kernel
theorem dX9_write_118 : decode cX9_write 118 = .ok (.invokestatic 77, 3) := by decide +kernel
theorem dX9_write_121 : decode cX9_write 121 = .ok (.iconst 4, 1) := by decide +kernel
theorem dX9_write_122 : decode cX9_write 122 = .ok (.invokevirtual 134, 3) := by decide +kernel
theorem dX9_write_125 : decode cX9_write 125 = .ok (.aload_n 0, 1) := by decide +kernel
theorem dX9_write_126 : decode cX9_write 126 = .ok (.aload_n 0, 1) := by decide +kernel
theorem dX9_write_127 : decode cX9_write 127 = .ok (.getfield 40, 3) := by decide +kernel
theorem dX9_write_130 : decode cX9_write 130 = .ok (.iload_n 1, 1) := by decide +kernel
theorem dX9_write_131 : decode cX9_write 131 = .ok (.iaload, 1) := by decide +kernel
theorem dX9_write_132 : decode cX9_write 132 = .ok (.aload_n 0, 1) := by decide +kernel
theorem dX9_write_133 : decode cX9_write 133 = .ok (.getfield 40, 3) := by decide +kernel
theorem dX9_write_136 : decode cX9_write 136 = .ok (.iload_n 1, 1) := by decide +kernel
theorem dX9_write_137 : decode cX9_write 137 = .ok (.iaload, 1) := by decide +kernel
theorem dX9_write_138 : decode cX9_write 138 = .ok (.invokestatic 77, 3) := by decide +kernel
theorem dX9_write_141 : decode cX9_write 141 = .ok (.invokevirtual 134, 3) := by decide +kernel
theorem dX9_write_144 : decode cX9_write 144 = .ok (.iinc 1 1, 3) := by decide +kernel
theorem dX9_write_147 : decode cX9_write 147 = .ok (.goto (-118), 3) := by decide +kernel
theorem dX9_write_150 : decode cX9_write 150 = .ok (.aload_n 0, 1) := by decide +kernel
theorem dX9_write_151 : decode cX9_write 151 = .ok (.getfield 131, 3) := by decide +kernel
theorem dX9_write_154 : decode cX9_write 154 = .ok (.bipush 8, 2) := by decide +kernel
theorem dX9_write_156 : decode cX9_write 156 = .ok (.irem, 1) := by decide +kernel
theorem dX9_write_157 : decode cX9_write 157 = .ok (.ifCond .le 12, 3) := by decide +kernel
theorem dX9_write_160 : decode cX9_write 160 = .ok (.aload_n 0, 1) := by decide +kernel
theorem dX9_write_161 : decode cX9_write 161 = .ok (.iconst 0, 1) := by decide +kernel
theorem dX9_write_162 : decode cX9_write 162 = .ok (.iconst 1, 1) := by decide +kernel
theorem dX9_write_163 : decode cX9_write 163 = .ok (.invokevirtual 134, 3) := by decide +kernel
theorem dX9_write_166 : decode cX9_write 166 = .ok (.goto (-16), 3) := by decide +kernel
theorem dX9_write_169 : decode cX9_write 169 = .ok (.aload_n 0, 1) := by decide +kernel
theorem dX9_write_170 : decode cX9_write 170 = .ok (.aload_n 0, 1) := by decide +kernel
theorem dX9_write_171 : decode cX9_write 171 = .ok (.getfield 131, 3) := by decide +kernel
theorem dX9_write_174 : decode cX9_write 174 = .ok (.bipush 8, 2) := by decide +kernel
theorem dX9_write_176 : decode cX9_write 176 = .ok (.idiv, 1) := by decide +kernel
theorem dX9_write_177 : decode cX9_write 177 = .ok (.putfield 138, 3) := by decide +kernel
theorem dX9_write_180 : decode cX9_write 180 = .ok (.aload_n 0, 1) := by decide +kernel
theorem dX9_write_181 : decode cX9_write 181 = .ok (.getfield 138, 3) := by decide +kernel
theorem dX9_write_184 : decode cX9_write 184 = .ok (.ireturn, 1) := by decide +kernel
theorem dX9_written_0 : decode cX9_written 0 = .ok (.aload_n 0, 1) := by decide +kernel
theorem dX9_written_1 : decode cX9_written 1 = .ok (.iconst 0, 1) := by decide +kernel
theorem dX9_written_2 : decode cX9_written 2 = .ok (.putfield 65, 3) := by decide +kernel
theorem dX9_written_5 : decode cX9_written 5 = .ok (.iload_n 1, 1) := by decide +kernel
theorem dX9_written_6 : decode cX9_written 6 = .ok (.ifCond .lt 11, 3) := by decide +kernel
theorem dX9_written_9 : decode cX9_written 9 = .ok (.iload_n 1, 1) := by decide +kernel
theorem dX9_written_10 : decode cX9_written 10 = .ok (.aload_n 0, 1) := by decide +kernel
theorem dX9_written_11 : decode cX9_written 11 = .ok (.getfield 138, 3) := by decide +kernel
theorem dX9_written_14 : decode cX9_written 14 = .ok (.if_icmp .lt 5, 3) := by decide +kernel
theorem dX9_written_17 : decode cX9_written 17 = .ok (.iconst (-1), 1) := by decide +kernel
theorem dX9_written_18 : decode cX9_written 18 = .ok (.ireturn, 1) := by decide +kernel
theorem dX9_written_19 : decode cX9_written 19 = .ok (.iconst 0, 1) := by decide +kernel
theorem dX9_written_20 : decode cX9_written 20 = .ok (.istore_n 2, 1) := by decide +kernel
theorem dX9_written_21 : decode cX9_written 21 = .ok (.iconst 0, 1) := by decide +kernel
theorem dX9_written_22 : decode cX9_written 22 = .ok (.istore_n 3, 1) := by decide +kernel
theorem dX9_written_23 : decode cX9_written 23 = .ok (.iload_n 3, 1) := by decide +kernel
theorem dX9_written_24 : decode cX9_written 24 = .ok (.bipush 8, 2) := by decide +kernel
theorem dX9_written_26 : decode cX9_written 26 = .ok (.if_icmp .ge 33, 3) := by decide +kernel
theorem dX9_written_29 : decode cX9_written 29 = .ok (.iconst 2, 1) := by decide +kernel
theorem dX9_written_30 : decode cX9_written 30 = .ok (.iload_n 2, 1) := by decide +kernel
theorem dX9_written_31 : decode cX9_written 31 = .ok (.imul, 1) := by decide +kernel
theorem dX9_written_32 : decode cX9_written 32 = .ok (.aload_n 0, 1) := by decide +kernel
theorem dX9_written_33 : decode cX9_written 33 = .ok (.getfield 46, 3) := by decide +kernel
theorem dX9_written_36 : decode cX9_written 36 = .ok (.bipush 8, 2) := by decide +kernel
theorem dX9_written_38 : decode cX9_written 38 = .ok (.iload_n 1, 1) := by decide +kernel
theorem dX9_written_39 : decode cX9_written 39 = .ok (.imul, 1) := by decide +kernel
theorem dX9_written_40 : decode cX9_written 40 = .ok (.iload_n 3, 1) := by decide +kernel
theorem dX9_written_41 : decode cX9_written 41 = .ok (.iadd, 1) := by decide +kernel
theorem dX9_written_42 : decode cX9_written 42 = .ok (.baload, 1) := by decide +kernel
theorem dX9_written_43 : decode cX9_written 43 = .ok (.ifCond .eq 7, 3) := by decide +kernel
theorem dX9_written_46 : decode cX9_written 46 = .ok (.iconst 1, 1) := by decide +kernel
theorem dX9_written_47 : decode cX9_written 47 = .ok (.goto 4, 3) := by decide +kernel
theorem dX9_written_50 : decode cX9_written 50 = .ok (.iconst 0, 1) := by decide +kernel
theorem dX9_written_51 : decode cX9_written 51 = .ok (.iadd, 1) := by decide +kernel
theorem dX9_written_52 : decode cX9_written 52 = .ok (.istore_n 2, 1) := by decide +kernel
theorem dX9_written_53 : decode cX9_written 53 = .ok (.iinc 3 1, 3) := by decide +kernel
theorem dX9_written_56 : decode cX9_written 56 = .ok (.goto (-33), 3) := by decide +kernel
theorem dX9_written_59 : decode cX9_written 59 = .ok (.iload_n 2, 1) := by decide +kernel
theorem dX9_written_60 : decode cX9_written 60 = .ok (.ireturn, 1) := by decide +kernel
theorem dX9_load_0 : decode cX9_load 0 = .ok (.aload_n 0, 1) := by decide +kernel
theorem dX9_load_1 : decode cX9_load 1 = .ok (.iconst 0, 1) := by decide +kernel
theorem dX9_load_2 : decode cX9_load 2 = .ok (.putfield 65, 3) := by decide +kernel
theorem dX9_load_5 : decode cX9_load 5 = .ok (.iload_n 3, 1) := by decide +kernel
theorem dX9_load_6 : decode cX9_load 6 = .ok (.iconst 1, 1) := by decide +kernel
theorem dX9_load_7 : decode cX9_load 7 = .ok (.if_icmp .lt 21, 3) := by decide +kernel
theorem dX9_load_10 : decode cX9_load 10 = .ok (.iload_n 3, 1) := by decide +kernel
theorem dX9_load_11 : decode cX9_load 11 = .ok (.bipush 8, 2) := by decide +kernel
theorem dX9_load_13 : decode cX9_load 13 = .ok (.if_icmp .gt 15, 3) := by decide +kernel
theorem dX9_load_16 : decode cX9_load 16 = .ok (.aload_n 0, 1) := by decide +kernel
theorem dX9_load_17 : decode cX9_load 17 = .ok (.getfield 141, 3) := by decide +kernel
theorem dX9_load_20 : decode cX9_load 20 = .ok (.iload_n 3, 1) := by decide +kernel
theorem dX9_load_21 : decode cX9_load 21 = .ok (.iadd, 1) := by decide +kernel
theorem dX9_load_22 : decode cX9_load 22 = .ok (.sipush 700, 3) := by decide +kernel
theorem dX9_load_25 : decode cX9_load 25 = .ok (.if_icmp .le 5, 3) := by decide +kernel
theorem dX9_load_28 : decode cX9_load 28 = .ok (.iconst (-1), 1) := by decide +kernel
theorem dX9_load_29 : decode cX9_load 29 = .ok (.ireturn, 1) := by decide +kernel
theorem dX9_load_30 : decode cX9_load 30 = .ok (.iload_n 3, 1) := by decide +kernel
theorem dX9_load_31 : decode cX9_load 31 = .ok (.iconst 1, 1) := by decide +kernel
theorem dX9_load_32 : decode cX9_load 32 = .ok (.isub, 1) := by decide +kernel
theorem dX9_load_33 : decode cX9_load 33 = .ok (.istore 4, 2) := by decide +kernel
theorem dX9_load_35 : decode cX9_load 35 = .ok (.iload 4, 2) := by decide +kernel
theorem dX9_load_37 : decode cX9_load 37 = .ok (.ifCond .lt 40, 3) := by decide +kernel
theorem dX9_load_40 : decode cX9_load 40 = .ok (.aload_n 0, 1) := by decide +kernel
theorem dX9_load_41 : decode cX9_load 41 = .ok (.getfield 50, 3) := by decide +kernel
theorem dX9_load_44 : decode cX9_load 44 = .ok (.aload_n 0, 1) := by decide +kernel
theorem dX9_load_45 : decode cX9_load 45 = .ok (.getfield 141, 3) := by decide +kernel
theorem dX9_load_48 : decode cX9_load 48 = .ok (.lload_n 1, 1) := by decide +kernel
theorem dX9_load_49 : decode cX9_load 49 = .ok (.bipush 8, 2) := by decide +kernel
theorem dX9_load_51 : decode cX9_load 51 = .ok (.iload 4, 2) := by decide +kernel
theorem dX9_load_53 : decode cX9_load 53 = .ok (.imul, 1) := by decide +kernel
theorem dX9_load_54 : decode cX9_load 54 = .ok (.lshr, 1) := by decide +kernel
theorem dX9_load_55 : decode cX9_load 55 = .ok (.ldc2_w 71, 3) := by decide +kernel
theorem dX9_load_58 : decode cX9_load 58 = .ok (.land, 1) := by decide +kernel
theorem dX9_load_59 : decode cX9_load 59 = .ok (.l2i, 1) := by decide +kernel
theorem dX9_load_60 : decode cX9_load 60 = .ok (.iastore, 1) := by decide +kernel
theorem dX9_load_61 : decode cX9_load 61 = .ok (.aload_n 0, 1) := by decide +kernel
theorem dX9_load_62 : decode cX9_load 62 = .ok (.dup, 1) := by decide +kernel
theorem dX9_load_63 : decode cX9_load 63 = .ok (.getfield 141, 3) := by decide +kernel
theorem dX9_load_66 : decode cX9_load 66 = .ok (.iconst 1, 1) := by decide +kernel
theorem dX9_load_67 : decode cX9_load 67 = .ok (.iadd, 1) := by decide +kernel
theorem dX9_load_68 : decode cX9_load 68 = .ok (.putfield 141, 3) := by decide +kernel
theorem dX9_load_71 : decode cX9_load 71 = .ok (.iinc 4 (-1), 3) := by decide +kernel
theorem dX9_load_74 : decode cX9_load 74 = .ok (.goto (-39), 3) := by decide +kernel
theorem dX9_load_77 : decode cX9_load 77 = .ok (.aload_n 0, 1) := by decide +kernel
theorem dX9_load_78 : decode cX9_load 78 = .ok (.getfield 141, 3) := by decide +kernel
theorem dX9_load_81 : decode cX9_load 81 = .ok (.ireturn, 1) := by decide +kernel
theorem dX9_takeBit_0 : decode cX9_takeBit 0 = .ok (.aload_n 0, 1) := by decide +kernel
theorem dX9_takeBit_1 : decode cX9_takeBit 1 = .ok (.getfield 144, 3) := by decide +kernel
theorem dX9_takeBit_4 : decode cX9_takeBit 4 = .ok (.bipush 8, 2) := by decide +kernel
theorem dX9_takeBit_6 : decode cX9_takeBit 6 = .ok (.idiv, 1) := by decide +kernel
theorem dX9_takeBit_7 : decode cX9_takeBit 7 = .ok (.aload_n 0, 1) := by decide +kernel
theorem dX9_takeBit_8 : decode cX9_takeBit 8 = .ok (.getfield 141, 3) := by decide +kernel
theorem dX9_takeBit_11 : decode cX9_takeBit 11 = .ok (.if_icmp .lt 24, 3) := by decide +kernel
theorem dX9_takeBit_14 : decode cX9_takeBit 14 = .ok (.aload_n 0, 1) := by decide +kernel
theorem dX9_takeBit_15 : decode cX9_takeBit 15 = .ok (.aload_n 0, 1) := by decide +kernel
theorem dX9_takeBit_16 : decode cX9_takeBit 16 = .ok (.getfield 147, 3) := by decide +kernel
theorem dX9_takeBit_19 : decode cX9_takeBit 19 = .ok (.ifCond .ne 7, 3) := by decide +kernel
theorem dX9_takeBit_22 : decode cX9_takeBit 22 = .ok (.iconst 1, 1) := by decide +kernel
theorem dX9_takeBit_23 : decode cX9_takeBit 23 = .ok (.goto 7, 3) := by decide +kernel
theorem dX9_takeBit_26 : decode cX9_takeBit 26 = .ok (.aload_n 0, 1) := by decide +kernel
theorem dX9_takeBit_27 : decode cX9_takeBit 27 = .ok (.getfield 147, 3) := by decide +kernel
theorem dX9_takeBit_30 : decode cX9_takeBit 30 = .ok (.putfield 147, 3) := by decide +kernel
theorem dX9_takeBit_33 : decode cX9_takeBit 33 = .ok (.iconst 0, 1) := by decide +kernel
theorem dX9_takeBit_34 : decode cX9_takeBit 34 = .ok (.ireturn, 1) := by decide +kernel
theorem dX9_takeBit_35 : decode cX9_takeBit 35 = .ok (.aload_n 0, 1) := by decide +kernel
theorem dX9_takeBit_36 : decode cX9_takeBit 36 = .ok (.getfield 50, 3) := by decide +kernel
theorem dX9_takeBit_39 : decode cX9_takeBit 39 = .ok (.aload_n 0, 1) := by decide +kernel
theorem dX9_takeBit_40 : decode cX9_takeBit 40 = .ok (.getfield 144, 3) := by decide +kernel
theorem dX9_takeBit_43 : decode cX9_takeBit 43 = .ok (.bipush 8, 2) := by decide +kernel
theorem dX9_takeBit_45 : decode cX9_takeBit 45 = .ok (.idiv, 1) := by decide +kernel
theorem dX9_takeBit_46 : decode cX9_takeBit 46 = .ok (.iaload, 1) := by decide +kernel
theorem dX9_takeBit_47 : decode cX9_takeBit 47 = .ok (.bipush 7, 2) := by decide +kernel
theorem dX9_takeBit_49 : decode cX9_takeBit 49 = .ok (.aload_n 0, 1) := by decide +kernel
theorem dX9_takeBit_50 : decode cX9_takeBit 50 = .ok (.getfield 144, 3) := by decide +kernel
theorem dX9_takeBit_53 : decode cX9_takeBit 53 = .ok (.bipush 8, 2) := by decide +kernel
theorem dX9_takeBit_55 : decode cX9_takeBit 55 = .ok (.irem, 1) := by decide +kernel
theorem dX9_takeBit_56 : decode cX9_takeBit 56 = .ok (.isub, 1) := by decide +kernel
theorem dX9_takeBit_57 : decode cX9_takeBit 57 = .ok (.ishr, 1) := by decide +kernel
theorem dX9_takeBit_58 : decode cX9_takeBit 58 = .ok (.iconst 1, 1) := by decide +kernel
theorem dX9_takeBit_59 : decode cX9_takeBit 59 = .ok (.iand, 1) := by decide +kernel
theorem dX9_takeBit_60 : decode cX9_takeBit 60 = .ok (.istore_n 1, 1) := by decide +kernel
theorem dX9_takeBit_61 : decode cX9_takeBit 61 = .ok (.aload_n 0, 1) := by decide +kernel
theorem dX9_takeBit_62 : decode cX9_takeBit 62 = .ok (.dup, 1) := by decide +kernel
theorem dX9_takeBit_63 : decode cX9_takeBit 63 = .ok (.getfield 144, 3) := by decide +kernel
theorem dX9_takeBit_66 : decode cX9_takeBit 66 = .ok (.iconst 1, 1) := by decide +kernel
theorem dX9_takeBit_67 : decode cX9_takeBit 67 = .ok (.iadd, 1) := by decide +kernel
theorem dX9_takeBit_68 : decode cX9_takeBit 68 = .ok (.putfield 144, 3) := by decide +kernel
theorem dX9_takeBit_71 : decode cX9_takeBit 71 = .ok (.iload_n 1, 1) := by decide +kernel
theorem dX9_takeBit_72 : decode cX9_takeBit 72 = .ok (.ireturn, 1) := by decide +kernel
set_option maxRecDepth 20000 in
theorem ggX9_take_X9_takeBit : GoodIn wsX9_take wsX9_takeBit := goodIn_r _ [6, 7, 8, 1, 9, 10, 11, 12, 13, 14, 15, 16, 17, 18, 19, 20, 21, 22, 23, 24, 25, 26, 27, 28, 29, 30, 31, 32, 33, 34, 35, 36, 37, 38, 39, 40] (by decide +kernel) (by decide +kernel)
set_option maxRecDepth 20000 in
theorem gX9_take_X9_takeBit : GoodIn wsX9_take (wsV RX9 150 RX9 yX9_takeBit wsX9_takeBit) := goodIn_app (goodIn_of _ (by decide +kernel)) ggX9_take_X9_takeBit
theorem dX9_take_0 : decode cX9_take 0 = .ok (.iconst 0, 1) := by decide +kernel
theorem dX9_take_1 : decode cX9_take 1 = .ok (.istore_n 2, 1) := by decide +kernel
theorem dX9_take_2 : decode cX9_take 2 = .ok (.iconst 0, 1) := by decide +kernel
theorem dX9_take_3 : decode cX9_take 3 = .ok (.istore_n 3, 1) := by decide +kernel
theorem dX9_take_4 : decode cX9_take 4 = .ok (.iload_n 3, 1) := by decide +kernel
theorem dX9_take_5 : decode cX9_take 5 = .ok (.iload_n 1, 1) := by decide +kernel
theorem dX9_take_6 : decode cX9_take 6 = .ok (.if_icmp .ge 25, 3) := by decide +kernel
theorem dX9_take_9 : decode cX9_take 9 = .ok (.aload_n 0, 1) := by decide +kernel
theorem dX9_take_10 : decode cX9_take 10 = .ok (.getfield 147, 3) := by decide +kernel
theorem dX9_take_13 : decode cX9_take 13 = .ok (.ifCond .ne 18, 3) := by decide +kernel
theorem dX9_take_16 : decode cX9_take 16 = .ok (.iconst 2, 1) := by decide +kernel
theorem dX9_take_17 : decode cX9_take 17 = .ok (.iload_n 2, 1) := by decide +kernel
theorem dX9_take_18 : decode cX9_take 18 = .ok (.imul, 1) := by decide +kernel
theorem dX9_take_19 : decode cX9_take 19 = .ok (.aload_n 0, 1) := by decide +kernel
theorem dX9_take_20 : decode cX9_take 20 = .ok (.invokevirtual 150, 3) := by decide +kernel
theorem dX9_take_23 : decode cX9_take 23 = .ok (.iadd, 1) := by decide +kernel
theorem dX9_take_24 : decode cX9_take 24 = .ok (.istore_n 2, 1) := by decide +kernel
theorem dX9_take_25 : decode cX9_take 25 = .ok (.iinc 3 1, 3) := by decide +kernel
theorem dX9_take_28 : decode cX9_take 28 = .ok (.goto (-24), 3) := by decide +kernel
theorem dX9_take_31 : decode cX9_take 31 = .ok (.iload_n 2, 1) := by decide +kernel
theorem dX9_take_32 : decode cX9_take 32 = .ok (.ireturn, 1) := by decide +kernel
theorem dX9_need_0 : decode cX9_need 0 = .ok (.aload_n 0, 1) := by decide +kernel
theorem dX9_need_1 : decode cX9_need 1 = .ok (.aload_n 0, 1) := by decide +kernel
theorem dX9_need_2 : decode cX9_need 2 = .ok (.getfield 147, 3) := by decide +kernel
theorem dX9_need_5 : decode cX9_need 5 = .ok (.ifCond .ne 11, 3) := by decide +kernel
theorem dX9_need_8 : decode cX9_need 8 = .ok (.iload_n 1, 1) := by decide +kernel
theorem dX9_need_9 : decode cX9_need 9 = .ok (.ifCond .ne 7, 3) := by decide +kernel
theorem dX9_need_12 : decode cX9_need 12 = .ok (.iload_n 2, 1) := by decide +kernel
theorem dX9_need_13 : decode cX9_need 13 = .ok (.goto 7, 3) := by decide +kernel
theorem dX9_need_16 : decode cX9_need 16 = .ok (.aload_n 0, 1) := by decide +kernel
theorem dX9_need_17 : decode cX9_need 17 = .ok (.getfield 147, 3) := by decide +kernel
theorem dX9_need_20 : decode cX9_need 20 = .ok (.putfield 147, 3) := by decide +kernel
theorem dX9_need_23 : decode cX9_need 23 = .ok (.return_, 1) := by decide +kernel
set_option maxRecDepth 20000 in
theorem ggX9_takeMatch_X9_takeBit : GoodIn wsX9_takeMatch wsX9_takeBit := goodIn_r _ [10, 11, 12, 1, 13, 22, 23, 24, 25, 26, 27, 28, 29, 30, 31, 32, 33, 34, 35, 36, 37, 38, 39, 40, 41, 42, 43, 44, 45, 46, 47, 48, 49, 50, 51, 52] (by decide +kernel) (by decide +kernel)
set_option maxRecDepth 20000 in
theorem gX9_takeMatch_X9_takeBit : GoodIn wsX9_takeMatch (wsV RX9 150 RX9 yX9_takeBit wsX9_takeBit) := goodIn_app (goodIn_of _ (by decide +kernel)) ggX9_takeMatch_X9_takeBit
set_option maxRecDepth 20000 in
theorem ggX9_takeMatch_X9_need : GoodIn wsX9_takeMatch wsX9_need := goodIn_r _ [17, 1, 22, 23, 24, 25, 26, 27, 28, 29, 30, 31, 32, 33, 34, 35, 36, 37, 38, 39, 40, 41, 42, 43, 44, 45, 46, 47, 48, 49, 50, 51, 52] (by decide +kernel) (by decide +kernel)
set_option maxRecDepth 20000 in
theorem gX9_takeMatch_X9_need : GoodIn wsX9_takeMatch (wsV RX9 154 RX9 yX9_need wsX9_need) := goodIn_app (goodIn_of _ (by decide +kernel)) ggX9_takeMatch_X9_need
set_option maxRecDepth 20000 in
theorem ggX9_takeMatch_X9_take : GoodIn wsX9_takeMatch wsX9_take := goodIn_r _ [21, 1, 6, 7, 8, 9, 10, 11, 12, 13, 22, 23, 24, 25, 26, 27, 28, 29, 30, 31, 32, 33, 34, 35, 36, 37, 38, 39, 40, 41, 42, 43, 44, 45, 46, 47, 48, 49, 50, 51, 52] (by decide +kernel) (by decide +kernel)
set_option maxRecDepth 20000 in
theorem gX9_takeMatch_X9_take : GoodIn wsX9_takeMatch (wsV RX9 158 RX9 yX9_take wsX9_take) := goodIn_app (goodIn_of _ (by decide +kernel)) ggX9_takeMatch_X9_take
theorem dX9_takeMatch_0 : decode cX9_takeMatch 0 = .ok (.iconst 0, 1) := by decide +kernel
theorem dX9_takeMatch_1 : decode cX9_takeMatch 1 = .ok (.istore_n 3, 1) := by decide +kernel
theorem dX9_takeMatch_2 : decode cX9_takeMatch 2 = .ok (.aload_n 0, 1) := by decide +kernel
theorem dX9_takeMatch_3 : decode cX9_takeMatch 3 = .ok (.getfield 147, 3) := by decide +kernel
theorem dX9_takeMatch_6 : decode cX9_takeMatch 6 = .ok (.ifCond .ne 22, 3) := by decide +kernel
theorem dX9_takeMatch_9 : decode cX9_takeMatch 9 = .ok (.iload_n 3, 1) := by decide +kernel
theorem dX9_takeMatch_10 : decode cX9_takeMatch 10 = .ok (.bipush 9, 2) := by decide +kernel
theorem dX9_takeMatch_12 : decode cX9_takeMatch 12 = .ok (.if_icmp .ge 16, 3) := by decide +kernel
theorem dX9_takeMatch_15 : decode cX9_takeMatch 15 = .ok (.aload_n 0, 1) := by decide +kernel
theorem dX9_takeMatch_16 : decode cX9_takeMatch 16 = .ok (.invokevirtual 150, 3) := by decide +kernel
theorem dX9_takeMatch_19 : decode cX9_takeMatch 19 = .ok (.ifCond .ne 9, 3) := by decide +kernel
theorem dX9_takeMatch_22 : decode cX9_takeMatch 22 = .ok (.iinc 3 1, 3) := by decide +kernel
theorem dX9_takeMatch_25 : decode cX9_takeMatch 25 = .ok (.goto (-23), 3) := by decide +kernel
theorem dX9_takeMatch_28 : decode cX9_takeMatch 28 = .ok (.aload_n 0, 1) := by decide +kernel
theorem dX9_takeMatch_29 : decode cX9_takeMatch 29 = .ok (.iload_n 3, 1) := by decide +kernel
theorem dX9_takeMatch_30 : decode cX9_takeMatch 30 = .ok (.bipush 9, 2) := by decide +kernel
theorem dX9_takeMatch_32 : decode cX9_takeMatch 32 = .ok (.if_icmp .ge 7, 3) := by decide +kernel
theorem dX9_takeMatch_35 : decode cX9_takeMatch 35 = .ok (.iconst 1, 1) := by decide +kernel
theorem dX9_takeMatch_36 : decode cX9_takeMatch 36 = .ok (.goto 4, 3) := by decide +kernel
theorem dX9_takeMatch_39 : decode cX9_takeMatch 39 = .ok (.iconst 0, 1) := by decide +kernel
theorem dX9_takeMatch_40 : decode cX9_takeMatch 40 = .ok (.iconst 3, 1) := by decide +kernel
theorem dX9_takeMatch_41 : decode cX9_takeMatch 41 = .ok (.invokevirtual 154, 3) := by decide +kernel
theorem dX9_takeMatch_44 : decode cX9_takeMatch 44 = .ok (.aload_n 0, 1) := by decide +kernel
theorem dX9_takeMatch_45 : decode cX9_takeMatch 45 = .ok (.getfield 147, 3) := by decide +kernel
theorem dX9_takeMatch_48 : decode cX9_takeMatch 48 = .ok (.ifCond .ne 22, 3) := by decide +kernel
theorem dX9_takeMatch_51 : decode cX9_takeMatch 51 = .ok (.iconst 1, 1) := by decide +kernel
theorem dX9_takeMatch_52 : decode cX9_takeMatch 52 = .ok (.iload_n 3, 1) := by decide +kernel
theorem dX9_takeMatch_53 : decode cX9_takeMatch 53 = .ok (.ishl, 1) := by decide +kernel
theorem dX9_takeMatch_54 : decode cX9_takeMatch 54 = .ok (.aload_n 0, 1) := by decide +kernel
theorem dX9_takeMatch_55 : decode cX9_takeMatch 55 = .ok (.iload_n 3, 1) := by decide +kernel
theorem dX9_takeMatch_56 : decode cX9_takeMatch 56 = .ok (.invokevirtual 158, 3) := by decide +kernel
theorem dX9_takeMatch_59 : decode cX9_takeMatch 59 = .ok (.iadd, 1) := by decide +kernel
theorem dX9_takeMatch_60 : decode cX9_takeMatch 60 = .ok (.aload_n 0, 1) := by decide +kernel
theorem dX9_takeMatch_61 : decode cX9_takeMatch 61 = .ok (.getfield 13, 3) := by decide +kernel
theorem dX9_takeMatch_64 : decode cX9_takeMatch 64 = .ok (.iadd, 1) := by decide +kernel
theorem dX9_takeMatch_65 : decode cX9_takeMatch 65 = .ok (.iconst 1, 1) := by decide +kernel
theorem dX9_takeMatch_66 : decode cX9_takeMatch 66 = .ok (.isub, 1) := by decide +kernel
theorem dX9_takeMatch_67 : decode cX9_takeMatch 67 = .ok (.goto 4, 3) := by decide +kernel
theorem dX9_takeMatch_70 : decode cX9_takeMatch 70 = .ok (.iconst 0, 1) := by decide +kernel
theorem dX9_takeMatch_71 : decode cX9_takeMatch 71 = .ok (.istore 4, 2) := by decide +kernel
theorem dX9_takeMatch_73 : decode cX9_takeMatch 73 = .ok (.aload_n 0, 1) := by decide +kernel
theorem dX9_takeMatch_74 : decode cX9_takeMatch 74 = .ok (.iload 4, 2) := by decide +kernel
theorem dX9_takeMatch_76 : decode cX9_takeMatch 76 = .ok (.aload_n 0, 1) := by decide +kernel
theorem dX9_takeMatch_77 : decode cX9_takeMatch 77 = .ok (.getfield 17, 3) := by decide +kernel
theorem dX9_takeMatch_80 : decode cX9_takeMatch 80 = .ok (.if_icmp .gt 15, 3) := by decide +kernel
theorem dX9_takeMatch_83 : decode cX9_takeMatch 83 = .ok (.iload 4, 2) := by decide +kernel
theorem dX9_takeMatch_85 : decode cX9_takeMatch 85 = .ok (.iload_n 2, 1) := by decide +kernel
theorem dX9_takeMatch_86 : decode cX9_takeMatch 86 = .ok (.iload_n 1, 1) := by decide +kernel
theorem dX9_takeMatch_87 : decode cX9_takeMatch 87 = .ok (.isub, 1) := by decide +kernel
theorem dX9_takeMatch_88 : decode cX9_takeMatch 88 = .ok (.if_icmp .gt 7, 3) := by decide +kernel
theorem dX9_takeMatch_91 : decode cX9_takeMatch 91 = .ok (.iconst 1, 1) := by decide +kernel
theorem dX9_takeMatch_92 : decode cX9_takeMatch 92 = .ok (.goto 4, 3) := by decide +kernel
theorem dX9_takeMatch_95 : decode cX9_takeMatch 95 = .ok (.iconst 0, 1) := by decide +kernel
theorem dX9_takeMatch_96 : decode cX9_takeMatch 96 = .ok (.iconst 3, 1) := by decide +kernel
theorem dX9_takeMatch_97 : decode cX9_takeMatch 97 = .ok (.invokevirtual 154, 3) := by decide +kernel
theorem dX9_takeMatch_100 : decode cX9_takeMatch 100 = .ok (.aload_n 0, 1) := by decide +kernel
theorem dX9_takeMatch_101 : decode cX9_takeMatch 101 = .ok (.getfield 147, 3) := by decide +kernel
theorem dX9_takeMatch_104 : decode cX9_takeMatch 104 = .ok (.ifCond .ne 11, 3) := by decide +kernel
theorem dX9_takeMatch_107 : decode cX9_takeMatch 107 = .ok (.aload_n 0, 1) := by decide +kernel
theorem dX9_takeMatch_108 : decode cX9_takeMatch 108 = .ok (.iconst 4, 1) := by decide +kernel
theorem dX9_takeMatch_109 : decode cX9_takeMatch 109 = .ok (.invokevirtual 158, 3) := by decide +kernel
theorem dX9_takeMatch_112 : decode cX9_takeMatch 112 = .ok (.goto 4, 3) := by decide +kernel
theorem dX9_takeMatch_115 : decode cX9_takeMatch 115 = .ok (.iconst 0, 1) := by decide +kernel
theorem dX9_takeMatch_116 : decode cX9_takeMatch 116 = .ok (.istore 5, 2) := by decide +kernel
theorem dX9_takeMatch_118 : decode cX9_takeMatch 118 = .ok (.aload_n 0, 1) := by decide +kernel
theorem dX9_takeMatch_119 : decode cX9_takeMatch 119 = .ok (.getfield 147, 3) := by decide +kernel
theorem dX9_takeMatch_122 : decode cX9_takeMatch 122 = .ok (.ifCond .ne 17, 3) := by decide +kernel
theorem dX9_takeMatch_125 : decode cX9_takeMatch 125 = .ok (.iconst 1, 1) := by decide +kernel
theorem dX9_takeMatch_126 : decode cX9_takeMatch 126 = .ok (.iload 5, 2) := by decide +kernel
theorem dX9_takeMatch_128 : decode cX9_takeMatch 128 = .ok (.ishl, 1) := by decide +kernel
theorem dX9_takeMatch_129 : decode cX9_takeMatch 129 = .ok (.aload_n 0, 1) := by decide +kernel
theorem dX9_takeMatch_130 : decode cX9_takeMatch 130 = .ok (.iload 5, 2) := by decide +kernel
theorem dX9_takeMatch_132 : decode cX9_takeMatch 132 = .ok (.invokevirtual 158, 3) := by decide +kernel
theorem dX9_takeMatch_135 : decode cX9_takeMatch 135 = .ok (.iadd, 1) := by decide +kernel
theorem dX9_takeMatch_136 : decode cX9_takeMatch 136 = .ok (.goto 4, 3) := by decide +kernel
theorem dX9_takeMatch_139 : decode cX9_takeMatch 139 = .ok (.iconst 1, 1) := by decide +kernel
theorem dX9_takeMatch_140 : decode cX9_takeMatch 140 = .ok (.istore 6, 2) := by decide +kernel
theorem dX9_takeMatch_142 : decode cX9_takeMatch 142 = .ok (.aload_n 0, 1) := by decide +kernel
theorem dX9_takeMatch_143 : decode cX9_takeMatch 143 = .ok (.iload 6, 2) := by decide +kernel
theorem dX9_takeMatch_145 : decode cX9_takeMatch 145 = .ok (.aload_n 0, 1) := by decide +kernel
theorem dX9_takeMatch_146 : decode cX9_takeMatch 146 = .ok (.getfield 20, 3) := by decide +kernel
theorem dX9_takeMatch_149 : decode cX9_takeMatch 149 = .ok (.if_icmp .gt 13, 3) := by decide +kernel
theorem dX9_takeMatch_152 : decode cX9_takeMatch 152 = .ok (.iload 6, 2) := by decide +kernel
theorem dX9_takeMatch_154 : decode cX9_takeMatch 154 = .ok (.iload_n 1, 1) := by decide +kernel
theorem dX9_takeMatch_155 : decode cX9_takeMatch 155 = .ok (.if_icmp .gt 7, 3) := by decide +kernel
theorem dX9_takeMatch_158 : decode cX9_takeMatch 158 = .ok (.iconst 1, 1) := by decide +kernel
theorem dX9_takeMatch_159 : decode cX9_takeMatch 159 = .ok (.goto 4, 3) := by decide +kernel
theorem dX9_takeMatch_162 : decode cX9_takeMatch 162 = .ok (.iconst 0, 1) := by decide +kernel
theorem dX9_takeMatch_163 : decode cX9_takeMatch 163 = .ok (.iconst 4, 1) := by decide +kernel
theorem dX9_takeMatch_164 : decode cX9_takeMatch 164 = .ok (.invokevirtual 154, 3) := by decide +kernel
theorem dX9_takeMatch_167 : decode cX9_takeMatch 167 = .ok (.iconst 0, 1) := by decide +kernel
theorem dX9_takeMatch_168 : decode cX9_takeMatch 168 = .ok (.istore 7, 2) := by decide +kernel
theorem dX9_takeMatch_170 : decode cX9_takeMatch 170 = .ok (.iload 7, 2) := by decide +kernel
theorem dX9_takeMatch_172 : decode cX9_takeMatch 172 = .ok (.iload 4, 2) := by decide +kernel
theorem dX9_takeMatch_174 : decode cX9_takeMatch 174 = .ok (.if_icmp .ge 37, 3) := by decide +kernel
theorem dX9_takeMatch_177 : decode cX9_takeMatch 177 = .ok (.aload_n 0, 1) := by decide +kernel
theorem dX9_takeMatch_178 : decode cX9_takeMatch 178 = .ok (.getfield 147, 3) := by decide +kernel
theorem dX9_takeMatch_181 : decode cX9_takeMatch 181 = .ok (.ifCond .ne 30, 3) := by decide +kernel
theorem dX9_takeMatch_184 : decode cX9_takeMatch 184 = .ok (.aload_n 0, 1) := by decide +kernel
theorem dX9_takeMatch_185 : decode cX9_takeMatch 185 = .ok (.getfield 53, 3) := by decide +kernel
theorem dX9_takeMatch_188 : decode cX9_takeMatch 188 = .ok (.iload_n 1, 1) := by decide +kernel
theorem dX9_takeMatch_189 : decode cX9_takeMatch 189 = .ok (.iload 7, 2) := by decide +kernel
theorem dX9_takeMatch_191 : decode cX9_takeMatch 191 = .ok (.iadd, 1) := by decide +kernel
theorem dX9_takeMatch_192 : decode cX9_takeMatch 192 = .ok (.aload_n 0, 1) := by decide +kernel
theorem dX9_takeMatch_193 : decode cX9_takeMatch 193 = .ok (.getfield 53, 3) := by decide +kernel
theorem dX9_takeMatch_196 : decode cX9_takeMatch 196 = .ok (.iload_n 1, 1) := by decide +kernel
theorem dX9_takeMatch_197 : decode cX9_takeMatch 197 = .ok (.iload 7, 2) := by decide +kernel
theorem dX9_takeMatch_199 : decode cX9_takeMatch 199 = .ok (.iadd, 1) := by decide +kernel
theorem dX9_takeMatch_200 : decode cX9_takeMatch 200 = .ok (.iload 6, 2) := by decide +kernel
theorem dX9_takeMatch_202 : decode cX9_takeMatch 202 = .ok (.isub, 1) := by decide +kernel
theorem dX9_takeMatch_203 : decode cX9_takeMatch 203 = .ok (.iaload, 1) := by decide +kernel
theorem dX9_takeMatch_204 : decode cX9_takeMatch 204 = .ok (.iastore, 1) := by decide +kernel
theorem dX9_takeMatch_205 : decode cX9_takeMatch 205 = .ok (.iinc 7 1, 3) := by decide +kernel
theorem dX9_takeMatch_208 : decode cX9_takeMatch 208 = .ok (.goto (-38), 3) := by decide +kernel
theorem dX9_takeMatch_211 : decode cX9_takeMatch 211 = .ok (.iload 4, 2) := by decide +kernel
theorem dX9_takeMatch_213 : decode cX9_takeMatch 213 = .ok (.ireturn, 1) := by decide +kernel
set_option maxRecDepth 20000 in
theorem ggX9_read_X9_take : GoodIn wsX9_read wsX9_take := goodIn_r _ [12, 2, 13, 14, 15, 11, 16, 3, 5, 17, 29, 30, 31, 32, 33, 34, 35, 36, 37, 38, 39, 40, 41, 42, 43, 44, 45, 46, 47, 48, 49, 50, 51, 52, 53, 54, 55, 56, 57, 58, 59] (by decide +kernel) (by decide +kernel)
set_option maxRecDepth 20000 in
theorem gX9_read_X9_take : GoodIn wsX9_read (wsV RX9 158 RX9 yX9_take wsX9_take) := goodIn_app (goodIn_of _ (by decide +kernel)) ggX9_read_X9_take
set_option maxRecDepth 20000 in
theorem ggX9_read_X9_need : GoodIn wsX9_read wsX9_need := goodIn_r _ [21, 2, 29, 30, 31, 32, 33, 34, 35, 36, 37, 38, 39, 40, 41, 42, 43, 44, 45, 46, 47, 48, 49, 50, 51, 52, 53, 54, 55, 56, 57, 58, 59] (by decide +kernel) (by decide +kernel)
set_option maxRecDepth 20000 in
theorem gX9_read_X9_need : GoodIn wsX9_read (wsV RX9 154 RX9 yX9_need wsX9_need) := goodIn_app (goodIn_of _ (by decide +kernel)) ggX9_read_X9_need
set_option maxRecDepth 20000 in
theorem ggX9_read_X9_takeBit : GoodIn wsX9_read wsX9_takeBit := goodIn_r _ [16, 3, 5, 2, 17, 29, 30, 31, 32, 33, 34, 35, 36, 37, 38, 39, 40, 41, 42, 43, 44, 45, 46, 47, 48, 49, 50, 51, 52, 53, 54, 55, 56, 57, 58, 59] (by decide +kernel) (by decide +kernel)
set_option maxRecDepth 20000 in
theorem gX9_read_X9_takeBit : GoodIn wsX9_read (wsV RX9 150 RX9 yX9_takeBit wsX9_takeBit) := goodIn_app (goodIn_of _ (by decide +kernel)) ggX9_read_X9_takeBit
set_option maxRecDepth 20000 in
theorem ggX9_read_X9_takeMatch : GoodIn wsX9_read wsX9_takeMatch := goodIn_r _ [25, 2, 26, 27, 28, 4, 13, 14, 15, 11, 16, 3, 5, 17, 18, 19, 20, 21, 8, 9, 10, 12, 29, 30, 31, 32, 33, 34, 35, 36, 37, 38, 39, 40, 41, 42, 43, 44, 45, 46, 47, 48, 49, 50, 51, 52, 53, 54, 55, 56, 57, 58, 59] (by decide +kernel) (by decide +kernel)
set_option maxRecDepth 20000 in
theorem gX9_read_X9_takeMatch : GoodIn wsX9_read (wsV RX9 161 RX9 yX9_takeMatch wsX9_takeMatch) := goodIn_app (goodIn_of _ (by decide +kernel)) ggX9_read_X9_takeMatch
theorem dX9_read_0 : decode cX9_read 0 = .ok (.aload_n 0, 1) := by decide +kernel
theorem dX9_read_1 : decode cX9_read 1 = .ok (.iconst 0, 1) := by decide +kernel
theorem dX9_read_2 : decode cX9_read 2 = .ok (.putfield 65, 3) := by decide +kernel
theorem dX9_read_5 : decode cX9_read 5 = .ok (.aload_n 0, 1) := by decide +kernel
theorem dX9_read_6 : decode cX9_read 6 = .ok (.iconst 0, 1) := by decide +kernel
theorem dX9_read_7 : decode cX9_read 7 = .ok (.putfield 147, 3) := by decide +kernel
theorem dX9_read_10 : decode cX9_read 10 = .ok (.aload_n 0, 1) := by decide +kernel
theorem dX9_read_11 : decode cX9_read 11 = .ok (.iconst 0, 1) := by decide +kernel
theorem dX9_read_12 : decode cX9_read 12 = .ok (.putfield 144, 3) := by decide +kernel
theorem dX9_read_15 : decode cX9_read 15 = .ok (.aload_n 0, 1) := by decide +kernel
theorem dX9_read_16 : decode cX9_read 16 = .ok (.bipush 16, 2) := by decide +kernel
theorem dX9_read_18 : decode cX9_read 18 = .ok (.invokevirtual 158, 3) := by decide +kernel
theorem dX9_read_21 : decode cX9_read 21 = .ok (.istore_n 1, 1) := by decide +kernel
theorem dX9_read_22 : decode cX9_read 22 = .ok (.aload_n 0, 1) := by decide +kernel
theorem dX9_read_23 : decode cX9_read 23 = .ok (.iload_n 1, 1) := by decide +kernel
theorem dX9_read_24 : decode cX9_read 24 = .ok (.sipush 500, 3) := by decide +kernel
theorem dX9_read_27 : decode cX9_read 27 = .ok (.if_icmp .gt 7, 3) := by decide +kernel
theorem dX9_read_30 : decode cX9_read 30 = .ok (.iconst 1, 1) := by decide +kernel
theorem dX9_read_31 : decode cX9_read 31 = .ok (.goto 4, 3) := by decide +kernel
theorem dX9_read_34 : decode cX9_read 34 = .ok (.iconst 0, 1) := by decide +kernel
theorem dX9_read_35 : decode cX9_read 35 = .ok (.iconst 2, 1) := by decide +kernel
theorem dX9_read_36 : decode cX9_read 36 = .ok (.invokevirtual 154, 3) := by decide +kernel
theorem dX9_read_39 : decode cX9_read 39 = .ok (.iconst 0, 1) := by decide +kernel
theorem dX9_read_40 : decode cX9_read 40 = .ok (.istore_n 2, 1) := by decide +kernel
theorem dX9_read_41 : decode cX9_read 41 = .ok (.iload_n 2, 1) := by decide +kernel
theorem dX9_read_42 : decode cX9_read 42 = .ok (.iload_n 1, 1) := by decide +kernel
theorem dX9_read_43 : decode cX9_read 43 = .ok (.if_icmp .ge 63, 3) := by decide +kernel
theorem dX9_read_46 : decode cX9_read 46 = .ok (.aload_n 0, 1) := by decide +kernel
theorem dX9_read_47 : decode cX9_read 47 = .ok (.getfield 147, 3) := by decide +kernel
theorem dX9_read_50 : decode cX9_read 50 = .ok (.ifCond .ne 56, 3) := by decide +kernel
theorem dX9_read_53 : decode cX9_read 53 = .ok (.aload_n 0, 1) := by decide +kernel
theorem dX9_read_54 : decode cX9_read 54 = .ok (.invokevirtual 150, 3) := by decide +kernel
theorem dX9_read_57 : decode cX9_read 57 = .ok (.istore_n 3, 1) := by decide +kernel
theorem dX9_read_58 : decode cX9_read 58 = .ok (.aload_n 0, 1) := by decide +kernel
theorem dX9_read_59 : decode cX9_read 59 = .ok (.getfield 147, 3) := by decide +kernel
theorem dX9_read_62 : decode cX9_read 62 = .ok (.ifCond .ne 25, 3) := by decide +kernel
theorem dX9_read_65 : decode cX9_read 65 = .ok (.iload_n 3, 1) := by decide +kernel
theorem dX9_read_66 : decode cX9_read 66 = .ok (.ifCond .ne 21, 3) := by decide +kernel
theorem dX9_read_69 : decode cX9_read 69 = .ok (.aload_n 0, 1) := by decide +kernel
theorem dX9_read_70 : decode cX9_read 70 = .ok (.getfield 53, 3) := by decide +kernel
theorem dX9_read_73 : decode cX9_read 73 = .ok (.iload_n 2, 1) := by decide +kernel
theorem dX9_read_74 : decode cX9_read 74 = .ok (.aload_n 0, 1) := by decide +kernel
theorem dX9_read_75 : decode cX9_read 75 = .ok (.bipush 8, 2) := by decide +kernel
theorem dX9_read_77 : decode cX9_read 77 = .ok (.invokevirtual 158, 3) := by decide +kernel
theorem dX9_read_80 : decode cX9_read 80 = .ok (.iastore, 1) := by decide +kernel
theorem dX9_read_81 : decode cX9_read 81 = .ok (.iinc 2 1, 3) := by decide +kernel
theorem dX9_read_84 : decode cX9_read 84 = .ok (.goto 19, 3) := by decide +kernel
theorem dX9_read_87 : decode cX9_read 87 = .ok (.aload_n 0, 1) := by decide +kernel
theorem dX9_read_88 : decode cX9_read 88 = .ok (.getfield 147, 3) := by decide +kernel
theorem dX9_read_91 : decode cX9_read 91 = .ok (.ifCond .ne 12, 3) := by decide +kernel
theorem dX9_read_94 : decode cX9_read 94 = .ok (.iload_n 2, 1) := by decide +kernel
theorem dX9_read_95 : decode cX9_read 95 = .ok (.aload_n 0, 1) := by decide +kernel
theorem dX9_read_96 : decode cX9_read 96 = .ok (.iload_n 2, 1) := by decide +kernel
theorem dX9_read_97 : decode cX9_read 97 = .ok (.iload_n 1, 1) := by decide +kernel
theorem dX9_read_98 : decode cX9_read 98 = .ok (.invokevirtual 161, 3) := by decide +kernel
theorem dX9_read_101 : decode cX9_read 101 = .ok (.iadd, 1) := by decide +kernel
theorem dX9_read_102 : decode cX9_read 102 = .ok (.istore_n 2, 1) := by decide +kernel
theorem dX9_read_103 : decode cX9_read 103 = .ok (.goto (-62), 3) := by decide +kernel
theorem dX9_read_106 : decode cX9_read 106 = .ok (.aload_n 0, 1) := by decide +kernel
theorem dX9_read_107 : decode cX9_read 107 = .ok (.getfield 147, 3) := by decide +kernel
theorem dX9_read_110 : decode cX9_read 110 = .ok (.ifCond .ne 66, 3) := by decide +kernel
theorem dX9_read_113 : decode cX9_read 113 = .ok (.aload_n 0, 1) := by decide +kernel
theorem dX9_read_114 : decode cX9_read 114 = .ok (.getfield 144, 3) := by decide +kernel
theorem dX9_read_117 : decode cX9_read 117 = .ok (.bipush 8, 2) := by decide +kernel
theorem dX9_read_119 : decode cX9_read 119 = .ok (.aload_n 0, 1) := by decide +kernel
theorem dX9_read_120 : decode cX9_read 120 = .ok (.getfield 141, 3) := by decide +kernel
theorem dX9_read_123 : decode cX9_read 123 = .ok (.imul, 1) := by decide +kernel
theorem dX9_read_124 : decode cX9_read 124 = .ok (.if_icmp .ge 52, 3) := by decide +kernel
theorem dX9_read_127 : decode cX9_read 127 = .ok (.bipush 8, 2) := by decide +kernel
theorem dX9_read_129 : decode cX9_read 129 = .ok (.aload_n 0, 1) := by decide +kernel
theorem dX9_read_130 : decode cX9_read 130 = .ok (.getfield 141, 3) := by decide +kernel
theorem dX9_read_133 : decode cX9_read 133 = .ok (.imul, 1) := by decide +kernel
theorem dX9_read_134 : decode cX9_read 134 = .ok (.aload_n 0, 1) := by decide +kernel
theorem dX9_read_135 : decode cX9_read 135 = .ok (.getfield 144, 3) := by decide +kernel
theorem dX9_read_138 : decode cX9_read 138 = .ok (.isub, 1) := by decide +kernel
theorem dX9_read_139 : decode cX9_read 139 = .ok (.bipush 8, 2) := by decide +kernel
theorem dX9_read_141 : decode cX9_read 141 = .ok (.if_icmp .ge 7, 3) := by decide +kernel
theorem dX9_read_144 : decode cX9_read 144 = .ok (.iconst 1, 1) := by decide +kernel
theorem dX9_read_145 : decode cX9_read 145 = .ok (.goto 4, 3) := by decide +kernel
theorem dX9_read_148 : decode cX9_read 148 = .ok (.iconst 0, 1) := by decide +kernel
theorem dX9_read_149 : decode cX9_read 149 = .ok (.istore_n 3, 1) := by decide +kernel
theorem dX9_read_150 : decode cX9_read 150 = .ok (.aload_n 0, 1) := by decide +kernel
theorem dX9_read_151 : decode cX9_read 151 = .ok (.iload_n 3, 1) := by decide +kernel
theorem dX9_read_152 : decode cX9_read 152 = .ok (.iconst 5, 1) := by decide +kernel
theorem dX9_read_153 : decode cX9_read 153 = .ok (.invokevirtual 154, 3) := by decide +kernel
theorem dX9_read_156 : decode cX9_read 156 = .ok (.aload_n 0, 1) := by decide +kernel
theorem dX9_read_157 : decode cX9_read 157 = .ok (.aload_n 0, 1) := by decide +kernel
theorem dX9_read_158 : decode cX9_read 158 = .ok (.invokevirtual 150, 3) := by decide +kernel
theorem dX9_read_161 : decode cX9_read 161 = .ok (.ifCond .ne 7, 3) := by decide +kernel
theorem dX9_read_164 : decode cX9_read 164 = .ok (.iconst 1, 1) := by decide +kernel
theorem dX9_read_165 : decode cX9_read 165 = .ok (.goto 4, 3) := by decide +kernel
theorem dX9_read_168 : decode cX9_read 168 = .ok (.iconst 0, 1) := by decide +kernel
theorem dX9_read_169 : decode cX9_read 169 = .ok (.iconst 5, 1) := by decide +kernel
theorem dX9_read_170 : decode cX9_read 170 = .ok (.invokevirtual 154, 3) := by decide +kernel
theorem dX9_read_173 : decode cX9_read 173 = .ok (.goto (-67), 3) := by decide +kernel
theorem dX9_read_176 : decode cX9_read 176 = .ok (.aload_n 0, 1) := by decide +kernel
theorem dX9_read_177 : decode cX9_read 177 = .ok (.iconst 0, 1) := by decide +kernel
theorem dX9_read_178 : decode cX9_read 178 = .ok (.putfield 141, 3) := by decide +kernel
theorem dX9_read_181 : decode cX9_read 181 = .ok (.aload_n 0, 1) := by decide +kernel
theorem dX9_read_182 : decode cX9_read 182 = .ok (.getfield 147, 3) := by decide +kernel
theorem dX9_read_185 : decode cX9_read 185 = .ok (.ifCond .ne 33, 3) := by decide +kernel
theorem dX9_read_188 : decode cX9_read 188 = .ok (.aload_n 0, 1) := by decide +kernel
theorem dX9_read_189 : decode cX9_read 189 = .ok (.iload_n 1, 1) := by decide +kernel
theorem dX9_read_190 : decode cX9_read 190 = .ok (.putfield 59, 3) := by decide +kernel
theorem dX9_read_193 : decode cX9_read 193 = .ok (.iconst 0, 1) := by decide +kernel
theorem dX9_read_194 : decode cX9_read 194 = .ok (.istore_n 3, 1) := by decide +kernel
theorem dX9_read_195 : decode cX9_read 195 = .ok (.iload_n 3, 1) := by decide +kernel
theorem dX9_read_196 : decode cX9_read 196 = .ok (.iload_n 1, 1) := by decide +kernel
theorem dX9_read_197 : decode cX9_read 197 = .ok (.if_icmp .ge 21, 3) := by decide +kernel
theorem dX9_read_200 : decode cX9_read 200 = .ok (.aload_n 0, 1) := by decide +kernel
theorem dX9_read_201 : decode cX9_read 201 = .ok (.getfield 56, 3) := by decide +kernel
theorem dX9_read_204 : decode cX9_read 204 = .ok (.iload_n 3, 1) := by decide +kernel
theorem dX9_read_205 : decode cX9_read 205 = .ok (.aload_n 0, 1) := by decide +kernel
theorem dX9_read_206 : decode cX9_read 206 = .ok (.getfield 53, 3) := by decide +kernel
theorem dX9_read_209 : decode cX9_read 209 = .ok (.iload_n 3, 1) := by decide +kernel
theorem dX9_read_210 : decode cX9_read 210 = .ok (.iaload, 1) := by decide +kernel
theorem dX9_read_211 : decode cX9_read 211 = .ok (.iastore, 1) := by decide +kernel
theorem dX9_read_212 : decode cX9_read 212 = .ok (.iinc 3 1, 3) := by decide +kernel
theorem dX9_read_215 : decode cX9_read 215 = .ok (.goto (-20), 3) := by decide +kernel
theorem dX9_read_218 : decode cX9_read 218 = .ok (.aload_n 0, 1) := by decide +kernel
theorem dX9_read_219 : decode cX9_read 219 = .ok (.getfield 147, 3) := by decide +kernel
theorem dX9_read_222 : decode cX9_read 222 = .ok (.ireturn, 1) := by decide +kernel
theorem dX9_taken_0 : decode cX9_taken 0 = .ok (.aload_n 0, 1) := by decide +kernel
theorem dX9_taken_1 : decode cX9_taken 1 = .ok (.iconst 0, 1) := by decide +kernel
theorem dX9_taken_2 : decode cX9_taken 2 = .ok (.putfield 65, 3) := by decide +kernel
theorem dX9_taken_5 : decode cX9_taken 5 = .ok (.iload_n 1, 1) := by decide +kernel
theorem dX9_taken_6 : decode cX9_taken 6 = .ok (.iconst (-1), 1) := by decide +kernel
theorem dX9_taken_7 : decode cX9_taken 7 = .ok (.if_icmp .ne 10, 3) := by decide +kernel
theorem dX9_taken_10 : decode cX9_taken 10 = .ok (.aload_n 0, 1) := by decide +kernel
theorem dX9_taken_11 : decode cX9_taken 11 = .ok (.getfield 59, 3) := by decide +kernel
theorem dX9_taken_14 : decode cX9_taken 14 = .ok (.goto 25, 3) := by decide +kernel
theorem dX9_taken_17 : decode cX9_taken 17 = .ok (.iload_n 1, 1) := by decide +kernel
theorem dX9_taken_18 : decode cX9_taken 18 = .ok (.ifCond .lt 20, 3) := by decide +kernel
theorem dX9_taken_21 : decode cX9_taken 21 = .ok (.iload_n 1, 1) := by decide +kernel
theorem dX9_taken_22 : decode cX9_taken 22 = .ok (.aload_n 0, 1) := by decide +kernel
theorem dX9_taken_23 : decode cX9_taken 23 = .ok (.getfield 59, 3) := by decide +kernel
theorem dX9_taken_26 : decode cX9_taken 26 = .ok (.if_icmp .ge 12, 3) := by decide +kernel
theorem dX9_taken_29 : decode cX9_taken 29 = .ok (.aload_n 0, 1) := by decide +kernel
theorem dX9_taken_30 : decode cX9_taken 30 = .ok (.getfield 56, 3) := by decide +kernel
theorem dX9_taken_33 : decode cX9_taken 33 = .ok (.iload_n 1, 1) := by decide +kernel
theorem dX9_taken_34 : decode cX9_taken 34 = .ok (.iaload, 1) := by decide +kernel
theorem dX9_taken_35 : decode cX9_taken 35 = .ok (.goto 4, 3) := by decide +kernel
theorem dX9_taken_38 : decode cX9_taken 38 = .ok (.iconst (-1), 1) := by decide +kernel
theorem dX9_taken_39 : decode cX9_taken 39 = .ok (.ireturn, 1) := by decide +kernel
theorem dX9_check_0 : decode cX9_check 0 = .ok (.aload_n 0, 1) := by decide +kernel
theorem dX9_check_1 : decode cX9_check 1 = .ok (.iconst 0, 1) := by decide +kernel
theorem dX9_check_2 : decode cX9_check 2 = .ok (.putfield 65, 3) := by decide +kernel
theorem dX9_check_5 : decode cX9_check 5 = .ok (.iconst 1, 1) := by decide +kernel
theorem dX9_check_6 : decode cX9_check 6 = .ok (.ireturn, 1) := by decide +kernel
theorem dJ9_max_7cf53_0 : decode cJ9_max_7cf53 0 = .ok (.iload_n 0, 1) := by decide +kernel
theorem dJ9_max_7cf53_1 : decode cJ9_max_7cf53 1 = .ok (.iload_n 1, 1) := by decide +kernel
theorem dJ9_max_7cf53_2 : decode cJ9_max_7cf53 2 = .ok (.if_icmp .lt 7, 3) := by decide +kernel
theorem dJ9_max_7cf53_5 : decode cJ9_max_7cf53 5 = .ok (.iload_n 0, 1) := by decide +kernel
theorem dJ9_max_7cf53_6 : decode cJ9_max_7cf53 6 = .ok (.goto 4, 3) := by decide +kernel
theorem dJ9_max_7cf53_9 : decode cJ9_max_7cf53 9 = .ok (.iload_n 1, 1) := by decide +kernel
theorem dJ9_max_7cf53_10 : decode cJ9_max_7cf53 10 = .ok (.ireturn, 1) := by decide +kernel
theorem dJ9_min_7cf53_0 : decode cJ9_min_7cf53 0 = .ok (.iload_n 0, 1) := by decide +kernel
theorem dJ9_min_7cf53_1 : decode cJ9_min_7cf53 1 = .ok (.iload_n 1, 1) := by decide +kernel
theorem dJ9_min_7cf53_2 : decode cJ9_min_7cf53 2 = .ok (.if_icmp .gt 7, 3) := by decide +kernel
theorem dJ9_min_7cf53_5 : decode cJ9_min_7cf53 5 = .ok (.iload_n 0, 1) := by decide +kernel
theorem dJ9_min_7cf53_6 : decode cJ9_min_7cf53 6 = .ok (.goto 4, 3) := by decide +kernel
theorem dJ9_min_7cf53_9 : decode cJ9_min_7cf53 9 = .ok (.iload_n 1, 1) := by decide +kernel
theorem dJ9_min_7cf53_10 : decode cJ9_min_7cf53 10 = .ok (.ireturn, 1) := by decide +kernel
