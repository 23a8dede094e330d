theorem dX0_init_0 : decode cX0_init 0 = .ok (.aload_n 0, 1) := by decide +kernel
theorem dX0_init_1 : decode cX0_init 1 = .ok (.invokespecial 3, 3) := by decide +kernel
theorem dX0_init_4 : decode cX0_init 4 = .ok (.aload_n 0, 1) := by decide +kernel
theorem dX0_init_5 : decode cX0_init 5 = .ok (.new 9, 3) := by decide +kernel
theorem dX0_init_8 : decode cX0_init 8 = .ok (.dup, 1) := by decide +kernel
theorem dX0_init_9 : decode cX0_init 9 = .ok (.sipush 640, 3) := by decide +kernel
theorem dX0_init_12 : decode cX0_init 12 = .ok (.invokespecial 11, 3) := by decide +kernel
theorem dX0_init_15 : decode cX0_init 15 = .ok (.putfield 14, 3) := by decide +kernel
theorem dX0_init_18 : decode cX0_init 18 = .ok (.aload_n 0, 1) := by decide +kernel
theorem dX0_init_19 : decode cX0_init 19 = .ok (.new 9, 3) := by decide +kernel
theorem dX0_init_22 : decode cX0_init 22 = .ok (.dup, 1) := by decide +kernel
theorem dX0_init_23 : decode cX0_init 23 = .ok (.bipush 120, 2) := by decide +kernel
theorem dX0_init_25 : decode cX0_init 25 = .ok (.invokespecial 11, 3) := by decide +kernel
theorem dX0_init_28 : decode cX0_init 28 = .ok (.putfield 20, 3) := by decide +kernel
theorem dX0_init_31 : decode cX0_init 31 = .ok (.aload_n 0, 1) := by decide +kernel
theorem dX0_init_32 : decode cX0_init 32 = .ok (.aload_n 1, 1) := by decide +kernel
theorem dX0_init_33 : decode cX0_init 33 = .ok (.putfield 23, 3) := by decide +kernel
theorem dX0_init_36 : decode cX0_init 36 = .ok (.return_, 1) := by decide +kernel
theorem dX0_divide_0 : decode cX0_divide 0 = .ok (.aload_n 0, 1) := by decide +kernel
theorem dX0_divide_1 : decode cX0_divide 1 = .ok (.getfield 23, 3) := by decide +kernel
theorem dX0_divide_4 : decode cX0_divide 4 = .ok (.aload_n 1, 1) := by decide +kernel
theorem dX0_divide_5 : decode cX0_divide 5 = .ok (.aload_n 0, 1) := by decide +kernel
theorem dX0_divide_6 : decode cX0_divide 6 = .ok (.getfield 14, 3) := by decide +kernel
theorem dX0_divide_9 : decode cX0_divide 9 = .ok (.invokevirtual 27, 3) := by decide +kernel
theorem dX0_divide_12 : decode cX0_divide 12 = .ok (.istore 5, 2) := by decide +kernel
theorem dX0_divide_14 : decode cX0_divide 14 = .ok (.aload_n 0, 1) := by decide +kernel
theorem dX0_divide_15 : decode cX0_divide 15 = .ok (.getfield 14, 3) := by decide +kernel
theorem dX0_divide_18 : decode cX0_divide 18 = .ok (.invokevirtual 33, 3) := by decide +kernel
theorem dX0_divide_21 : decode cX0_divide 21 = .ok (.iload_n 2, 1) := by decide +kernel
theorem dX0_divide_22 : decode cX0_divide 22 = .ok (.if_icmp .gt 25, 3) := by decide +kernel
theorem dX0_divide_25 : decode cX0_divide 25 = .ok (.aload 4, 2) := by decide +kernel
theorem dX0_divide_27 : decode cX0_divide 27 = .ok (.invokevirtual 37, 3) := by decide +kernel
theorem dX0_divide_30 : decode cX0_divide 30 = .ok (.aload 4, 2) := by decide +kernel
theorem dX0_divide_32 : decode cX0_divide 32 = .ok (.iconst 0, 1) := by decide +kernel
theorem dX0_divide_33 : decode cX0_divide 33 = .ok (.aload_n 0, 1) := by decide +kernel
theorem dX0_divide_34 : decode cX0_divide 34 = .ok (.getfield 14, 3) := by decide +kernel
theorem dX0_divide_37 : decode cX0_divide 37 = .ok (.invokevirtual 42, 3) := by decide +kernel
theorem dX0_divide_40 : decode cX0_divide 40 = .ok (.pop, 1) := by decide +kernel
theorem dX0_divide_41 : decode cX0_divide 41 = .ok (.aload 4, 2) := by decide +kernel
theorem dX0_divide_43 : decode cX0_divide 43 = .ok (.invokevirtual 46, 3) := by decide +kernel
theorem dX0_divide_46 : decode cX0_divide 46 = .ok (.ireturn, 1) := by decide +kernel
theorem dX0_divide_47 : decode cX0_divide 47 = .ok (.iload_n 2, 1) := by decide +kernel
theorem dX0_divide_48 : decode cX0_divide 48 = .ok (.iconst 4, 1) := by decide +kernel
theorem dX0_divide_49 : decode cX0_divide 49 = .ok (.isub, 1) := by decide +kernel
theorem dX0_divide_50 : decode cX0_divide 50 = .ok (.iload 5, 2) := by decide +kernel
theorem dX0_divide_52 : decode cX0_divide 52 = .ok (.isub, 1) := by decide +kernel
theorem dX0_divide_53 : decode cX0_divide 53 = .ok (.istore 6, 2) := by decide +kernel
theorem dX0_divide_55 : decode cX0_divide 55 = .ok (.iload 6, 2) := by decide +kernel
theorem dX0_divide_57 : decode cX0_divide 57 = .ok (.ifCond .ge 6, 3) := by decide +kernel
theorem dX0_divide_60 : decode cX0_divide 60 = .ok (.bipush (-3), 2) := by decide +kernel
theorem dX0_divide_62 : decode cX0_divide 62 = .ok (.ireturn, 1) := by decide +kernel
theorem dX0_divide_63 : decode cX0_divide 63 = .ok (.iload 6, 2) := by decide +kernel
theorem dX0_divide_65 : decode cX0_divide 65 = .ok (.bipush 8, 2) := by decide +kernel
theorem dX0_divide_67 : decode cX0_divide 67 = .ok (.idiv, 1) := by decide +kernel
theorem dX0_divide_68 : decode cX0_divide 68 = .ok (.bipush 8, 2) := by decide +kernel
theorem dX0_divide_70 : decode cX0_divide 70 = .ok (.imul, 1) := by decide +kernel
theorem dX0_divide_71 : decode cX0_divide 71 = .ok (.istore 7, 2) := by decide +kernel
theorem dX0_divide_73 : decode cX0_divide 73 = .ok (.aload_n 0, 1) := by decide +kernel
theorem dX0_divide_74 : decode cX0_divide 74 = .ok (.sipush 192, 3) := by decide +kernel
theorem dX0_divide_77 : decode cX0_divide 77 = .ok (.aload_n 1, 1) := by decide +kernel
theorem dX0_divide_78 : decode cX0_divide 78 = .ok (.invokevirtual 33, 3) := by decide +kernel
theorem dX0_divide_81 : decode cX0_divide 81 = .ok (.iload_n 3, 1) := by decide +kernel
theorem dX0_divide_82 : decode cX0_divide 82 = .ok (.invokevirtual 49, 3) := by decide +kernel
theorem dX0_divide_85 : decode cX0_divide 85 = .ok (.aload_n 0, 1) := by decide +kernel
theorem dX0_divide_86 : decode cX0_divide 86 = .ok (.getfield 20, 3) := by decide +kernel
theorem dX0_divide_89 : decode cX0_divide 89 = .ok (.aload_n 0, 1) := by decide +kernel
theorem dX0_divide_90 : decode cX0_divide 90 = .ok (.getfield 14, 3) := by decide +kernel
theorem dX0_divide_93 : decode cX0_divide 93 = .ok (.iconst 0, 1) := by decide +kernel
theorem dX0_divide_94 : decode cX0_divide 94 = .ok (.iload 5, 2) := by decide +kernel
theorem dX0_divide_96 : decode cX0_divide 96 = .ok (.iload 7, 2) := by decide +kernel
theorem dX0_divide_98 : decode cX0_divide 98 = .ok (.iadd, 1) := by decide +kernel
theorem dX0_divide_99 : decode cX0_divide 99 = .ok (.invokevirtual 53, 3) := by decide +kernel
theorem dX0_divide_102 : decode cX0_divide 102 = .ok (.aload 4, 2) := by decide +kernel
theorem dX0_divide_104 : decode cX0_divide 104 = .ok (.invokevirtual 37, 3) := by decide +kernel
theorem dX0_divide_107 : decode cX0_divide 107 = .ok (.aload 4, 2) := by decide +kernel
theorem dX0_divide_109 : decode cX0_divide 109 = .ok (.iconst 0, 1) := by decide +kernel
theorem dX0_divide_110 : decode cX0_divide 110 = .ok (.aload_n 0, 1) := by decide +kernel
theorem dX0_divide_111 : decode cX0_divide 111 = .ok (.getfield 20, 3) := by decide +kernel
theorem dX0_divide_114 : decode cX0_divide 114 = .ok (.invokevirtual 42, 3) := by decide +kernel
theorem dX0_divide_117 : decode cX0_divide 117 = .ok (.pop, 1) := by decide +kernel
theorem dX0_divide_118 : decode cX0_divide 118 = .ok (.aload_n 0, 1) := by decide +kernel
theorem dX0_divide_119 : decode cX0_divide 119 = .ok (.aload_n 1, 1) := by decide +kernel
theorem dX0_divide_120 : decode cX0_divide 120 = .ok (.aload_n 1, 1) := by decide +kernel
theorem dX0_divide_121 : decode cX0_divide 121 = .ok (.invokestatic 57, 3) := by decide +kernel
theorem dX0_divide_124 : decode cX0_divide 124 = .ok (.iload 7, 2) := by decide +kernel
theorem dX0_divide_126 : decode cX0_divide 126 = .ok (.iadd, 1) := by decide +kernel
theorem dX0_divide_127 : decode cX0_divide 127 = .ok (.iload_n 2, 1) := by decide +kernel
theorem dX0_divide_128 : decode cX0_divide 128 = .ok (.iload_n 3, 1) := by decide +kernel
theorem dX0_divide_129 : decode cX0_divide 129 = .ok (.aload 4, 2) := by decide +kernel
theorem dX0_divide_131 : decode cX0_divide 131 = .ok (.invokevirtual 63, 3) := by decide +kernel
theorem dX0_divide_134 : decode cX0_divide 134 = .ok (.ireturn, 1) := by decide +kernel
theorem dX0_divideRest_0 : decode cX0_divideRest 0 = .ok (.aload_n 1, 1) := by decide +kernel
theorem dX0_divideRest_1 : decode cX0_divideRest 1 = .ok (.invokevirtual 33, 3) := by decide +kernel
theorem dX0_divideRest_4 : decode cX0_divideRest 4 = .ok (.istore 6, 2) := by decide +kernel
theorem dX0_divideRest_6 : decode cX0_divideRest 6 = .ok (.iload_n 3, 1) := by decide +kernel
theorem dX0_divideRest_7 : decode cX0_divideRest 7 = .ok (.iconst 5, 1) := by decide +kernel
theorem dX0_divideRest_8 : decode cX0_divideRest 8 = .ok (.isub, 1) := by decide +kernel
theorem dX0_divideRest_9 : decode cX0_divideRest 9 = .ok (.istore 7, 2) := by decide +kernel
theorem dX0_divideRest_11 : decode cX0_divideRest 11 = .ok (.iload_n 2, 1) := by decide +kernel
theorem dX0_divideRest_12 : decode cX0_divideRest 12 = .ok (.istore 8, 2) := by decide +kernel
theorem dX0_divideRest_14 : decode cX0_divideRest 14 = .ok (.iconst 1, 1) := by decide +kernel
theorem dX0_divideRest_15 : decode cX0_divideRest 15 = .ok (.istore 9, 2) := by decide +kernel
theorem dX0_divideRest_17 : decode cX0_divideRest 17 = .ok (.iload 9, 2) := by decide +kernel
theorem dX0_divideRest_19 : decode cX0_divideRest 19 = .ok (.bipush 40, 2) := by decide +kernel
theorem dX0_divideRest_21 : decode cX0_divideRest 21 = .ok (.if_icmp .ge 95, 3) := by decide +kernel
theorem dX0_divideRest_24 : decode cX0_divideRest 24 = .ok (.iload 8, 2) := by decide +kernel
theorem dX0_divideRest_26 : decode cX0_divideRest 26 = .ok (.iload 6, 2) := by decide +kernel
theorem dX0_divideRest_28 : decode cX0_divideRest 28 = .ok (.if_icmp .ge 88, 3) := by decide +kernel
theorem dX0_divideRest_31 : decode cX0_divideRest 31 = .ok (.iload 6, 2) := by decide +kernel
theorem dX0_divideRest_33 : decode cX0_divideRest 33 = .ok (.iload 8, 2) := by decide +kernel
theorem dX0_divideRest_35 : decode cX0_divideRest 35 = .ok (.isub, 1) := by decide +kernel
theorem dX0_divideRest_36 : decode cX0_divideRest 36 = .ok (.iload 7, 2) := by decide +kernel
theorem dX0_divideRest_38 : decode cX0_divideRest 38 = .ok (.if_icmp .gt 8, 3) := by decide +kernel
theorem dX0_divideRest_41 : decode cX0_divideRest 41 = .ok (.iload 6, 2) := by decide +kernel
theorem dX0_divideRest_43 : decode cX0_divideRest 43 = .ok (.goto 14, 3) := by decide +kernel
theorem dX0_divideRest_46 : decode cX0_divideRest 46 = .ok (.iload 8, 2) := by decide +kernel
theorem dX0_divideRest_48 : decode cX0_divideRest 48 = .ok (.iload 7, 2) := by decide +kernel
theorem dX0_divideRest_50 : decode cX0_divideRest 50 = .ok (.bipush 8, 2) := by decide +kernel
theorem dX0_divideRest_52 : decode cX0_divideRest 52 = .ok (.idiv, 1) := by decide +kernel
theorem dX0_divideRest_53 : decode cX0_divideRest 53 = .ok (.bipush 8, 2) := by decide +kernel
theorem dX0_divideRest_55 : decode cX0_divideRest 55 = .ok (.imul, 1) := by decide +kernel
theorem dX0_divideRest_56 : decode cX0_divideRest 56 = .ok (.iadd, 1) := by decide +kernel
theorem dX0_divideRest_57 : decode cX0_divideRest 57 = .ok (.istore 10, 2) := by decide +kernel
theorem dX0_divideRest_59 : decode cX0_divideRest 59 = .ok (.aload_n 0, 1) := by decide +kernel
theorem dX0_divideRest_60 : decode cX0_divideRest 60 = .ok (.sipush 224, 3) := by decide +kernel
theorem dX0_divideRest_63 : decode cX0_divideRest 63 = .ok (.iload 6, 2) := by decide +kernel
theorem dX0_divideRest_65 : decode cX0_divideRest 65 = .ok (.iload 4, 2) := by decide +kernel
theorem dX0_divideRest_67 : decode cX0_divideRest 67 = .ok (.invokevirtual 49, 3) := by decide +kernel
theorem dX0_divideRest_70 : decode cX0_divideRest 70 = .ok (.aload_n 0, 1) := by decide +kernel
theorem dX0_divideRest_71 : decode cX0_divideRest 71 = .ok (.getfield 20, 3) := by decide +kernel
theorem dX0_divideRest_74 : decode cX0_divideRest 74 = .ok (.iload 8, 2) := by decide +kernel
theorem dX0_divideRest_76 : decode cX0_divideRest 76 = .ok (.bipush 8, 2) := by decide +kernel
theorem dX0_divideRest_78 : decode cX0_divideRest 78 = .ok (.idiv, 1) := by decide +kernel
theorem dX0_divideRest_79 : decode cX0_divideRest 79 = .ok (.invokevirtual 67, 3) := by decide +kernel
theorem dX0_divideRest_82 : decode cX0_divideRest 82 = .ok (.aload_n 0, 1) := by decide +kernel
theorem dX0_divideRest_83 : decode cX0_divideRest 83 = .ok (.getfield 20, 3) := by decide +kernel
theorem dX0_divideRest_86 : decode cX0_divideRest 86 = .ok (.aload_n 1, 1) := by decide +kernel
theorem dX0_divideRest_87 : decode cX0_divideRest 87 = .ok (.iload 8, 2) := by decide +kernel
theorem dX0_divideRest_89 : decode cX0_divideRest 89 = .ok (.iload 10, 2) := by decide +kernel
theorem dX0_divideRest_91 : decode cX0_divideRest 91 = .ok (.invokevirtual 53, 3) := by decide +kernel
theorem dX0_divideRest_94 : decode cX0_divideRest 94 = .ok (.aload 5, 2) := by decide +kernel
theorem dX0_divideRest_96 : decode cX0_divideRest 96 = .ok (.iload 9, 2) := by decide +kernel
theorem dX0_divideRest_98 : decode cX0_divideRest 98 = .ok (.aload_n 0, 1) := by decide +kernel
theorem dX0_divideRest_99 : decode cX0_divideRest 99 = .ok (.getfield 20, 3) := by decide +kernel
theorem dX0_divideRest_102 : decode cX0_divideRest 102 = .ok (.invokevirtual 42, 3) := by decide +kernel
theorem dX0_divideRest_105 : decode cX0_divideRest 105 = .ok (.pop, 1) := by decide +kernel
theorem dX0_divideRest_106 : decode cX0_divideRest 106 = .ok (.iload 10, 2) := by decide +kernel
theorem dX0_divideRest_108 : decode cX0_divideRest 108 = .ok (.istore 8, 2) := by decide +kernel
theorem dX0_divideRest_110 : decode cX0_divideRest 110 = .ok (.iinc 9 1, 3) := by decide +kernel
theorem dX0_divideRest_113 : decode cX0_divideRest 113 = .ok (.goto (-96), 3) := by decide +kernel
theorem dX0_divideRest_116 : decode cX0_divideRest 116 = .ok (.iload 8, 2) := by decide +kernel
theorem dX0_divideRest_118 : decode cX0_divideRest 118 = .ok (.iload 6, 2) := by decide +kernel
theorem dX0_divideRest_120 : decode cX0_divideRest 120 = .ok (.if_icmp .ge 11, 3) := by decide +kernel
theorem dX0_divideRest_123 : decode cX0_divideRest 123 = .ok (.aload 5, 2) := by decide +kernel
theorem dX0_divideRest_125 : decode cX0_divideRest 125 = .ok (.invokevirtual 37, 3) := by decide +kernel
theorem dX0_divideRest_128 : decode cX0_divideRest 128 = .ok (.bipush (-3), 2) := by decide +kernel
theorem dX0_divideRest_130 : decode cX0_divideRest 130 = .ok (.ireturn, 1) := by decide +kernel
theorem dX0_divideRest_131 : decode cX0_divideRest 131 = .ok (.aload 5, 2) := by decide +kernel
theorem dX0_divideRest_133 : decode cX0_divideRest 133 = .ok (.invokevirtual 46, 3) := by decide +kernel
theorem dX0_divideRest_136 : decode cX0_divideRest 136 = .ok (.ireturn, 1) := by decide +kernel
theorem dX0_begin_0 : decode cX0_begin 0 = .ok (.aload_n 0, 1) := by decide +kernel
theorem dX0_begin_1 : decode cX0_begin 1 = .ok (.getfield 20, 3) := by decide +kernel
theorem dX0_begin_4 : decode cX0_begin 4 = .ok (.iconst 0, 1) := by decide +kernel
theorem dX0_begin_5 : decode cX0_begin 5 = .ok (.invokevirtual 70, 3) := by decide +kernel
theorem dX0_begin_8 : decode cX0_begin 8 = .ok (.aload_n 0, 1) := by decide +kernel
theorem dX0_begin_9 : decode cX0_begin 9 = .ok (.getfield 20, 3) := by decide +kernel
theorem dX0_begin_12 : decode cX0_begin 12 = .ok (.iload_n 1, 1) := by decide +kernel
theorem dX0_begin_13 : decode cX0_begin 13 = .ok (.i2l, 1) := by decide +kernel
theorem dX0_begin_14 : decode cX0_begin 14 = .ok (.bipush 8, 2) := by decide +kernel
theorem dX0_begin_16 : decode cX0_begin 16 = .ok (.lshl, 1) := by decide +kernel
theorem dX0_begin_17 : decode cX0_begin 17 = .ok (.iload_n 2, 1) := by decide +kernel
theorem dX0_begin_18 : decode cX0_begin 18 = .ok (.i2l, 1) := by decide +kernel
theorem dX0_begin_19 : decode cX0_begin 19 = .ok (.lor, 1) := by decide +kernel
theorem dX0_begin_20 : decode cX0_begin 20 = .ok (.iconst 2, 1) := by decide +kernel
theorem dX0_begin_21 : decode cX0_begin 21 = .ok (.invokevirtual 73, 3) := by decide +kernel
theorem dX0_begin_24 : decode cX0_begin 24 = .ok (.aload_n 0, 1) := by decide +kernel
theorem dX0_begin_25 : decode cX0_begin 25 = .ok (.getfield 20, 3) := by decide +kernel
theorem dX0_begin_28 : decode cX0_begin 28 = .ok (.iload_n 3, 1) := by decide +kernel
theorem dX0_begin_29 : decode cX0_begin 29 = .ok (.i2l, 1) := by decide +kernel
theorem dX0_begin_30 : decode cX0_begin 30 = .ok (.iconst 2, 1) := by decide +kernel
theorem dX0_begin_31 : decode cX0_begin 31 = .ok (.invokevirtual 73, 3) := by decide +kernel
theorem dX0_begin_34 : decode cX0_begin 34 = .ok (.return_, 1) := by decide +kernel
theorem dX1_init_0 : decode cX1_init 0 = .ok (.aload_n 0, 1) := by decide +kernel
theorem dX1_init_1 : decode cX1_init 1 = .ok (.invokespecial 3, 3) := by decide +kernel
theorem dX1_init_4 : decode cX1_init 4 = .ok (.aload_n 0, 1) := by decide +kernel
theorem dX1_init_5 : decode cX1_init 5 = .ok (.bipush 40, 2) := by decide +kernel
theorem dX1_init_7 : decode cX1_init 7 = .ok (.anewarray 9, 3) := by decide +kernel
theorem dX1_init_10 : decode cX1_init 10 = .ok (.putfield 11, 3) := by decide +kernel
theorem dX1_init_13 : decode cX1_init 13 = .ok (.iconst 0, 1) := by decide +kernel
theorem dX1_init_14 : decode cX1_init 14 = .ok (.istore_n 1, 1) := by decide +kernel
theorem dX1_init_15 : decode cX1_init 15 = .ok (.iload_n 1, 1) := by decide +kernel
theorem dX1_init_16 : decode cX1_init 16 = .ok (.bipush 40, 2) := by decide +kernel
theorem dX1_init_18 : decode cX1_init 18 = .ok (.if_icmp .ge 24, 3) := by decide +kernel
theorem dX1_init_21 : decode cX1_init 21 = .ok (.aload_n 0, 1) := by decide +kernel
theorem dX1_init_22 : decode cX1_init 22 = .ok (.getfield 11, 3) := by decide +kernel
theorem dX1_init_25 : decode cX1_init 25 = .ok (.iload_n 1, 1) := by decide +kernel
theorem dX1_init_26 : decode cX1_init 26 = .ok (.new 9, 3) := by decide +kernel
theorem dX1_init_29 : decode cX1_init 29 = .ok (.dup, 1) := by decide +kernel
theorem dX1_init_30 : decode cX1_init 30 = .ok (.bipush 120, 2) := by decide +kernel
theorem dX1_init_32 : decode cX1_init 32 = .ok (.invokespecial 17, 3) := by decide +kernel
theorem dX1_init_35 : decode cX1_init 35 = .ok (.aastore, 1) := by decide +kernel
theorem dX1_init_36 : decode cX1_init 36 = .ok (.iinc 1 1, 3) := by decide +kernel
theorem dX1_init_39 : decode cX1_init 39 = .ok (.goto (-24), 3) := by decide +kernel
theorem dX1_init_42 : decode cX1_init 42 = .ok (.aload_n 0, 1) := by decide +kernel
theorem dX1_init_43 : decode cX1_init 43 = .ok (.iconst 0, 1) := by decide +kernel
theorem dX1_init_44 : decode cX1_init 44 = .ok (.putfield 20, 3) := by decide +kernel
theorem dX1_init_47 : decode cX1_init 47 = .ok (.return_, 1) := by decide +kernel
theorem dX1_size_0 : decode cX1_size 0 = .ok (.aload_n 0, 1) := by decide +kernel
theorem dX1_size_1 : decode cX1_size 1 = .ok (.getfield 20, 3) := by decide +kernel
theorem dX1_size_4 : decode cX1_size 4 = .ok (.ireturn, 1) := by decide +kernel
theorem dX1_has_0 : decode cX1_has 0 = .ok (.iload_n 1, 1) := by decide +kernel
theorem dX1_has_1 : decode cX1_has 1 = .ok (.ifCond .lt 15, 3) := by decide +kernel
theorem dX1_has_4 : decode cX1_has 4 = .ok (.iload_n 1, 1) := by decide +kernel
theorem dX1_has_5 : decode cX1_has 5 = .ok (.aload_n 0, 1) := by decide +kernel
theorem dX1_has_6 : decode cX1_has 6 = .ok (.getfield 20, 3) := by decide +kernel
theorem dX1_has_9 : decode cX1_has 9 = .ok (.if_icmp .ge 7, 3) := by decide +kernel
theorem dX1_has_12 : decode cX1_has 12 = .ok (.iconst 1, 1) := by decide +kernel
theorem dX1_has_13 : decode cX1_has 13 = .ok (.goto 4, 3) := by decide +kernel
theorem dX1_has_16 : decode cX1_has 16 = .ok (.iconst 0, 1) := by decide +kernel
theorem dX1_has_17 : decode cX1_has 17 = .ok (.ireturn, 1) := by decide +kernel
theorem dX1_at_0 : decode cX1_at 0 = .ok (.aload_n 0, 1) := by decide +kernel
theorem dX1_at_1 : decode cX1_at 1 = .ok (.getfield 11, 3) := by decide +kernel
theorem dX1_at_4 : decode cX1_at 4 = .ok (.iload_n 1, 1) := by decide +kernel
theorem dX1_at_5 : decode cX1_at 5 = .ok (.ifCond .lt 13, 3) := by decide +kernel
theorem dX1_at_8 : decode cX1_at 8 = .ok (.iload_n 1, 1) := by decide +kernel
theorem dX1_at_9 : decode cX1_at 9 = .ok (.bipush 40, 2) := by decide +kernel
theorem dX1_at_11 : decode cX1_at 11 = .ok (.if_icmp .ge 7, 3) := by decide +kernel
theorem dX1_at_14 : decode cX1_at 14 = .ok (.iload_n 1, 1) := by decide +kernel
theorem dX1_at_15 : decode cX1_at 15 = .ok (.goto 4, 3) := by decide +kernel
theorem dX1_at_18 : decode cX1_at 18 = .ok (.iconst 0, 1) := by decide +kernel
theorem dX1_at_19 : decode cX1_at 19 = .ok (.aaload, 1) := by decide +kernel
theorem dX1_at_20 : decode cX1_at 20 = .ok (.areturn, 1) := by decide +kernel
theorem dX1_clear_0 : decode cX1_clear 0 = .ok (.aload_n 0, 1) := by decide +kernel
theorem dX1_clear_1 : decode cX1_clear 1 = .ok (.iconst 0, 1) := by decide +kernel
theorem dX1_clear_2 : decode cX1_clear 2 = .ok (.putfield 20, 3) := by decide +kernel
theorem dX1_clear_5 : decode cX1_clear 5 = .ok (.return_, 1) := by decide +kernel
theorem dX1_store_0 : decode cX1_store 0 = .ok (.iload_n 1, 1) := by decide +kernel
theorem dX1_store_1 : decode cX1_store 1 = .ok (.ifCond .lt 17, 3) := by decide +kernel
theorem dX1_store_4 : decode cX1_store 4 = .ok (.iload_n 1, 1) := by decide +kernel
theorem dX1_store_5 : decode cX1_store 5 = .ok (.aload_n 0, 1) := by decide +kernel
theorem dX1_store_6 : decode cX1_store 6 = .ok (.getfield 20, 3) := by decide +kernel
theorem dX1_store_9 : decode cX1_store 9 = .ok (.if_icmp .gt 9, 3) := by decide +kernel
theorem dX1_store_12 : decode cX1_store 12 = .ok (.iload_n 1, 1) := by decide +kernel
theorem dX1_store_13 : decode cX1_store 13 = .ok (.bipush 40, 2) := by decide +kernel
theorem dX1_store_15 : decode cX1_store 15 = .ok (.if_icmp .lt 5, 3) := by decide +kernel
theorem dX1_store_18 : decode cX1_store 18 = .ok (.iconst 0, 1) := by decide +kernel
theorem dX1_store_19 : decode cX1_store 19 = .ok (.ireturn, 1) := by decide +kernel
theorem dX1_store_20 : decode cX1_store 20 = .ok (.aload_n 0, 1) := by decide +kernel
theorem dX1_store_21 : decode cX1_store 21 = .ok (.getfield 11, 3) := by decide +kernel
theorem dX1_store_24 : decode cX1_store 24 = .ok (.iload_n 1, 1) := by decide +kernel
theorem dX1_store_25 : decode cX1_store 25 = .ok (.aaload, 1) := by decide +kernel
theorem dX1_store_26 : decode cX1_store 26 = .ok (.aload_n 2, 1) := by decide +kernel
theorem dX1_store_27 : decode cX1_store 27 = .ok (.invokevirtual 24, 3) := by decide +kernel
theorem dX1_store_30 : decode cX1_store 30 = .ok (.iload_n 1, 1) := by decide +kernel
theorem dX1_store_31 : decode cX1_store 31 = .ok (.aload_n 0, 1) := by decide +kernel
theorem dX1_store_32 : decode cX1_store 32 = .ok (.getfield 20, 3) := by decide +kernel
theorem dX1_store_35 : decode cX1_store 35 = .ok (.if_icmp .ne 13, 3) := by decide +kernel
theorem dX1_store_38 : decode cX1_store 38 = .ok (.aload_n 0, 1) := by decide +kernel
theorem dX1_store_39 : decode cX1_store 39 = .ok (.dup, 1) := by decide +kernel
theorem dX1_store_40 : decode cX1_store 40 = .ok (.getfield 20, 3) := by decide +kernel
theorem dX1_store_43 : decode cX1_store 43 = .ok (.iconst 1, 1) := by decide +kernel
theorem dX1_store_44 : decode cX1_store 44 = .ok (.iadd, 1) := by decide +kernel
theorem dX1_store_45 : decode cX1_store 45 = .ok (.putfield 20, 3) := by decide +kernel
theorem dX1_store_48 : decode cX1_store 48 = .ok (.iconst 1, 1) := by decide +kernel
theorem dX1_store_49 : decode cX1_store 49 = .ok (.ireturn, 1) := by decide +kernel
theorem dX2_init_0 : decode cX2_init 0 = .ok (.aload_n 0, 1) := by decide +kernel
theorem dX2_init_1 : decode cX2_init 1 = .ok (.invokespecial 3, 3) := by decide +kernel
theorem dX2_init_4 : decode cX2_init 4 = .ok (.aload_n 0, 1) := by decide +kernel
theorem dX2_init_5 : decode cX2_init 5 = .ok (.new 9, 3) := by decide +kernel
theorem dX2_init_8 : decode cX2_init 8 = .ok (.dup, 1) := by decide +kernel
theorem dX2_init_9 : decode cX2_init 9 = .ok (.sipush 600, 3) := by decide +kernel
theorem dX2_init_12 : decode cX2_init 12 = .ok (.invokespecial 11, 3) := by decide +kernel
theorem dX2_init_15 : decode cX2_init 15 = .ok (.putfield 14, 3) := by decide +kernel
theorem dX2_init_18 : decode cX2_init 18 = .ok (.aload_n 0, 1) := by decide +kernel
theorem dX2_init_19 : decode cX2_init 19 = .ok (.bipush 75, 2) := by decide +kernel
theorem dX2_init_21 : decode cX2_init 21 = .ok (.newarray .int, 2) := by decide +kernel
theorem dX2_init_23 : decode cX2_init 23 = .ok (.putfield 20, 3) := by decide +kernel
theorem dX2_init_26 : decode cX2_init 26 = .ok (.return_, 1) := by decide +kernel
theorem dX2_isThere_0 : decode cX2_isThere 0 = .ok (.aload_n 0, 1) := by decide +kernel
theorem dX2_isThere_1 : decode cX2_isThere 1 = .ok (.getfield 24, 3) := by decide +kernel
theorem dX2_isThere_4 : decode cX2_isThere 4 = .ok (.ireturn, 1) := by decide +kernel
theorem dX2_isOf_0 : decode cX2_isOf 0 = .ok (.aload_n 0, 1) := by decide +kernel
theorem dX2_isOf_1 : decode cX2_isOf 1 = .ok (.getfield 24, 3) := by decide +kernel
theorem dX2_isOf_4 : decode cX2_isOf 4 = .ok (.ifCond .eq 23, 3) := by decide +kernel
theorem dX2_isOf_7 : decode cX2_isOf 7 = .ok (.aload_n 0, 1) := by decide +kernel
theorem dX2_isOf_8 : decode cX2_isOf 8 = .ok (.getfield 28, 3) := by decide +kernel
theorem dX2_isOf_11 : decode cX2_isOf 11 = .ok (.iload_n 1, 1) := by decide +kernel
theorem dX2_isOf_12 : decode cX2_isOf 12 = .ok (.if_icmp .ne 15, 3) := by decide +kernel
theorem dX2_isOf_15 : decode cX2_isOf 15 = .ok (.aload_n 0, 1) := by decide +kernel
theorem dX2_isOf_16 : decode cX2_isOf 16 = .ok (.getfield 32, 3) := by decide +kernel
theorem dX2_isOf_19 : decode cX2_isOf 19 = .ok (.iload_n 2, 1) := by decide +kernel
theorem dX2_isOf_20 : decode cX2_isOf 20 = .ok (.if_icmp .ne 7, 3) := by decide +kernel
theorem dX2_isOf_23 : decode cX2_isOf 23 = .ok (.iconst 1, 1) := by decide +kernel
theorem dX2_isOf_24 : decode cX2_isOf 24 = .ok (.goto 4, 3) := by decide +kernel
theorem dX2_isOf_27 : decode cX2_isOf 27 = .ok (.iconst 0, 1) := by decide +kernel
theorem dX2_isOf_28 : decode cX2_isOf 28 = .ok (.ireturn, 1) := by decide +kernel
theorem dX2_beganBy_0 : decode cX2_beganBy 0 = .ok (.aload_n 0, 1) := by decide +kernel
theorem dX2_beganBy_1 : decode cX2_beganBy 1 = .ok (.getfield 24, 3) := by decide +kernel
theorem dX2_beganBy_4 : decode cX2_beganBy 4 = .ok (.ifCond .eq 15, 3) := by decide +kernel
theorem dX2_beganBy_7 : decode cX2_beganBy 7 = .ok (.aload_n 0, 1) := by decide +kernel
theorem dX2_beganBy_8 : decode cX2_beganBy 8 = .ok (.getfield 35, 3) := by decide +kernel
theorem dX2_beganBy_11 : decode cX2_beganBy 11 = .ok (.iload_n 1, 1) := by decide +kernel
theorem dX2_beganBy_12 : decode cX2_beganBy 12 = .ok (.if_icmp .gt 7, 3) := by decide +kernel
theorem dX2_beganBy_15 : decode cX2_beganBy 15 = .ok (.iconst 1, 1) := by decide +kernel
theorem dX2_beganBy_16 : decode cX2_beganBy 16 = .ok (.goto 4, 3) := by decide +kernel
theorem dX2_beganBy_19 : decode cX2_beganBy 19 = .ok (.iconst 0, 1) := by decide +kernel
theorem dX2_beganBy_20 : decode cX2_beganBy 20 = .ok (.ireturn, 1) := by decide +kernel
theorem dX2_parts_0 : decode cX2_parts 0 = .ok (.aload_n 0, 1) := by decide +kernel
theorem dX2_parts_1 : decode cX2_parts 1 = .ok (.getfield 24, 3) := by decide +kernel
theorem dX2_parts_4 : decode cX2_parts 4 = .ok (.ifCond .eq 10, 3) := by decide +kernel
theorem dX2_parts_7 : decode cX2_parts 7 = .ok (.aload_n 0, 1) := by decide +kernel
theorem dX2_parts_8 : decode cX2_parts 8 = .ok (.getfield 38, 3) := by decide +kernel
theorem dX2_parts_11 : decode cX2_parts 11 = .ok (.goto 4, 3) := by decide +kernel
theorem dX2_parts_14 : decode cX2_parts 14 = .ok (.iconst 0, 1) := by decide +kernel
theorem dX2_parts_15 : decode cX2_parts 15 = .ok (.ireturn, 1) := by decide +kernel
theorem dX2_bytes_0 : decode cX2_bytes 0 = .ok (.aload_n 0, 1) := by decide +kernel
theorem dX2_bytes_1 : decode cX2_bytes 1 = .ok (.getfield 24, 3) := by decide +kernel
theorem dX2_bytes_4 : decode cX2_bytes 4 = .ok (.ifCond .eq 10, 3) := by decide +kernel
theorem dX2_bytes_7 : decode cX2_bytes 7 = .ok (.aload_n 0, 1) := by decide +kernel
theorem dX2_bytes_8 : decode cX2_bytes 8 = .ok (.getfield 41, 3) := by decide +kernel
theorem dX2_bytes_11 : decode cX2_bytes 11 = .ok (.goto 4, 3) := by decide +kernel
theorem dX2_bytes_14 : decode cX2_bytes 14 = .ok (.iconst 0, 1) := by decide +kernel
theorem dX2_bytes_15 : decode cX2_bytes 15 = .ok (.ireturn, 1) := by decide +kernel
theorem dX2_content_0 : decode cX2_content 0 = .ok (.aload_n 0, 1) := by decide +kernel
theorem dX2_content_1 : decode cX2_content 1 = .ok (.getfield 14, 3) := by decide +kernel
theorem dX2_content_4 : decode cX2_content 4 = .ok (.areturn, 1) := by decide +kernel
theorem dX2_begin_0 : decode cX2_begin 0 = .ok (.aload_n 0, 1) := by decide +kernel
theorem dX2_begin_1 : decode cX2_begin 1 = .ok (.iconst 1, 1) := by decide +kernel
theorem dX2_begin_2 : decode cX2_begin 2 = .ok (.putfield 24, 3) := by decide +kernel
theorem dX2_begin_5 : decode cX2_begin 5 = .ok (.aload_n 0, 1) := by decide +kernel
theorem dX2_begin_6 : decode cX2_begin 6 = .ok (.iload_n 1, 1) := by decide +kernel
theorem dX2_begin_7 : decode cX2_begin 7 = .ok (.putfield 28, 3) := by decide +kernel
theorem dX2_begin_10 : decode cX2_begin 10 = .ok (.aload_n 0, 1) := by decide +kernel
theorem dX2_begin_11 : decode cX2_begin 11 = .ok (.iload_n 2, 1) := by decide +kernel
theorem dX2_begin_12 : decode cX2_begin 12 = .ok (.putfield 32, 3) := by decide +kernel
theorem dX2_begin_15 : decode cX2_begin 15 = .ok (.aload_n 0, 1) := by decide +kernel
theorem dX2_begin_16 : decode cX2_begin 16 = .ok (.iload_n 3, 1) := by decide +kernel
theorem dX2_begin_17 : decode cX2_begin 17 = .ok (.putfield 35, 3) := by decide +kernel
theorem dX2_begin_20 : decode cX2_begin 20 = .ok (.aload_n 0, 1) := by decide +kernel
theorem dX2_begin_21 : decode cX2_begin 21 = .ok (.iconst 0, 1) := by decide +kernel
theorem dX2_begin_22 : decode cX2_begin 22 = .ok (.putfield 38, 3) := by decide +kernel
theorem dX2_begin_25 : decode cX2_begin 25 = .ok (.aload_n 0, 1) := by decide +kernel
theorem dX2_begin_26 : decode cX2_begin 26 = .ok (.iconst 0, 1) := by decide +kernel
theorem dX2_begin_27 : decode cX2_begin 27 = .ok (.putfield 41, 3) := by decide +kernel
theorem dX2_begin_30 : decode cX2_begin 30 = .ok (.aload_n 0, 1) := by decide +kernel
theorem dX2_begin_31 : decode cX2_begin 31 = .ok (.getfield 14, 3) := by decide +kernel
theorem dX2_begin_34 : decode cX2_begin 34 = .ok (.iload_n 1, 1) := by decide +kernel
theorem dX2_begin_35 : decode cX2_begin 35 = .ok (.invokevirtual 44, 3) := by decide +kernel
theorem dX2_begin_38 : decode cX2_begin 38 = .ok (.iconst 0, 1) := by decide +kernel
theorem dX2_begin_39 : decode cX2_begin 39 = .ok (.istore 4, 2) := by decide +kernel
theorem dX2_begin_41 : decode cX2_begin 41 = .ok (.iload 4, 2) := by decide +kernel
theorem dX2_begin_43 : decode cX2_begin 43 = .ok (.bipush 75, 2) := by decide +kernel
theorem dX2_begin_45 : decode cX2_begin 45 = .ok (.if_icmp .ge 17, 3) := by decide +kernel
theorem dX2_begin_48 : decode cX2_begin 48 = .ok (.aload_n 0, 1) := by decide +kernel
theorem dX2_begin_49 : decode cX2_begin 49 = .ok (.getfield 20, 3) := by decide +kernel
theorem dX2_begin_52 : decode cX2_begin 52 = .ok (.iload 4, 2) := by decide +kernel
theorem dX2_begin_54 : decode cX2_begin 54 = .ok (.iconst 0, 1) := by decide +kernel
theorem dX2_begin_55 : decode cX2_begin 55 = .ok (.iastore, 1) := by decide +kernel
theorem dX2_begin_56 : decode cX2_begin 56 = .ok (.iinc 4 1, 3) := by decide +kernel
theorem dX2_begin_59 : decode cX2_begin 59 = .ok (.goto (-18), 3) := by decide +kernel
theorem dX2_begin_62 : decode cX2_begin 62 = .ok (.return_, 1) := by decide +kernel
theorem dX2_end_0 : decode cX2_end 0 = .ok (.aload_n 0, 1) := by decide +kernel
theorem dX2_end_1 : decode cX2_end 1 = .ok (.iconst 0, 1) := by decide +kernel
theorem dX2_end_2 : decode cX2_end 2 = .ok (.putfield 24, 3) := by decide +kernel
theorem dX2_end_5 : decode cX2_end 5 = .ok (.return_, 1) := by decide +kernel
theorem dX2_hasJust_0 : decode cX2_hasJust 0 = .ok (.iload_n 1, 1) := by decide +kernel
theorem dX2_hasJust_1 : decode cX2_hasJust 1 = .ok (.bipush 8, 2) := by decide +kernel
theorem dX2_hasJust_3 : decode cX2_hasJust 3 = .ok (.idiv, 1) := by decide +kernel
theorem dX2_hasJust_4 : decode cX2_hasJust 4 = .ok (.istore_n 3, 1) := by decide +kernel
theorem dX2_hasJust_5 : decode cX2_hasJust 5 = .ok (.iload_n 3, 1) := by decide +kernel
theorem dX2_hasJust_6 : decode cX2_hasJust 6 = .ok (.ifCond .lt 23, 3) := by decide +kernel
theorem dX2_hasJust_9 : decode cX2_hasJust 9 = .ok (.iload_n 3, 1) := by decide +kernel
theorem dX2_hasJust_10 : decode cX2_hasJust 10 = .ok (.bipush 75, 2) := by decide +kernel
theorem dX2_hasJust_12 : decode cX2_hasJust 12 = .ok (.if_icmp .ge 17, 3) := by decide +kernel
theorem dX2_hasJust_15 : decode cX2_hasJust 15 = .ok (.aload_n 0, 1) := by decide +kernel
theorem dX2_hasJust_16 : decode cX2_hasJust 16 = .ok (.getfield 20, 3) := by decide +kernel
theorem dX2_hasJust_19 : decode cX2_hasJust 19 = .ok (.iload_n 3, 1) := by decide +kernel
theorem dX2_hasJust_20 : decode cX2_hasJust 20 = .ok (.iaload, 1) := by decide +kernel
theorem dX2_hasJust_21 : decode cX2_hasJust 21 = .ok (.iload_n 2, 1) := by decide +kernel
theorem dX2_hasJust_22 : decode cX2_hasJust 22 = .ok (.if_icmp .ne 7, 3) := by decide +kernel
theorem dX2_hasJust_25 : decode cX2_hasJust 25 = .ok (.iconst 1, 1) := by decide +kernel
theorem dX2_hasJust_26 : decode cX2_hasJust 26 = .ok (.goto 4, 3) := by decide +kernel
theorem dX2_hasJust_29 : decode cX2_hasJust 29 = .ok (.iconst 0, 1) := by decide +kernel
theorem dX2_hasJust_30 : decode cX2_hasJust 30 = .ok (.ireturn, 1) := by decide +kernel
theorem dX2_meets_0 : decode cX2_meets 0 = .ok (.iconst 0, 1) := by decide +kernel
theorem dX2_meets_1 : decode cX2_meets 1 = .ok (.istore_n 3, 1) := by decide +kernel
theorem dX2_meets_2 : decode cX2_meets 2 = .ok (.iload_n 3, 1) := by decide +kernel
theorem dX2_meets_3 : decode cX2_meets 3 = .ok (.bipush 75, 2) := by decide +kernel
theorem dX2_meets_5 : decode cX2_meets 5 = .ok (.if_icmp .ge 47, 3) := by decide +kernel
theorem dX2_meets_8 : decode cX2_meets 8 = .ok (.bipush 8, 2) := by decide +kernel
theorem dX2_meets_10 : decode cX2_meets 10 = .ok (.iload_n 3, 1) := by decide +kernel
theorem dX2_meets_11 : decode cX2_meets 11 = .ok (.imul, 1) := by decide +kernel
theorem dX2_meets_12 : decode cX2_meets 12 = .ok (.istore 4, 2) := by decide +kernel
theorem dX2_meets_14 : decode cX2_meets 14 = .ok (.aload_n 0, 1) := by decide +kernel
theorem dX2_meets_15 : decode cX2_meets 15 = .ok (.getfield 20, 3) := by decide +kernel
theorem dX2_meets_18 : decode cX2_meets 18 = .ok (.iload_n 3, 1) := by decide +kernel
theorem dX2_meets_19 : decode cX2_meets 19 = .ok (.iaload, 1) := by decide +kernel
theorem dX2_meets_20 : decode cX2_meets 20 = .ok (.ifCond .le 26, 3) := by decide +kernel
theorem dX2_meets_23 : decode cX2_meets 23 = .ok (.iload 4, 2) := by decide +kernel
theorem dX2_meets_25 : decode cX2_meets 25 = .ok (.iload_n 1, 1) := by decide +kernel
theorem dX2_meets_26 : decode cX2_meets 26 = .ok (.iload_n 2, 1) := by decide +kernel
theorem dX2_meets_27 : decode cX2_meets 27 = .ok (.iadd, 1) := by decide +kernel
theorem dX2_meets_28 : decode cX2_meets 28 = .ok (.if_icmp .ge 18, 3) := by decide +kernel
theorem dX2_meets_31 : decode cX2_meets 31 = .ok (.iload_n 1, 1) := by decide +kernel
theorem dX2_meets_32 : decode cX2_meets 32 = .ok (.iload 4, 2) := by decide +kernel
theorem dX2_meets_34 : decode cX2_meets 34 = .ok (.aload_n 0, 1) := by decide +kernel
theorem dX2_meets_35 : decode cX2_meets 35 = .ok (.getfield 20, 3) := by decide +kernel
theorem dX2_meets_38 : decode cX2_meets 38 = .ok (.iload_n 3, 1) := by decide +kernel
theorem dX2_meets_39 : decode cX2_meets 39 = .ok (.iaload, 1) := by decide +kernel
theorem dX2_meets_40 : decode cX2_meets 40 = .ok (.iadd, 1) := by decide +kernel
theorem dX2_meets_41 : decode cX2_meets 41 = .ok (.if_icmp .ge 5, 3) := by decide +kernel
theorem dX2_meets_44 : decode cX2_meets 44 = .ok (.iconst 1, 1) := by decide +kernel
theorem dX2_meets_45 : decode cX2_meets 45 = .ok (.ireturn, 1) := by decide +kernel
theorem dX2_meets_46 : decode cX2_meets 46 = .ok (.iinc 3 1, 3) := by decide +kernel
theorem dX2_meets_49 : decode cX2_meets 49 = .ok (.goto (-47), 3) := by decide +kernel
theorem dX2_meets_52 : decode cX2_meets 52 = .ok (.iconst 0, 1) := by decide +kernel
theorem dX2_meets_53 : decode cX2_meets 53 = .ok (.ireturn, 1) := by decide +kernel
theorem dX2_keep_0 : decode cX2_keep 0 = .ok (.aload_n 2, 1) := by decide +kernel
theorem dX2_keep_1 : decode cX2_keep 1 = .ok (.invokevirtual 47, 3) := by decide +kernel
theorem dX2_keep_4 : decode cX2_keep 4 = .ok (.iload_n 3, 1) := by decide +kernel
theorem dX2_keep_5 : decode cX2_keep 5 = .ok (.isub, 1) := by decide +kernel
theorem dX2_keep_6 : decode cX2_keep 6 = .ok (.istore 4, 2) := by decide +kernel
theorem dX2_keep_8 : decode cX2_keep 8 = .ok (.iload_n 1, 1) := by decide +kernel
theorem dX2_keep_9 : decode cX2_keep 9 = .ok (.bipush 8, 2) := by decide +kernel
theorem dX2_keep_11 : decode cX2_keep 11 = .ok (.idiv, 1) := by decide +kernel
theorem dX2_keep_12 : decode cX2_keep 12 = .ok (.istore 5, 2) := by decide +kernel
theorem dX2_keep_14 : decode cX2_keep 14 = .ok (.iload 5, 2) := by decide +kernel
theorem dX2_keep_16 : decode cX2_keep 16 = .ok (.ifCond .lt 10, 3) := by decide +kernel
theorem dX2_keep_19 : decode cX2_keep 19 = .ok (.iload 5, 2) := by decide +kernel
theorem dX2_keep_21 : decode cX2_keep 21 = .ok (.bipush 75, 2) := by decide +kernel
theorem dX2_keep_23 : decode cX2_keep 23 = .ok (.if_icmp .lt 4, 3) := by decide +kernel
theorem dX2_keep_26 : decode cX2_keep 26 = .ok (.return_, 1) := by decide +kernel
theorem dX2_keep_27 : decode cX2_keep 27 = .ok (.aload_n 0, 1) := by decide +kernel
theorem dX2_keep_28 : decode cX2_keep 28 = .ok (.getfield 20, 3) := by decide +kernel
theorem dX2_keep_31 : decode cX2_keep 31 = .ok (.iload 5, 2) := by decide +kernel
theorem dX2_keep_33 : decode cX2_keep 33 = .ok (.iload 4, 2) := by decide +kernel
theorem dX2_keep_35 : decode cX2_keep 35 = .ok (.iastore, 1) := by decide +kernel
theorem dX2_keep_36 : decode cX2_keep 36 = .ok (.aload_n 0, 1) := by decide +kernel
theorem dX2_keep_37 : decode cX2_keep 37 = .ok (.dup, 1) := by decide +kernel
theorem dX2_keep_38 : decode cX2_keep 38 = .ok (.getfield 38, 3) := by decide +kernel
theorem dX2_keep_41 : decode cX2_keep 41 = .ok (.iconst 1, 1) := by decide +kernel
theorem dX2_keep_42 : decode cX2_keep 42 = .ok (.iadd, 1) := by decide +kernel
theorem dX2_keep_43 : decode cX2_keep 43 = .ok (.putfield 38, 3) := by decide +kernel
theorem dX2_keep_46 : decode cX2_keep 46 = .ok (.aload_n 0, 1) := by decide +kernel
theorem dX2_keep_47 : decode cX2_keep 47 = .ok (.dup, 1) := by decide +kernel
theorem dX2_keep_48 : decode cX2_keep 48 = .ok (.getfield 41, 3) := by decide +kernel
theorem dX2_keep_51 : decode cX2_keep 51 = .ok (.iload 4, 2) := by decide +kernel
theorem dX2_keep_53 : decode cX2_keep 53 = .ok (.iadd, 1) := by decide +kernel
theorem dX2_keep_54 : decode cX2_keep 54 = .ok (.putfield 41, 3) := by decide +kernel
theorem dX2_keep_57 : decode cX2_keep 57 = .ok (.iconst 0, 1) := by decide +kernel
theorem dX2_keep_58 : decode cX2_keep 58 = .ok (.istore 6, 2) := by decide +kernel
theorem dX2_keep_60 : decode cX2_keep 60 = .ok (.iload 6, 2) := by decide +kernel
theorem dX2_keep_62 : decode cX2_keep 62 = .ok (.iload 4, 2) := by decide +kernel
theorem dX2_keep_64 : decode cX2_keep 64 = .ok (.if_icmp .ge 28, 3) := by decide +kernel
theorem dX2_keep_67 : decode cX2_keep 67 = .ok (.aload_n 0, 1) := by decide +kernel
theorem dX2_keep_68 : decode cX2_keep 68 = .ok (.getfield 14, 3) := by decide +kernel
theorem dX2_keep_71 : decode cX2_keep 71 = .ok (.iload_n 1, 1) := by decide +kernel
theorem dX2_keep_72 : decode cX2_keep 72 = .ok (.iload 6, 2) := by decide +kernel
theorem dX2_keep_74 : decode cX2_keep 74 = .ok (.iadd, 1) := by decide +kernel
theorem dX2_keep_75 : decode cX2_keep 75 = .ok (.aload_n 2, 1) := by decide +kernel
theorem dX2_keep_76 : decode cX2_keep 76 = .ok (.iload_n 3, 1) := by decide +kernel
theorem dX2_keep_77 : decode cX2_keep 77 = .ok (.iload 6, 2) := by decide +kernel
theorem dX2_keep_79 : decode cX2_keep 79 = .ok (.iadd, 1) := by decide +kernel
theorem dX2_keep_80 : decode cX2_keep 80 = .ok (.invokevirtual 51, 3) := by decide +kernel
theorem dX2_keep_83 : decode cX2_keep 83 = .ok (.invokevirtual 55, 3) := by decide +kernel
theorem dX2_keep_86 : decode cX2_keep 86 = .ok (.iinc 6 1, 3) := by decide +kernel
theorem dX2_keep_89 : decode cX2_keep 89 = .ok (.goto (-29), 3) := by decide +kernel
theorem dX2_keep_92 : decode cX2_keep 92 = .ok (.return_, 1) := by decide +kernel
theorem dX2_isWhole_0 : decode cX2_isWhole 0 = .ok (.aload_n 0, 1) := by decide +kernel
theorem dX2_isWhole_1 : decode cX2_isWhole 1 = .ok (.getfield 24, 3) := by decide +kernel
theorem dX2_isWhole_4 : decode cX2_isWhole 4 = .ok (.ifCond .eq 18, 3) := by decide +kernel
theorem dX2_isWhole_7 : decode cX2_isWhole 7 = .ok (.aload_n 0, 1) := by decide +kernel
theorem dX2_isWhole_8 : decode cX2_isWhole 8 = .ok (.getfield 41, 3) := by decide +kernel
theorem dX2_isWhole_11 : decode cX2_isWhole 11 = .ok (.aload_n 0, 1) := by decide +kernel
theorem dX2_isWhole_12 : decode cX2_isWhole 12 = .ok (.getfield 28, 3) := by decide +kernel
theorem dX2_isWhole_15 : decode cX2_isWhole 15 = .ok (.if_icmp .ne 7, 3) := by decide +kernel
theorem dX2_isWhole_18 : decode cX2_isWhole 18 = .ok (.iconst 1, 1) := by decide +kernel
theorem dX2_isWhole_19 : decode cX2_isWhole 19 = .ok (.goto 4, 3) := by decide +kernel
theorem dX2_isWhole_22 : decode cX2_isWhole 22 = .ok (.iconst 0, 1) := by decide +kernel
theorem dX2_isWhole_23 : decode cX2_isWhole 23 = .ok (.ireturn, 1) := by decide +kernel
theorem dX3_init_0 : decode cX3_init 0 = .ok (.aload_n 0, 1) := by decide +kernel
theorem dX3_init_1 : decode cX3_init 1 = .ok (.invokespecial 1, 3) := by decide +kernel
theorem dX3_init_4 : decode cX3_init 4 = .ok (.aload_n 0, 1) := by decide +kernel
theorem dX3_init_5 : decode cX3_init 5 = .ok (.bipush 16, 2) := by decide +kernel
theorem dX3_init_7 : decode cX3_init 7 = .ok (.newarray .boolean, 2) := by decide +kernel
theorem dX3_init_9 : decode cX3_init 9 = .ok (.putfield 9, 3) := by decide +kernel
theorem dX3_init_12 : decode cX3_init 12 = .ok (.aload_n 0, 1) := by decide +kernel
theorem dX3_init_13 : decode cX3_init 13 = .ok (.bipush 16, 2) := by decide +kernel
theorem dX3_init_15 : decode cX3_init 15 = .ok (.newarray .long, 2) := by decide +kernel
theorem dX3_init_17 : decode cX3_init 17 = .ok (.putfield 13, 3) := by decide +kernel
theorem dX3_init_20 : decode cX3_init 20 = .ok (.aload_n 0, 1) := by decide +kernel
theorem dX3_init_21 : decode cX3_init 21 = .ok (.ldc2_w 17, 3) := by decide +kernel
theorem dX3_init_24 : decode cX3_init 24 = .ok (.putfield 19, 3) := by decide +kernel
theorem dX3_init_27 : decode cX3_init 27 = .ok (.aload_n 0, 1) := by decide +kernel
theorem dX3_init_28 : decode cX3_init 28 = .ok (.ldc2_w 17, 3) := by decide +kernel
theorem dX3_init_31 : decode cX3_init 31 = .ok (.putfield 23, 3) := by decide +kernel
theorem dX3_init_34 : decode cX3_init 34 = .ok (.return_, 1) := by decide +kernel
theorem dX3_isThere_0 : decode cX3_isThere 0 = .ok (.iload_n 1, 1) := by decide +kernel
theorem dX3_isThere_1 : decode cX3_isThere 1 = .ok (.ifCond .lt 22, 3) := by decide +kernel
theorem dX3_isThere_4 : decode cX3_isThere 4 = .ok (.iload_n 1, 1) := by decide +kernel
theorem dX3_isThere_5 : decode cX3_isThere 5 = .ok (.bipush 16, 2) := by decide +kernel
theorem dX3_isThere_7 : decode cX3_isThere 7 = .ok (.if_icmp .ge 16, 3) := by decide +kernel
theorem dX3_isThere_10 : decode cX3_isThere 10 = .ok (.aload_n 0, 1) := by decide +kernel
theorem dX3_isThere_11 : decode cX3_isThere 11 = .ok (.getfield 9, 3) := by decide +kernel
theorem dX3_isThere_14 : decode cX3_isThere 14 = .ok (.iload_n 1, 1) := by decide +kernel
theorem dX3_isThere_15 : decode cX3_isThere 15 = .ok (.baload, 1) := by decide +kernel
theorem dX3_isThere_16 : decode cX3_isThere 16 = .ok (.ifCond .eq 7, 3) := by decide +kernel
theorem dX3_isThere_19 : decode cX3_isThere 19 = .ok (.iconst 1, 1) := by decide +kernel
theorem dX3_isThere_20 : decode cX3_isThere 20 = .ok (.goto 4, 3) := by decide +kernel
theorem dX3_isThere_23 : decode cX3_isThere 23 = .ok (.iconst 0, 1) := by decide +kernel
theorem dX3_isThere_24 : decode cX3_isThere 24 = .ok (.ireturn, 1) := by decide +kernel
theorem dX3_contextOf_0 : decode cX3_contextOf 0 = .ok (.aload_n 0, 1) := by decide +kernel
theorem dX3_contextOf_1 : decode cX3_contextOf 1 = .ok (.iload_n 1, 1) := by decide +kernel
theorem dX3_contextOf_2 : decode cX3_contextOf 2 = .ok (.invokevirtual 26, 3) := by decide +kernel
theorem dX3_contextOf_5 : decode cX3_contextOf 5 = .ok (.ifCond .eq 12, 3) := by decide +kernel
theorem dX3_contextOf_8 : decode cX3_contextOf 8 = .ok (.aload_n 0, 1) := by decide +kernel
theorem dX3_contextOf_9 : decode cX3_contextOf 9 = .ok (.getfield 13, 3) := by decide +kernel
theorem dX3_contextOf_12 : decode cX3_contextOf 12 = .ok (.iload_n 1, 1) := by decide +kernel
theorem dX3_contextOf_13 : decode cX3_contextOf 13 = .ok (.laload, 1) := by decide +kernel
theorem dX3_contextOf_14 : decode cX3_contextOf 14 = .ok (.goto 4, 3) := by decide +kernel
theorem dX3_contextOf_17 : decode cX3_contextOf 17 = .ok (.lconst 0, 1) := by decide +kernel
theorem dX3_contextOf_18 : decode cX3_contextOf 18 = .ok (.lreturn, 1) := by decide +kernel
theorem dX3_setContext_0 : decode cX3_setContext 0 = .ok (.iload_n 1, 1) := by decide +kernel
theorem dX3_setContext_1 : decode cX3_setContext 1 = .ok (.ifCond .lt 23, 3) := by decide +kernel
theorem dX3_setContext_4 : decode cX3_setContext 4 = .ok (.iload_n 1, 1) := by decide +kernel
theorem dX3_setContext_5 : decode cX3_setContext 5 = .ok (.bipush 16, 2) := by decide +kernel
theorem dX3_setContext_7 : decode cX3_setContext 7 = .ok (.if_icmp .ge 17, 3) := by decide +kernel
theorem dX3_setContext_10 : decode cX3_setContext 10 = .ok (.aload_n 0, 1) := by decide +kernel
theorem dX3_setContext_11 : decode cX3_setContext 11 = .ok (.getfield 9, 3) := by decide +kernel
theorem dX3_setContext_14 : decode cX3_setContext 14 = .ok (.iload_n 1, 1) := by decide +kernel
theorem dX3_setContext_15 : decode cX3_setContext 15 = .ok (.iload_n 2, 1) := by decide +kernel
theorem dX3_setContext_16 : decode cX3_setContext 16 = .ok (.bastore, 1) := by decide +kernel
theorem dX3_setContext_17 : decode cX3_setContext 17 = .ok (.aload_n 0, 1) := by decide +kernel
theorem dX3_setContext_18 : decode cX3_setContext 18 = .ok (.getfield 13, 3) := by decide +kernel
theorem dX3_setContext_21 : decode cX3_setContext 21 = .ok (.iload_n 1, 1) := by decide +kernel
theorem dX3_setContext_22 : decode cX3_setContext 22 = .ok (.lload_n 3, 1) := by decide +kernel
theorem dX3_setContext_23 : decode cX3_setContext 23 = .ok (.lastore, 1) := by decide +kernel
theorem dX3_setContext_24 : decode cX3_setContext 24 = .ok (.return_, 1) := by decide +kernel
theorem dX3_setLink_0 : decode cX3_setLink 0 = .ok (.iload_n 2, 1) := by decide +kernel
theorem dX3_setLink_1 : decode cX3_setLink 1 = .ok (.ifCond .eq 11, 3) := by decide +kernel
theorem dX3_setLink_4 : decode cX3_setLink 4 = .ok (.lload_n 3, 1) := by decide +kernel
theorem dX3_setLink_5 : decode cX3_setLink 5 = .ok (.ldc2_w 30, 3) := by decide +kernel
theorem dX3_setLink_8 : decode cX3_setLink 8 = .ok (.lxor, 1) := by decide +kernel
theorem dX3_setLink_9 : decode cX3_setLink 9 = .ok (.goto 12, 3) := by decide +kernel
theorem dX3_setLink_12 : decode cX3_setLink 12 = .ok (.ldc2_w 17, 3) := by decide +kernel
theorem dX3_setLink_15 : decode cX3_setLink 15 = .ok (.lload_n 3, 1) := by decide +kernel
theorem dX3_setLink_16 : decode cX3_setLink 16 = .ok (.ldc2_w 32, 3) := by decide +kernel
theorem dX3_setLink_19 : decode cX3_setLink 19 = .ok (.land, 1) := by decide +kernel
theorem dX3_setLink_20 : decode cX3_setLink 20 = .ok (.lor, 1) := by decide +kernel
theorem dX3_setLink_21 : decode cX3_setLink 21 = .ok (.lstore 5, 2) := by decide +kernel
theorem dX3_setLink_23 : decode cX3_setLink 23 = .ok (.iload_n 1, 1) := by decide +kernel
theorem dX3_setLink_24 : decode cX3_setLink 24 = .ok (.ifCond .ne 12, 3) := by decide +kernel
theorem dX3_setLink_27 : decode cX3_setLink 27 = .ok (.aload_n 0, 1) := by decide +kernel
theorem dX3_setLink_28 : decode cX3_setLink 28 = .ok (.lload 5, 2) := by decide +kernel
theorem dX3_setLink_30 : decode cX3_setLink 30 = .ok (.putfield 19, 3) := by decide +kernel
theorem dX3_setLink_33 : decode cX3_setLink 33 = .ok (.goto 9, 3) := by decide +kernel
theorem dX3_setLink_36 : decode cX3_setLink 36 = .ok (.aload_n 0, 1) := by decide +kernel
theorem dX3_setLink_37 : decode cX3_setLink 37 = .ok (.lload 5, 2) := by decide +kernel
theorem dX3_setLink_39 : decode cX3_setLink 39 = .ok (.putfield 23, 3) := by decide +kernel
theorem dX3_setLink_42 : decode cX3_setLink 42 = .ok (.return_, 1) := by decide +kernel
theorem dX3_own_0 : decode cX3_own 0 = .ok (.iload_n 1, 1) := by decide +kernel
theorem dX3_own_1 : decode cX3_own 1 = .ok (.ifCond .ne 10, 3) := by decide +kernel
theorem dX3_own_4 : decode cX3_own 4 = .ok (.aload_n 0, 1) := by decide +kernel
theorem dX3_own_5 : decode cX3_own 5 = .ok (.getfield 19, 3) := by decide +kernel
theorem dX3_own_8 : decode cX3_own 8 = .ok (.goto 7, 3) := by decide +kernel
theorem dX3_own_11 : decode cX3_own 11 = .ok (.aload_n 0, 1) := by decide +kernel
theorem dX3_own_12 : decode cX3_own 12 = .ok (.getfield 23, 3) := by decide +kernel
theorem dX3_own_15 : decode cX3_own 15 = .ok (.lreturn, 1) := by decide +kernel
theorem dX3_least_0 : decode cX3_least 0 = .ok (.iconst 0, 1) := by decide +kernel
theorem dX3_least_1 : decode cX3_least 1 = .ok (.istore_n 3, 1) := by decide +kernel
theorem dX3_least_2 : decode cX3_least 2 = .ok (.iload_n 3, 1) := by decide +kernel
theorem dX3_least_3 : decode cX3_least 3 = .ok (.bipush 16, 2) := by decide +kernel
theorem dX3_least_5 : decode cX3_least 5 = .ok (.if_icmp .ge 31, 3) := by decide +kernel
theorem dX3_least_8 : decode cX3_least 8 = .ok (.aload_n 0, 1) := by decide +kernel
theorem dX3_least_9 : decode cX3_least 9 = .ok (.getfield 9, 3) := by decide +kernel
theorem dX3_least_12 : decode cX3_least 12 = .ok (.iload_n 3, 1) := by decide +kernel
theorem dX3_least_13 : decode cX3_least 13 = .ok (.baload, 1) := by decide +kernel
theorem dX3_least_14 : decode cX3_least 14 = .ok (.ifCond .eq 16, 3) := by decide +kernel
theorem dX3_least_17 : decode cX3_least 17 = .ok (.aload_n 0, 1) := by decide +kernel
theorem dX3_least_18 : decode cX3_least 18 = .ok (.getfield 13, 3) := by decide +kernel
theorem dX3_least_21 : decode cX3_least 21 = .ok (.iload_n 3, 1) := by decide +kernel
theorem dX3_least_22 : decode cX3_least 22 = .ok (.laload, 1) := by decide +kernel
theorem dX3_least_23 : decode cX3_least 23 = .ok (.lload_n 1, 1) := by decide +kernel
theorem dX3_least_24 : decode cX3_least 24 = .ok (.lcmp, 1) := by decide +kernel
theorem dX3_least_25 : decode cX3_least 25 = .ok (.ifCond .ne 5, 3) := by decide +kernel
theorem dX3_least_28 : decode cX3_least 28 = .ok (.iload_n 3, 1) := by decide +kernel
theorem dX3_least_29 : decode cX3_least 29 = .ok (.ireturn, 1) := by decide +kernel
theorem dX3_least_30 : decode cX3_least 30 = .ok (.iinc 3 1, 3) := by decide +kernel
theorem dX3_least_33 : decode cX3_least 33 = .ok (.goto (-31), 3) := by decide +kernel
theorem dX3_least_36 : decode cX3_least 36 = .ok (.iconst (-1), 1) := by decide +kernel
theorem dX3_least_37 : decode cX3_least 37 = .ok (.ireturn, 1) := by decide +kernel
theorem dX4_bytesOf_0 : decode cX4_bytesOf 0 = .ok (.iload_n 0, 1) := by decide +kernel
theorem dX4_bytesOf_1 : decode cX4_bytesOf 1 = .ok (.ifCond .lt 19, 3) := by decide +kernel
theorem dX4_bytesOf_4 : decode cX4_bytesOf 4 = .ok (.iload_n 0, 1) := by decide +kernel
theorem dX4_bytesOf_5 : decode cX4_bytesOf 5 = .ok (.getstatic 7, 3) := by decide +kernel
theorem dX4_bytesOf_8 : decode cX4_bytesOf 8 = .ok (.arraylength, 1) := by decide +kernel
theorem dX4_bytesOf_9 : decode cX4_bytesOf 9 = .ok (.if_icmp .ge 11, 3) := by decide +kernel
theorem dX4_bytesOf_12 : decode cX4_bytesOf 12 = .ok (.getstatic 7, 3) := by decide +kernel
theorem dX4_bytesOf_15 : decode cX4_bytesOf 15 = .ok (.iload_n 0, 1) := by decide +kernel
theorem dX4_bytesOf_16 : decode cX4_bytesOf 16 = .ok (.iaload, 1) := by decide +kernel
theorem dX4_bytesOf_17 : decode cX4_bytesOf 17 = .ok (.goto 4, 3) := by decide +kernel
theorem dX4_bytesOf_20 : decode cX4_bytesOf 20 = .ok (.iconst 0, 1) := by decide +kernel
theorem dX4_bytesOf_21 : decode cX4_bytesOf 21 = .ok (.ireturn, 1) := by decide +kernel
theorem dX4_usesContext_0 : decode cX4_usesContext 0 = .ok (.iload_n 0, 1) := by decide +kernel
theorem dX4_usesContext_1 : decode cX4_usesContext 1 = .ok (.iconst 4, 1) := by decide +kernel
theorem dX4_usesContext_2 : decode cX4_usesContext 2 = .ok (.if_icmp .le 13, 3) := by decide +kernel
theorem dX4_usesContext_5 : decode cX4_usesContext 5 = .ok (.iload_n 0, 1) := by decide +kernel
theorem dX4_usesContext_6 : decode cX4_usesContext 6 = .ok (.bipush 8, 2) := by decide +kernel
theorem dX4_usesContext_8 : decode cX4_usesContext 8 = .ok (.if_icmp .ge 7, 3) := by decide +kernel
theorem dX4_usesContext_11 : decode cX4_usesContext 11 = .ok (.iconst 1, 1) := by decide +kernel
theorem dX4_usesContext_12 : decode cX4_usesContext 12 = .ok (.goto 4, 3) := by decide +kernel
theorem dX4_usesContext_15 : decode cX4_usesContext 15 = .ok (.iconst 0, 1) := by decide +kernel
theorem dX4_usesContext_16 : decode cX4_usesContext 16 = .ok (.ireturn, 1) := by decide +kernel
theorem dX4_ofSource_0 : decode cX4_ofSource 0 = .ok (.lload_n 1, 1) := by decide +kernel
theorem dX4_ofSource_1 : decode cX4_ofSource 1 = .ok (.lconst 0, 1) := by decide +kernel
theorem dX4_ofSource_2 : decode cX4_ofSource 2 = .ok (.lcmp, 1) := by decide +kernel
theorem dX4_ofSource_3 : decode cX4_ofSource 3 = .ok (.ifCond .ne 11, 3) := by decide +kernel
theorem dX4_ofSource_6 : decode cX4_ofSource 6 = .ok (.lload_n 3, 1) := by decide +kernel
theorem dX4_ofSource_7 : decode cX4_ofSource 7 = .ok (.lconst 0, 1) := by decide +kernel
theorem dX4_ofSource_8 : decode cX4_ofSource 8 = .ok (.lcmp, 1) := by decide +kernel
theorem dX4_ofSource_9 : decode cX4_ofSource 9 = .ok (.ifCond .ne 5, 3) := by decide +kernel
theorem dX4_ofSource_12 : decode cX4_ofSource 12 = .ok (.iconst 4, 1) := by decide +kernel
theorem dX4_ofSource_13 : decode cX4_ofSource 13 = .ok (.ireturn, 1) := by decide +kernel
theorem dX4_ofSource_14 : decode cX4_ofSource 14 = .ok (.aload_n 0, 1) := by decide +kernel
theorem dX4_ofSource_15 : decode cX4_ofSource 15 = .ok (.iconst 0, 1) := by decide +kernel
theorem dX4_ofSource_16 : decode cX4_ofSource 16 = .ok (.lload_n 1, 1) := by decide +kernel
theorem dX4_ofSource_17 : decode cX4_ofSource 17 = .ok (.lload_n 3, 1) := by decide +kernel
theorem dX4_ofSource_18 : decode cX4_ofSource 18 = .ok (.invokestatic 15, 3) := by decide +kernel
theorem dX4_ofSource_21 : decode cX4_ofSource 21 = .ok (.ireturn, 1) := by decide +kernel
theorem dX4_ofGoal_0 : decode cX4_ofGoal 0 = .ok (.lload_n 1, 1) := by decide +kernel
theorem dX4_ofGoal_1 : decode cX4_ofGoal 1 = .ok (.bipush 56, 2) := by decide +kernel
theorem dX4_ofGoal_3 : decode cX4_ofGoal 3 = .ok (.lushr, 1) := by decide +kernel
theorem dX4_ofGoal_4 : decode cX4_ofGoal 4 = .ok (.ldc2_w 19, 3) := by decide +kernel
theorem dX4_ofGoal_7 : decode cX4_ofGoal 7 = .ok (.lcmp, 1) := by decide +kernel
theorem dX4_ofGoal_8 : decode cX4_ofGoal 8 = .ok (.ifCond .ne 9, 3) := by decide +kernel
theorem dX4_ofGoal_11 : decode cX4_ofGoal 11 = .ok (.lload_n 1, 1) := by decide +kernel
theorem dX4_ofGoal_12 : decode cX4_ofGoal 12 = .ok (.lload_n 3, 1) := by decide +kernel
theorem dX4_ofGoal_13 : decode cX4_ofGoal 13 = .ok (.invokestatic 21, 3) := by decide +kernel
theorem dX4_ofGoal_16 : decode cX4_ofGoal 16 = .ok (.ireturn, 1) := by decide +kernel
theorem dX4_ofGoal_17 : decode cX4_ofGoal 17 = .ok (.aload_n 0, 1) := by decide +kernel
theorem dX4_ofGoal_18 : decode cX4_ofGoal 18 = .ok (.iconst 1, 1) := by decide +kernel
theorem dX4_ofGoal_19 : decode cX4_ofGoal 19 = .ok (.lload_n 1, 1) := by decide +kernel
theorem dX4_ofGoal_20 : decode cX4_ofGoal 20 = .ok (.lload_n 3, 1) := by decide +kernel
theorem dX4_ofGoal_21 : decode cX4_ofGoal 21 = .ok (.invokestatic 15, 3) := by decide +kernel
theorem dX4_ofGoal_24 : decode cX4_ofGoal 24 = .ok (.ireturn, 1) := by decide +kernel
theorem dX4_ofOne_0 : decode cX4_ofOne 0 = .ok (.lload_n 2, 1) := by decide +kernel
theorem dX4_ofOne_1 : decode cX4_ofOne 1 = .ok (.ldc2_w 25, 3) := by decide +kernel
theorem dX4_ofOne_4 : decode cX4_ofOne 4 = .ok (.lcmp, 1) := by decide +kernel
theorem dX4_ofOne_5 : decode cX4_ofOne 5 = .ok (.ifCond .ne 11, 3) := by decide +kernel
theorem dX4_ofOne_8 : decode cX4_ofOne 8 = .ok (.aload_n 0, 1) := by decide +kernel
theorem dX4_ofOne_9 : decode cX4_ofOne 9 = .ok (.iload_n 1, 1) := by decide +kernel
theorem dX4_ofOne_10 : decode cX4_ofOne 10 = .ok (.lload 4, 2) := by decide +kernel
theorem dX4_ofOne_12 : decode cX4_ofOne 12 = .ok (.invokestatic 27, 3) := by decide +kernel
theorem dX4_ofOne_15 : decode cX4_ofOne 15 = .ok (.ireturn, 1) := by decide +kernel
theorem dX4_ofOne_16 : decode cX4_ofOne 16 = .ok (.aload_n 0, 1) := by decide +kernel
theorem dX4_ofOne_17 : decode cX4_ofOne 17 = .ok (.lload_n 2, 1) := by decide +kernel
theorem dX4_ofOne_18 : decode cX4_ofOne 18 = .ok (.invokevirtual 31, 3) := by decide +kernel
theorem dX4_ofOne_21 : decode cX4_ofOne 21 = .ok (.iconst (-1), 1) := by decide +kernel
theorem dX4_ofOne_22 : decode cX4_ofOne 22 = .ok (.if_icmp .eq 13, 3) := by decide +kernel
theorem dX4_ofOne_25 : decode cX4_ofOne 25 = .ok (.iconst 4, 1) := by decide +kernel
theorem dX4_ofOne_26 : decode cX4_ofOne 26 = .ok (.aload_n 0, 1) := by decide +kernel
theorem dX4_ofOne_27 : decode cX4_ofOne 27 = .ok (.iload_n 1, 1) := by decide +kernel
theorem dX4_ofOne_28 : decode cX4_ofOne 28 = .ok (.lload 4, 2) := by decide +kernel
theorem dX4_ofOne_30 : decode cX4_ofOne 30 = .ok (.invokestatic 27, 3) := by decide +kernel
theorem dX4_ofOne_33 : decode cX4_ofOne 33 = .ok (.iadd, 1) := by decide +kernel
theorem dX4_ofOne_34 : decode cX4_ofOne 34 = .ok (.ireturn, 1) := by decide +kernel
theorem dX4_ofOne_35 : decode cX4_ofOne 35 = .ok (.iconst 0, 1) := by decide +kernel
theorem dX4_ofOne_36 : decode cX4_ofOne 36 = .ok (.ireturn, 1) := by decide +kernel
theorem dX4_ofLast_0 : decode cX4_ofLast 0 = .ok (.lload_n 2, 1) := by decide +kernel
theorem dX4_ofLast_1 : decode cX4_ofLast 1 = .ok (.aload_n 0, 1) := by decide +kernel
theorem dX4_ofLast_2 : decode cX4_ofLast 2 = .ok (.iload_n 1, 1) := by decide +kernel
theorem dX4_ofLast_3 : decode cX4_ofLast 3 = .ok (.invokevirtual 35, 3) := by decide +kernel
theorem dX4_ofLast_6 : decode cX4_ofLast 6 = .ok (.lcmp, 1) := by decide +kernel
theorem dX4_ofLast_7 : decode cX4_ofLast 7 = .ok (.ifCond .ne 5, 3) := by decide +kernel
theorem dX4_ofLast_10 : decode cX4_ofLast 10 = .ok (.iconst 3, 1) := by decide +kernel
theorem dX4_ofLast_11 : decode cX4_ofLast 11 = .ok (.ireturn, 1) := by decide +kernel
theorem dX4_ofLast_12 : decode cX4_ofLast 12 = .ok (.lload_n 2, 1) := by decide +kernel
theorem dX4_ofLast_13 : decode cX4_ofLast 13 = .ok (.bipush 16, 2) := by decide +kernel
theorem dX4_ofLast_15 : decode cX4_ofLast 15 = .ok (.lushr, 1) := by decide +kernel
theorem dX4_ofLast_16 : decode cX4_ofLast 16 = .ok (.ldc2_w 39, 3) := by decide +kernel
theorem dX4_ofLast_19 : decode cX4_ofLast 19 = .ok (.lcmp, 1) := by decide +kernel
theorem dX4_ofLast_20 : decode cX4_ofLast 20 = .ok (.ifCond .ne 7, 3) := by decide +kernel
theorem dX4_ofLast_23 : decode cX4_ofLast 23 = .ok (.iconst 2, 1) := by decide +kernel
theorem dX4_ofLast_24 : decode cX4_ofLast 24 = .ok (.goto 4, 3) := by decide +kernel
theorem dX4_ofLast_27 : decode cX4_ofLast 27 = .ok (.iconst 1, 1) := by decide +kernel
theorem dX4_ofLast_28 : decode cX4_ofLast 28 = .ok (.ireturn, 1) := by decide +kernel
theorem dX4_ofMany_0 : decode cX4_ofMany 0 = .ok (.lload_n 0, 1) := by decide +kernel
theorem dX4_ofMany_1 : decode cX4_ofMany 1 = .ok (.ldc2_w 41, 3) := by decide +kernel
theorem dX4_ofMany_4 : decode cX4_ofMany 4 = .ok (.land, 1) := by decide +kernel
theorem dX4_ofMany_5 : decode cX4_ofMany 5 = .ok (.lconst 0, 1) := by decide +kernel
theorem dX4_ofMany_6 : decode cX4_ofMany 6 = .ok (.lcmp, 1) := by decide +kernel
theorem dX4_ofMany_7 : decode cX4_ofMany 7 = .ok (.ifCond .ne 12, 3) := by decide +kernel
theorem dX4_ofMany_10 : decode cX4_ofMany 10 = .ok (.lload_n 2, 1) := by decide +kernel
theorem dX4_ofMany_11 : decode cX4_ofMany 11 = .ok (.bipush 40, 2) := by decide +kernel
theorem dX4_ofMany_13 : decode cX4_ofMany 13 = .ok (.lushr, 1) := by decide +kernel
theorem dX4_ofMany_14 : decode cX4_ofMany 14 = .ok (.lconst 0, 1) := by decide +kernel
theorem dX4_ofMany_15 : decode cX4_ofMany 15 = .ok (.lcmp, 1) := by decide +kernel
theorem dX4_ofMany_16 : decode cX4_ofMany 16 = .ok (.ifCond .eq 6, 3) := by decide +kernel
theorem dX4_ofMany_19 : decode cX4_ofMany 19 = .ok (.bipush 8, 2) := by decide +kernel
theorem dX4_ofMany_21 : decode cX4_ofMany 21 = .ok (.ireturn, 1) := by decide +kernel
theorem dX4_ofMany_22 : decode cX4_ofMany 22 = .ok (.lload_n 2, 1) := by decide +kernel
theorem dX4_ofMany_23 : decode cX4_ofMany 23 = .ok (.bipush 24, 2) := by decide +kernel
theorem dX4_ofMany_25 : decode cX4_ofMany 25 = .ok (.lushr, 1) := by decide +kernel
theorem dX4_ofMany_26 : decode cX4_ofMany 26 = .ok (.lconst 0, 1) := by decide +kernel
theorem dX4_ofMany_27 : decode cX4_ofMany 27 = .ok (.lcmp, 1) := by decide +kernel
theorem dX4_ofMany_28 : decode cX4_ofMany 28 = .ok (.ifCond .eq 6, 3) := by decide +kernel
theorem dX4_ofMany_31 : decode cX4_ofMany 31 = .ok (.bipush 9, 2) := by decide +kernel
theorem dX4_ofMany_33 : decode cX4_ofMany 33 = .ok (.ireturn, 1) := by decide +kernel
theorem dX4_ofMany_34 : decode cX4_ofMany 34 = .ok (.lload_n 2, 1) := by decide +kernel
theorem dX4_ofMany_35 : decode cX4_ofMany 35 = .ok (.bipush 8, 2) := by decide +kernel
theorem dX4_ofMany_37 : decode cX4_ofMany 37 = .ok (.lushr, 1) := by decide +kernel
theorem dX4_ofMany_38 : decode cX4_ofMany 38 = .ok (.lconst 0, 1) := by decide +kernel
theorem dX4_ofMany_39 : decode cX4_ofMany 39 = .ok (.lcmp, 1) := by decide +kernel
theorem dX4_ofMany_40 : decode cX4_ofMany 40 = .ok (.ifCond .ne 23, 3) := by decide +kernel
theorem dX4_ofMany_43 : decode cX4_ofMany 43 = .ok (.lload_n 0, 1) := by decide +kernel
theorem dX4_ofMany_44 : decode cX4_ofMany 44 = .ok (.bipush 48, 2) := by decide +kernel
theorem dX4_ofMany_46 : decode cX4_ofMany 46 = .ok (.lushr, 1) := by decide +kernel
theorem dX4_ofMany_47 : decode cX4_ofMany 47 = .ok (.ldc2_w 19, 3) := by decide +kernel
theorem dX4_ofMany_50 : decode cX4_ofMany 50 = .ok (.land, 1) := by decide +kernel
theorem dX4_ofMany_51 : decode cX4_ofMany 51 = .ok (.ldc2_w 43, 3) := by decide +kernel
theorem dX4_ofMany_54 : decode cX4_ofMany 54 = .ok (.lcmp, 1) := by decide +kernel
theorem dX4_ofMany_55 : decode cX4_ofMany 55 = .ok (.ifCond .ne 8, 3) := by decide +kernel
theorem dX4_ofMany_58 : decode cX4_ofMany 58 = .ok (.bipush 11, 2) := by decide +kernel
theorem dX4_ofMany_60 : decode cX4_ofMany 60 = .ok (.goto 5, 3) := by decide +kernel
theorem dX4_ofMany_63 : decode cX4_ofMany 63 = .ok (.bipush 10, 2) := by decide +kernel
theorem dX4_ofMany_65 : decode cX4_ofMany 65 = .ok (.ireturn, 1) := by decide +kernel
theorem dX5_firstFour_0 : decode cX5_firstFour 0 = .ok (.ldc2_w 9, 3) := by decide +kernel
theorem dX5_firstFour_3 : decode cX5_firstFour 3 = .ok (.iload_n 0, 1) := by decide +kernel
theorem dX5_firstFour_4 : decode cX5_firstFour 4 = .ok (.i2l, 1) := by decide +kernel
theorem dX5_firstFour_5 : decode cX5_firstFour 5 = .ok (.bipush 20, 2) := by decide +kernel
theorem dX5_firstFour_7 : decode cX5_firstFour 7 = .ok (.lshl, 1) := by decide +kernel
theorem dX5_firstFour_8 : decode cX5_firstFour 8 = .ok (.lor, 1) := by decide +kernel
theorem dX5_firstFour_9 : decode cX5_firstFour 9 = .ok (.iload_n 1, 1) := by decide +kernel
theorem dX5_firstFour_10 : decode cX5_firstFour 10 = .ok (.i2l, 1) := by decide +kernel
theorem dX5_firstFour_11 : decode cX5_firstFour 11 = .ok (.lor, 1) := by decide +kernel
theorem dX5_firstFour_12 : decode cX5_firstFour 12 = .ok (.lreturn, 1) := by decide +kernel
theorem dX5_isPacket_0 : decode cX5_isPacket 0 = .ok (.aload_n 0, 1) := by decide +kernel
theorem dX5_isPacket_1 : decode cX5_isPacket 1 = .ok (.invokevirtual 11, 3) := by decide +kernel
theorem dX5_isPacket_4 : decode cX5_isPacket 4 = .ok (.bipush 40, 2) := by decide +kernel
theorem dX5_isPacket_6 : decode cX5_isPacket 6 = .ok (.isub, 1) := by decide +kernel
theorem dX5_isPacket_7 : decode cX5_isPacket 7 = .ok (.istore_n 1, 1) := by decide +kernel
theorem dX5_isPacket_8 : decode cX5_isPacket 8 = .ok (.iload_n 1, 1) := by decide +kernel
theorem dX5_isPacket_9 : decode cX5_isPacket 9 = .ok (.ifCond .lt 38, 3) := by decide +kernel
theorem dX5_isPacket_12 : decode cX5_isPacket 12 = .ok (.iload_n 1, 1) := by decide +kernel
theorem dX5_isPacket_13 : decode cX5_isPacket 13 = .ok (.sipush 560, 3) := by decide +kernel
theorem dX5_isPacket_16 : decode cX5_isPacket 16 = .ok (.if_icmp .gt 31, 3) := by decide +kernel
theorem dX5_isPacket_19 : decode cX5_isPacket 19 = .ok (.aload_n 0, 1) := by decide +kernel
theorem dX5_isPacket_20 : decode cX5_isPacket 20 = .ok (.iconst 0, 1) := by decide +kernel
theorem dX5_isPacket_21 : decode cX5_isPacket 21 = .ok (.invokevirtual 17, 3) := by decide +kernel
theorem dX5_isPacket_24 : decode cX5_isPacket 24 = .ok (.iconst 4, 1) := by decide +kernel
theorem dX5_isPacket_25 : decode cX5_isPacket 25 = .ok (.ishr, 1) := by decide +kernel
theorem dX5_isPacket_26 : decode cX5_isPacket 26 = .ok (.bipush 6, 2) := by decide +kernel
theorem dX5_isPacket_28 : decode cX5_isPacket 28 = .ok (.if_icmp .ne 19, 3) := by decide +kernel
theorem dX5_isPacket_31 : decode cX5_isPacket 31 = .ok (.aload_n 0, 1) := by decide +kernel
theorem dX5_isPacket_32 : decode cX5_isPacket 32 = .ok (.iconst 4, 1) := by decide +kernel
theorem dX5_isPacket_33 : decode cX5_isPacket 33 = .ok (.iconst 2, 1) := by decide +kernel
theorem dX5_isPacket_34 : decode cX5_isPacket 34 = .ok (.invokevirtual 23, 3) := by decide +kernel
theorem dX5_isPacket_37 : decode cX5_isPacket 37 = .ok (.iload_n 1, 1) := by decide +kernel
theorem dX5_isPacket_38 : decode cX5_isPacket 38 = .ok (.i2l, 1) := by decide +kernel
theorem dX5_isPacket_39 : decode cX5_isPacket 39 = .ok (.lcmp, 1) := by decide +kernel
theorem dX5_isPacket_40 : decode cX5_isPacket 40 = .ok (.ifCond .ne 7, 3) := by decide +kernel
theorem dX5_isPacket_43 : decode cX5_isPacket 43 = .ok (.iconst 1, 1) := by decide +kernel
theorem dX5_isPacket_44 : decode cX5_isPacket 44 = .ok (.goto 4, 3) := by decide +kernel
theorem dX5_isPacket_47 : decode cX5_isPacket 47 = .ok (.iconst 0, 1) := by decide +kernel
theorem dX5_isPacket_48 : decode cX5_isPacket 48 = .ok (.ireturn, 1) := by decide +kernel
theorem dX5_hasPorts_0 : decode cX5_hasPorts 0 = .ok (.aload_n 0, 1) := by decide +kernel
theorem dX5_hasPorts_1 : decode cX5_hasPorts 1 = .ok (.invokevirtual 11, 3) := by decide +kernel
theorem dX5_hasPorts_4 : decode cX5_hasPorts 4 = .ok (.bipush 40, 2) := by decide +kernel
theorem dX5_hasPorts_6 : decode cX5_hasPorts 6 = .ok (.isub, 1) := by decide +kernel
theorem dX5_hasPorts_7 : decode cX5_hasPorts 7 = .ok (.istore_n 1, 1) := by decide +kernel
theorem dX5_hasPorts_8 : decode cX5_hasPorts 8 = .ok (.aload_n 0, 1) := by decide +kernel
theorem dX5_hasPorts_9 : decode cX5_hasPorts 9 = .ok (.bipush 6, 2) := by decide +kernel
theorem dX5_hasPorts_11 : decode cX5_hasPorts 11 = .ok (.invokevirtual 17, 3) := by decide +kernel
theorem dX5_hasPorts_14 : decode cX5_hasPorts 14 = .ok (.bipush 17, 2) := by decide +kernel
theorem dX5_hasPorts_16 : decode cX5_hasPorts 16 = .ok (.if_icmp .ne 26, 3) := by decide +kernel
theorem dX5_hasPorts_19 : decode cX5_hasPorts 19 = .ok (.iload_n 1, 1) := by decide +kernel
theorem dX5_hasPorts_20 : decode cX5_hasPorts 20 = .ok (.bipush 8, 2) := by decide +kernel
theorem dX5_hasPorts_22 : decode cX5_hasPorts 22 = .ok (.if_icmp .lt 20, 3) := by decide +kernel
theorem dX5_hasPorts_25 : decode cX5_hasPorts 25 = .ok (.aload_n 0, 1) := by decide +kernel
theorem dX5_hasPorts_26 : decode cX5_hasPorts 26 = .ok (.bipush 44, 2) := by decide +kernel
theorem dX5_hasPorts_28 : decode cX5_hasPorts 28 = .ok (.iconst 2, 1) := by decide +kernel
theorem dX5_hasPorts_29 : decode cX5_hasPorts 29 = .ok (.invokevirtual 23, 3) := by decide +kernel
theorem dX5_hasPorts_32 : decode cX5_hasPorts 32 = .ok (.iload_n 1, 1) := by decide +kernel
theorem dX5_hasPorts_33 : decode cX5_hasPorts 33 = .ok (.i2l, 1) := by decide +kernel
theorem dX5_hasPorts_34 : decode cX5_hasPorts 34 = .ok (.lcmp, 1) := by decide +kernel
theorem dX5_hasPorts_35 : decode cX5_hasPorts 35 = .ok (.ifCond .ne 7, 3) := by decide +kernel
theorem dX5_hasPorts_38 : decode cX5_hasPorts 38 = .ok (.iconst 1, 1) := by decide +kernel
theorem dX5_hasPorts_39 : decode cX5_hasPorts 39 = .ok (.goto 4, 3) := by decide +kernel
theorem dX5_hasPorts_42 : decode cX5_hasPorts 42 = .ok (.iconst 0, 1) := by decide +kernel
theorem dX5_hasPorts_43 : decode cX5_hasPorts 43 = .ok (.ireturn, 1) := by decide +kernel
theorem dX5_t_0 : decode cX5_t 0 = .ok (.aload_n 0, 1) := by decide +kernel
theorem dX5_t_1 : decode cX5_t 1 = .ok (.iconst 0, 1) := by decide +kernel
theorem dX5_t_2 : decode cX5_t 2 = .ok (.iconst 4, 1) := by decide +kernel
theorem dX5_t_3 : decode cX5_t 3 = .ok (.invokevirtual 23, 3) := by decide +kernel
theorem dX5_t_6 : decode cX5_t 6 = .ok (.bipush 20, 2) := by decide +kernel
theorem dX5_t_8 : decode cX5_t 8 = .ok (.lushr, 1) := by decide +kernel
theorem dX5_t_9 : decode cX5_t 9 = .ok (.ldc2_w 27, 3) := by decide +kernel
theorem dX5_t_12 : decode cX5_t 12 = .ok (.land, 1) := by decide +kernel
theorem dX5_t_13 : decode cX5_t 13 = .ok (.l2i, 1) := by decide +kernel
theorem dX5_t_14 : decode cX5_t 14 = .ok (.ireturn, 1) := by decide +kernel
theorem dX5_l_0 : decode cX5_l 0 = .ok (.aload_n 0, 1) := by decide +kernel
theorem dX5_l_1 : decode cX5_l 1 = .ok (.iconst 0, 1) := by decide +kernel
theorem dX5_l_2 : decode cX5_l 2 = .ok (.iconst 4, 1) := by decide +kernel
theorem dX5_l_3 : decode cX5_l 3 = .ok (.invokevirtual 23, 3) := by decide +kernel
theorem dX5_l_6 : decode cX5_l 6 = .ok (.ldc2_w 29, 3) := by decide +kernel
theorem dX5_l_9 : decode cX5_l 9 = .ok (.land, 1) := by decide +kernel
theorem dX5_l_10 : decode cX5_l 10 = .ok (.l2i, 1) := by decide +kernel
theorem dX5_l_11 : decode cX5_l 11 = .ok (.ireturn, 1) := by decide +kernel
theorem dX5_headOf_0 : decode cX5_headOf 0 = .ok (.aload_n 0, 1) := by decide +kernel
theorem dX5_headOf_1 : decode cX5_headOf 1 = .ok (.invokestatic 31, 3) := by decide +kernel
theorem dX5_headOf_4 : decode cX5_headOf 4 = .ok (.ifCond .eq 8, 3) := by decide +kernel
theorem dX5_headOf_7 : decode cX5_headOf 7 = .ok (.bipush 48, 2) := by decide +kernel
theorem dX5_headOf_9 : decode cX5_headOf 9 = .ok (.goto 5, 3) := by decide +kernel
theorem dX5_headOf_12 : decode cX5_headOf 12 = .ok (.bipush 40, 2) := by decide +kernel
theorem dX5_headOf_14 : decode cX5_headOf 14 = .ok (.ireturn, 1) := by decide +kernel
theorem dX6_init_0 : decode cX6_init 0 = .ok (.aload_n 0, 1) := by decide +kernel
theorem dX6_init_1 : decode cX6_init 1 = .ok (.invokespecial 3, 3) := by decide +kernel
theorem dX6_init_4 : decode cX6_init 4 = .ok (.aload_n 0, 1) := by decide +kernel
theorem dX6_init_5 : decode cX6_init 5 = .ok (.iconst 3, 1) := by decide +kernel
theorem dX6_init_6 : decode cX6_init 6 = .ok (.anewarray 11, 3) := by decide +kernel
theorem dX6_init_9 : decode cX6_init 9 = .ok (.putfield 13, 3) := by decide +kernel
theorem dX6_init_12 : decode cX6_init 12 = .ok (.aload_n 0, 1) := by decide +kernel
theorem dX6_init_13 : decode cX6_init 13 = .ok (.aload_n 1, 1) := by decide +kernel
theorem dX6_init_14 : decode cX6_init 14 = .ok (.putfield 17, 3) := by decide +kernel
theorem dX6_init_17 : decode cX6_init 17 = .ok (.iconst 0, 1) := by decide +kernel
theorem dX6_init_18 : decode cX6_init 18 = .ok (.istore_n 2, 1) := by decide +kernel
theorem dX6_init_19 : decode cX6_init 19 = .ok (.iload_n 2, 1) := by decide +kernel
theorem dX6_init_20 : decode cX6_init 20 = .ok (.iconst 3, 1) := by decide +kernel
theorem dX6_init_21 : decode cX6_init 21 = .ok (.if_icmp .ge 22, 3) := by decide +kernel
theorem dX6_init_24 : decode cX6_init 24 = .ok (.aload_n 0, 1) := by decide +kernel
theorem dX6_init_25 : decode cX6_init 25 = .ok (.getfield 13, 3) := by decide +kernel
theorem dX6_init_28 : decode cX6_init 28 = .ok (.iload_n 2, 1) := by decide +kernel
theorem dX6_init_29 : decode cX6_init 29 = .ok (.new 11, 3) := by decide +kernel
theorem dX6_init_32 : decode cX6_init 32 = .ok (.dup, 1) := by decide +kernel
theorem dX6_init_33 : decode cX6_init 33 = .ok (.invokespecial 21, 3) := by decide +kernel
theorem dX6_init_36 : decode cX6_init 36 = .ok (.aastore, 1) := by decide +kernel
theorem dX6_init_37 : decode cX6_init 37 = .ok (.iinc 2 1, 3) := by decide +kernel
theorem dX6_init_40 : decode cX6_init 40 = .ok (.goto (-21), 3) := by decide +kernel
theorem dX6_init_43 : decode cX6_init 43 = .ok (.return_, 1) := by decide +kernel
theorem dX6_heaps_0 : decode cX6_heaps 0 = .ok (.iconst 0, 1) := by decide +kernel
theorem dX6_heaps_1 : decode cX6_heaps 1 = .ok (.istore_n 1, 1) := by decide +kernel
theorem dX6_heaps_2 : decode cX6_heaps 2 = .ok (.iconst 0, 1) := by decide +kernel
theorem dX6_heaps_3 : decode cX6_heaps 3 = .ok (.istore_n 2, 1) := by decide +kernel
theorem dX6_heaps_4 : decode cX6_heaps 4 = .ok (.iload_n 2, 1) := by decide +kernel
theorem dX6_heaps_5 : decode cX6_heaps 5 = .ok (.iconst 3, 1) := by decide +kernel
theorem dX6_heaps_6 : decode cX6_heaps 6 = .ok (.if_icmp .ge 29, 3) := by decide +kernel
theorem dX6_heaps_9 : decode cX6_heaps 9 = .ok (.iload_n 1, 1) := by decide +kernel
theorem dX6_heaps_10 : decode cX6_heaps 10 = .ok (.aload_n 0, 1) := by decide +kernel
theorem dX6_heaps_11 : decode cX6_heaps 11 = .ok (.getfield 13, 3) := by decide +kernel
theorem dX6_heaps_14 : decode cX6_heaps 14 = .ok (.iload_n 2, 1) := by decide +kernel
theorem dX6_heaps_15 : decode cX6_heaps 15 = .ok (.aaload, 1) := by decide +kernel
theorem dX6_heaps_16 : decode cX6_heaps 16 = .ok (.invokevirtual 26, 3) := by decide +kernel
theorem dX6_heaps_19 : decode cX6_heaps 19 = .ok (.ifCond .eq 7, 3) := by decide +kernel
theorem dX6_heaps_22 : decode cX6_heaps 22 = .ok (.iconst 1, 1) := by decide +kernel
theorem dX6_heaps_23 : decode cX6_heaps 23 = .ok (.goto 4, 3) := by decide +kernel
theorem dX6_heaps_26 : decode cX6_heaps 26 = .ok (.iconst 0, 1) := by decide +kernel
theorem dX6_heaps_27 : decode cX6_heaps 27 = .ok (.iadd, 1) := by decide +kernel
theorem dX6_heaps_28 : decode cX6_heaps 28 = .ok (.istore_n 1, 1) := by decide +kernel
theorem dX6_heaps_29 : decode cX6_heaps 29 = .ok (.iinc 2 1, 3) := by decide +kernel
theorem dX6_heaps_32 : decode cX6_heaps 32 = .ok (.goto (-28), 3) := by decide +kernel
theorem dX6_heaps_35 : decode cX6_heaps 35 = .ok (.iload_n 1, 1) := by decide +kernel
theorem dX6_heaps_36 : decode cX6_heaps 36 = .ok (.ireturn, 1) := by decide +kernel
theorem dX6_parts_0 : decode cX6_parts 0 = .ok (.iconst 0, 1) := by decide +kernel
theorem dX6_parts_1 : decode cX6_parts 1 = .ok (.istore_n 1, 1) := by decide +kernel
theorem dX6_parts_2 : decode cX6_parts 2 = .ok (.iconst 0, 1) := by decide +kernel
theorem dX6_parts_3 : decode cX6_parts 3 = .ok (.istore_n 2, 1) := by decide +kernel
theorem dX6_parts_4 : decode cX6_parts 4 = .ok (.iload_n 2, 1) := by decide +kernel
theorem dX6_parts_5 : decode cX6_parts 5 = .ok (.iconst 3, 1) := by decide +kernel
theorem dX6_parts_6 : decode cX6_parts 6 = .ok (.if_icmp .ge 21, 3) := by decide +kernel
theorem dX6_parts_9 : decode cX6_parts 9 = .ok (.iload_n 1, 1) := by decide +kernel
theorem dX6_parts_10 : decode cX6_parts 10 = .ok (.aload_n 0, 1) := by decide +kernel
theorem dX6_parts_11 : decode cX6_parts 11 = .ok (.getfield 13, 3) := by decide +kernel
theorem dX6_parts_14 : decode cX6_parts 14 = .ok (.iload_n 2, 1) := by decide +kernel
theorem dX6_parts_15 : decode cX6_parts 15 = .ok (.aaload, 1) := by decide +kernel
theorem dX6_parts_16 : decode cX6_parts 16 = .ok (.invokevirtual 30, 3) := by decide +kernel
theorem dX6_parts_19 : decode cX6_parts 19 = .ok (.iadd, 1) := by decide +kernel
theorem dX6_parts_20 : decode cX6_parts 20 = .ok (.istore_n 1, 1) := by decide +kernel
theorem dX6_parts_21 : decode cX6_parts 21 = .ok (.iinc 2 1, 3) := by decide +kernel
theorem dX6_parts_24 : decode cX6_parts 24 = .ok (.goto (-20), 3) := by decide +kernel
theorem dX6_parts_27 : decode cX6_parts 27 = .ok (.iload_n 1, 1) := by decide +kernel
theorem dX6_parts_28 : decode cX6_parts 28 = .ok (.ireturn, 1) := by decide +kernel
theorem dX6_bytes_0 : decode cX6_bytes 0 = .ok (.iconst 0, 1) := by decide +kernel
theorem dX6_bytes_1 : decode cX6_bytes 1 = .ok (.istore_n 1, 1) := by decide +kernel
theorem dX6_bytes_2 : decode cX6_bytes 2 = .ok (.iconst 0, 1) := by decide +kernel
theorem dX6_bytes_3 : decode cX6_bytes 3 = .ok (.istore_n 2, 1) := by decide +kernel
theorem dX6_bytes_4 : decode cX6_bytes 4 = .ok (.iload_n 2, 1) := by decide +kernel
theorem dX6_bytes_5 : decode cX6_bytes 5 = .ok (.iconst 3, 1) := by decide +kernel
theorem dX6_bytes_6 : decode cX6_bytes 6 = .ok (.if_icmp .ge 21, 3) := by decide +kernel
theorem dX6_bytes_9 : decode cX6_bytes 9 = .ok (.iload_n 1, 1) := by decide +kernel
theorem dX6_bytes_10 : decode cX6_bytes 10 = .ok (.aload_n 0, 1) := by decide +kernel
theorem dX6_bytes_11 : decode cX6_bytes 11 = .ok (.getfield 13, 3) := by decide +kernel
theorem dX6_bytes_14 : decode cX6_bytes 14 = .ok (.iload_n 2, 1) := by decide +kernel
theorem dX6_bytes_15 : decode cX6_bytes 15 = .ok (.aaload, 1) := by decide +kernel
theorem dX6_bytes_16 : decode cX6_bytes 16 = .ok (.invokevirtual 34, 3) := by decide +kernel
theorem dX6_bytes_19 : decode cX6_bytes 19 = .ok (.iadd, 1) := by decide +kernel
theorem dX6_bytes_20 : decode cX6_bytes 20 = .ok (.istore_n 1, 1) := by decide +kernel
theorem dX6_bytes_21 : decode cX6_bytes 21 = .ok (.iinc 2 1, 3) := by decide +kernel
theorem dX6_bytes_24 : decode cX6_bytes 24 = .ok (.goto (-20), 3) := by decide +kernel
theorem dX6_bytes_27 : decode cX6_bytes 27 = .ok (.iload_n 1, 1) := by decide +kernel
theorem dX6_bytes_28 : decode cX6_bytes 28 = .ok (.ireturn, 1) := by decide +kernel
theorem dX6_listen_0 : decode cX6_listen 0 = .ok (.iconst 0, 1) := by decide +kernel
theorem dX6_listen_1 : decode cX6_listen 1 = .ok (.istore_n 3, 1) := by decide +kernel
theorem dX6_listen_2 : decode cX6_listen 2 = .ok (.aload_n 1, 1) := by decide +kernel
theorem dX6_listen_3 : decode cX6_listen 3 = .ok (.iconst 0, 1) := by decide +kernel
theorem dX6_listen_4 : decode cX6_listen 4 = .ok (.invokevirtual 37, 3) := by decide +kernel
theorem dX6_listen_7 : decode cX6_listen 7 = .ok (.istore 4, 2) := by decide +kernel
theorem dX6_listen_9 : decode cX6_listen 9 = .ok (.iload 4, 2) := by decide +kernel
theorem dX6_listen_11 : decode cX6_listen 11 = .ok (.iconst 5, 1) := by decide +kernel
theorem dX6_listen_12 : decode cX6_listen 12 = .ok (.ishr, 1) := by decide +kernel
theorem dX6_listen_13 : decode cX6_listen 13 = .ok (.iconst 3, 1) := by decide +kernel
theorem dX6_listen_14 : decode cX6_listen 14 = .ok (.if_icmp .ne 13, 3) := by decide +kernel
theorem dX6_listen_17 : decode cX6_listen 17 = .ok (.aload_n 0, 1) := by decide +kernel
theorem dX6_listen_18 : decode cX6_listen 18 = .ok (.aload_n 1, 1) := by decide +kernel
theorem dX6_listen_19 : decode cX6_listen 19 = .ok (.aload_n 2, 1) := by decide +kernel
theorem dX6_listen_20 : decode cX6_listen 20 = .ok (.invokevirtual 43, 3) := by decide +kernel
theorem dX6_listen_23 : decode cX6_listen 23 = .ok (.istore_n 3, 1) := by decide +kernel
theorem dX6_listen_24 : decode cX6_listen 24 = .ok (.goto 65, 3) := by decide +kernel
theorem dX6_listen_27 : decode cX6_listen 27 = .ok (.iload 4, 2) := by decide +kernel
theorem dX6_listen_29 : decode cX6_listen 29 = .ok (.iconst 3, 1) := by decide +kernel
theorem dX6_listen_30 : decode cX6_listen 30 = .ok (.ishr, 1) := by decide +kernel
theorem dX6_listen_31 : decode cX6_listen 31 = .ok (.bipush 24, 2) := by decide +kernel
theorem dX6_listen_33 : decode cX6_listen 33 = .ok (.if_icmp .ne 21, 3) := by decide +kernel
theorem dX6_listen_36 : decode cX6_listen 36 = .ok (.aload_n 1, 1) := by decide +kernel
theorem dX6_listen_37 : decode cX6_listen 37 = .ok (.invokevirtual 47, 3) := by decide +kernel
theorem dX6_listen_40 : decode cX6_listen 40 = .ok (.iconst 5, 1) := by decide +kernel
theorem dX6_listen_41 : decode cX6_listen 41 = .ok (.if_icmp .lt 13, 3) := by decide +kernel
theorem dX6_listen_44 : decode cX6_listen 44 = .ok (.aload_n 0, 1) := by decide +kernel
theorem dX6_listen_45 : decode cX6_listen 45 = .ok (.aload_n 1, 1) := by decide +kernel
theorem dX6_listen_46 : decode cX6_listen 46 = .ok (.aload_n 2, 1) := by decide +kernel
theorem dX6_listen_47 : decode cX6_listen 47 = .ok (.invokevirtual 50, 3) := by decide +kernel
theorem dX6_listen_50 : decode cX6_listen 50 = .ok (.istore_n 3, 1) := by decide +kernel
theorem dX6_listen_51 : decode cX6_listen 51 = .ok (.goto 38, 3) := by decide +kernel
theorem dX6_listen_54 : decode cX6_listen 54 = .ok (.iload 4, 2) := by decide +kernel
theorem dX6_listen_56 : decode cX6_listen 56 = .ok (.iconst 3, 1) := by decide +kernel
theorem dX6_listen_57 : decode cX6_listen 57 = .ok (.ishr, 1) := by decide +kernel
theorem dX6_listen_58 : decode cX6_listen 58 = .ok (.bipush 28, 2) := by decide +kernel
theorem dX6_listen_60 : decode cX6_listen 60 = .ok (.if_icmp .ne 29, 3) := by decide +kernel
theorem dX6_listen_63 : decode cX6_listen 63 = .ok (.aload_n 1, 1) := by decide +kernel
theorem dX6_listen_64 : decode cX6_listen 64 = .ok (.invokevirtual 47, 3) := by decide +kernel
theorem dX6_listen_67 : decode cX6_listen 67 = .ok (.bipush 6, 2) := by decide +kernel
theorem dX6_listen_69 : decode cX6_listen 69 = .ok (.if_icmp .lt 20, 3) := by decide +kernel
theorem dX6_listen_72 : decode cX6_listen 72 = .ok (.aload_n 0, 1) := by decide +kernel
theorem dX6_listen_73 : decode cX6_listen 73 = .ok (.aload_n 1, 1) := by decide +kernel
theorem dX6_listen_74 : decode cX6_listen 74 = .ok (.bipush 8, 2) := by decide +kernel
theorem dX6_listen_76 : decode cX6_listen 76 = .ok (.aload_n 1, 1) := by decide +kernel
theorem dX6_listen_77 : decode cX6_listen 77 = .ok (.iconst 4, 1) := by decide +kernel
theorem dX6_listen_78 : decode cX6_listen 78 = .ok (.invokevirtual 37, 3) := by decide +kernel
theorem dX6_listen_81 : decode cX6_listen 81 = .ok (.imul, 1) := by decide +kernel
theorem dX6_listen_82 : decode cX6_listen 82 = .ok (.aload_n 1, 1) := by decide +kernel
theorem dX6_listen_83 : decode cX6_listen 83 = .ok (.iconst 5, 1) := by decide +kernel
theorem dX6_listen_84 : decode cX6_listen 84 = .ok (.aload_n 2, 1) := by decide +kernel
theorem dX6_listen_85 : decode cX6_listen 85 = .ok (.invokevirtual 53, 3) := by decide +kernel
theorem dX6_listen_88 : decode cX6_listen 88 = .ok (.istore_n 3, 1) := by decide +kernel
theorem dX6_listen_89 : decode cX6_listen 89 = .ok (.iload_n 3, 1) := by decide +kernel
theorem dX6_listen_90 : decode cX6_listen 90 = .ok (.iconst 2, 1) := by decide +kernel
theorem dX6_listen_91 : decode cX6_listen 91 = .ok (.if_icmp .ne 16, 3) := by decide +kernel
theorem dX6_listen_94 : decode cX6_listen 94 = .ok (.aload_n 0, 1) := by decide +kernel
theorem dX6_listen_95 : decode cX6_listen 95 = .ok (.dup, 1) := by decide +kernel
theorem dX6_listen_96 : decode cX6_listen 96 = .ok (.getfield 57, 3) := by decide +kernel
theorem dX6_listen_99 : decode cX6_listen 99 = .ok (.iconst 1, 1) := by decide +kernel
theorem dX6_listen_100 : decode cX6_listen 100 = .ok (.iadd, 1) := by decide +kernel
theorem dX6_listen_101 : decode cX6_listen 101 = .ok (.putfield 57, 3) := by decide +kernel
theorem dX6_listen_104 : decode cX6_listen 104 = .ok (.goto 17, 3) := by decide +kernel
theorem dX6_listen_107 : decode cX6_listen 107 = .ok (.iload_n 3, 1) := by decide +kernel
theorem dX6_listen_108 : decode cX6_listen 108 = .ok (.ifCond .ne 13, 3) := by decide +kernel
theorem dX6_listen_111 : decode cX6_listen 111 = .ok (.aload_n 0, 1) := by decide +kernel
theorem dX6_listen_112 : decode cX6_listen 112 = .ok (.dup, 1) := by decide +kernel
theorem dX6_listen_113 : decode cX6_listen 113 = .ok (.getfield 60, 3) := by decide +kernel
theorem dX6_listen_116 : decode cX6_listen 116 = .ok (.iconst 1, 1) := by decide +kernel
theorem dX6_listen_117 : decode cX6_listen 117 = .ok (.iadd, 1) := by decide +kernel
theorem dX6_listen_118 : decode cX6_listen 118 = .ok (.putfield 60, 3) := by decide +kernel
theorem dX6_listen_121 : decode cX6_listen 121 = .ok (.iload_n 3, 1) := by decide +kernel
theorem dX6_listen_122 : decode cX6_listen 122 = .ok (.ireturn, 1) := by decide +kernel
theorem dX6_hearsAll_0 : decode cX6_hearsAll 0 = .ok (.aload_n 0, 1) := by decide +kernel
theorem dX6_hearsAll_1 : decode cX6_hearsAll 1 = .ok (.getfield 17, 3) := by decide +kernel
theorem dX6_hearsAll_4 : decode cX6_hearsAll 4 = .ok (.aload_n 1, 1) := by decide +kernel
theorem dX6_hearsAll_5 : decode cX6_hearsAll 5 = .ok (.iconst 0, 1) := by decide +kernel
theorem dX6_hearsAll_6 : decode cX6_hearsAll 6 = .ok (.iconst (-1), 1) := by decide +kernel
theorem dX6_hearsAll_7 : decode cX6_hearsAll 7 = .ok (.invokevirtual 65, 3) := by decide +kernel
theorem dX6_hearsAll_10 : decode cX6_hearsAll 10 = .ok (.ifCond .ne 5, 3) := by decide +kernel
theorem dX6_hearsAll_13 : decode cX6_hearsAll 13 = .ok (.iconst 0, 1) := by decide +kernel
theorem dX6_hearsAll_14 : decode cX6_hearsAll 14 = .ok (.ireturn, 1) := by decide +kernel
theorem dX6_hearsAll_15 : decode cX6_hearsAll 15 = .ok (.aload_n 2, 1) := by decide +kernel
theorem dX6_hearsAll_16 : decode cX6_hearsAll 16 = .ok (.aload_n 0, 1) := by decide +kernel
theorem dX6_hearsAll_17 : decode cX6_hearsAll 17 = .ok (.getfield 17, 3) := by decide +kernel
theorem dX6_hearsAll_20 : decode cX6_hearsAll 20 = .ok (.invokevirtual 69, 3) := by decide +kernel
theorem dX6_hearsAll_23 : decode cX6_hearsAll 23 = .ok (.invokevirtual 73, 3) := by decide +kernel
theorem dX6_hearsAll_26 : decode cX6_hearsAll 26 = .ok (.iconst 2, 1) := by decide +kernel
theorem dX6_hearsAll_27 : decode cX6_hearsAll 27 = .ok (.ireturn, 1) := by decide +kernel
theorem dX6_hearsFirst_0 : decode cX6_hearsFirst 0 = .ok (.aload_n 1, 1) := by decide +kernel
theorem dX6_hearsFirst_1 : decode cX6_hearsFirst 1 = .ok (.invokestatic 77, 3) := by decide +kernel
theorem dX6_hearsFirst_4 : decode cX6_hearsFirst 4 = .ok (.istore_n 3, 1) := by decide +kernel
theorem dX6_hearsFirst_5 : decode cX6_hearsFirst 5 = .ok (.iload_n 3, 1) := by decide +kernel
theorem dX6_hearsFirst_6 : decode cX6_hearsFirst 6 = .ok (.bipush 40, 2) := by decide +kernel
theorem dX6_hearsFirst_8 : decode cX6_hearsFirst 8 = .ok (.if_icmp .lt 19, 3) := by decide +kernel
theorem dX6_hearsFirst_11 : decode cX6_hearsFirst 11 = .ok (.aload_n 0, 1) := by decide +kernel
theorem dX6_hearsFirst_12 : decode cX6_hearsFirst 12 = .ok (.getfield 17, 3) := by decide +kernel
theorem dX6_hearsFirst_15 : decode cX6_hearsFirst 15 = .ok (.aload_n 1, 1) := by decide +kernel
theorem dX6_hearsFirst_16 : decode cX6_hearsFirst 16 = .ok (.iconst 4, 1) := by decide +kernel
theorem dX6_hearsFirst_17 : decode cX6_hearsFirst 17 = .ok (.iload_n 3, 1) := by decide +kernel
theorem dX6_hearsFirst_18 : decode cX6_hearsFirst 18 = .ok (.bipush 40, 2) := by decide +kernel
theorem dX6_hearsFirst_20 : decode cX6_hearsFirst 20 = .ok (.isub, 1) := by decide +kernel
theorem dX6_hearsFirst_21 : decode cX6_hearsFirst 21 = .ok (.invokevirtual 65, 3) := by decide +kernel
theorem dX6_hearsFirst_24 : decode cX6_hearsFirst 24 = .ok (.ifCond .ne 5, 3) := by decide +kernel
theorem dX6_hearsFirst_27 : decode cX6_hearsFirst 27 = .ok (.iconst 0, 1) := by decide +kernel
theorem dX6_hearsFirst_28 : decode cX6_hearsFirst 28 = .ok (.ireturn, 1) := by decide +kernel
theorem dX6_hearsFirst_29 : decode cX6_hearsFirst 29 = .ok (.aload_n 0, 1) := by decide +kernel
theorem dX6_hearsFirst_30 : decode cX6_hearsFirst 30 = .ok (.aload_n 1, 1) := by decide +kernel
theorem dX6_hearsFirst_31 : decode cX6_hearsFirst 31 = .ok (.iconst 0, 1) := by decide +kernel
theorem dX6_hearsFirst_32 : decode cX6_hearsFirst 32 = .ok (.aload_n 0, 1) := by decide +kernel
theorem dX6_hearsFirst_33 : decode cX6_hearsFirst 33 = .ok (.getfield 17, 3) := by decide +kernel
theorem dX6_hearsFirst_36 : decode cX6_hearsFirst 36 = .ok (.invokevirtual 69, 3) := by decide +kernel
theorem dX6_hearsFirst_39 : decode cX6_hearsFirst 39 = .ok (.iconst 0, 1) := by decide +kernel
theorem dX6_hearsFirst_40 : decode cX6_hearsFirst 40 = .ok (.aload_n 2, 1) := by decide +kernel
theorem dX6_hearsFirst_41 : decode cX6_hearsFirst 41 = .ok (.invokevirtual 53, 3) := by decide +kernel
theorem dX6_hearsFirst_44 : decode cX6_hearsFirst 44 = .ok (.ireturn, 1) := by decide +kernel
theorem dX6_hearsPart_0 : decode cX6_hearsPart 0 = .ok (.aload_n 1, 1) := by decide +kernel
theorem dX6_hearsPart_1 : decode cX6_hearsPart 1 = .ok (.invokestatic 77, 3) := by decide +kernel
theorem dX6_hearsPart_4 : decode cX6_hearsPart 4 = .ok (.istore 6, 2) := by decide +kernel
theorem dX6_hearsPart_6 : decode cX6_hearsPart 6 = .ok (.aload_n 1, 1) := by decide +kernel
theorem dX6_hearsPart_7 : decode cX6_hearsPart 7 = .ok (.iconst 2, 1) := by decide +kernel
theorem dX6_hearsPart_8 : decode cX6_hearsPart 8 = .ok (.iconst 2, 1) := by decide +kernel
theorem dX6_hearsPart_9 : decode cX6_hearsPart 9 = .ok (.invokevirtual 81, 3) := by decide +kernel
theorem dX6_hearsPart_12 : decode cX6_hearsPart 12 = .ok (.l2i, 1) := by decide +kernel
theorem dX6_hearsPart_13 : decode cX6_hearsPart 13 = .ok (.istore 7, 2) := by decide +kernel
theorem dX6_hearsPart_15 : decode cX6_hearsPart 15 = .ok (.aload_n 3, 1) := by decide +kernel
theorem dX6_hearsPart_16 : decode cX6_hearsPart 16 = .ok (.invokevirtual 47, 3) := by decide +kernel
theorem dX6_hearsPart_19 : decode cX6_hearsPart 19 = .ok (.iload 4, 2) := by decide +kernel
theorem dX6_hearsPart_21 : decode cX6_hearsPart 21 = .ok (.isub, 1) := by decide +kernel
theorem dX6_hearsPart_22 : decode cX6_hearsPart 22 = .ok (.istore 8, 2) := by decide +kernel
theorem dX6_hearsPart_24 : decode cX6_hearsPart 24 = .ok (.iload_n 2, 1) := by decide +kernel
theorem dX6_hearsPart_25 : decode cX6_hearsPart 25 = .ok (.iload 8, 2) := by decide +kernel
theorem dX6_hearsPart_27 : decode cX6_hearsPart 27 = .ok (.iadd, 1) := by decide +kernel
theorem dX6_hearsPart_28 : decode cX6_hearsPart 28 = .ok (.istore 9, 2) := by decide +kernel
theorem dX6_hearsPart_30 : decode cX6_hearsPart 30 = .ok (.iload 6, 2) := by decide +kernel
theorem dX6_hearsPart_32 : decode cX6_hearsPart 32 = .ok (.bipush 40, 2) := by decide +kernel
theorem dX6_hearsPart_34 : decode cX6_hearsPart 34 = .ok (.if_icmp .lt 33, 3) := by decide +kernel
theorem dX6_hearsPart_37 : decode cX6_hearsPart 37 = .ok (.iload 6, 2) := by decide +kernel
theorem dX6_hearsPart_39 : decode cX6_hearsPart 39 = .ok (.sipush 600, 3) := by decide +kernel
theorem dX6_hearsPart_42 : decode cX6_hearsPart 42 = .ok (.if_icmp .gt 25, 3) := by decide +kernel
theorem dX6_hearsPart_45 : decode cX6_hearsPart 45 = .ok (.iload 9, 2) := by decide +kernel
theorem dX6_hearsPart_47 : decode cX6_hearsPart 47 = .ok (.iload 6, 2) := by decide +kernel
theorem dX6_hearsPart_49 : decode cX6_hearsPart 49 = .ok (.if_icmp .gt 18, 3) := by decide +kernel
theorem dX6_hearsPart_52 : decode cX6_hearsPart 52 = .ok (.iload 9, 2) := by decide +kernel
theorem dX6_hearsPart_54 : decode cX6_hearsPart 54 = .ok (.bipush 8, 2) := by decide +kernel
theorem dX6_hearsPart_56 : decode cX6_hearsPart 56 = .ok (.irem, 1) := by decide +kernel
theorem dX6_hearsPart_57 : decode cX6_hearsPart 57 = .ok (.ifCond .eq 12, 3) := by decide +kernel
theorem dX6_hearsPart_60 : decode cX6_hearsPart 60 = .ok (.iload 9, 2) := by decide +kernel
theorem dX6_hearsPart_62 : decode cX6_hearsPart 62 = .ok (.iload 6, 2) := by decide +kernel
theorem dX6_hearsPart_64 : decode cX6_hearsPart 64 = .ok (.if_icmp .eq 5, 3) := by decide +kernel
theorem dX6_hearsPart_67 : decode cX6_hearsPart 67 = .ok (.iconst 0, 1) := by decide +kernel
theorem dX6_hearsPart_68 : decode cX6_hearsPart 68 = .ok (.ireturn, 1) := by decide +kernel
theorem dX6_hearsPart_69 : decode cX6_hearsPart 69 = .ok (.aload_n 0, 1) := by decide +kernel
theorem dX6_hearsPart_70 : decode cX6_hearsPart 70 = .ok (.invokevirtual 85, 3) := by decide +kernel
theorem dX6_hearsPart_73 : decode cX6_hearsPart 73 = .ok (.aload_n 0, 1) := by decide +kernel
theorem dX6_hearsPart_74 : decode cX6_hearsPart 74 = .ok (.getfield 13, 3) := by decide +kernel
theorem dX6_hearsPart_77 : decode cX6_hearsPart 77 = .ok (.aload_n 0, 1) := by decide +kernel
theorem dX6_hearsPart_78 : decode cX6_hearsPart 78 = .ok (.iload 6, 2) := by decide +kernel
theorem dX6_hearsPart_80 : decode cX6_hearsPart 80 = .ok (.iload 7, 2) := by decide +kernel
theorem dX6_hearsPart_82 : decode cX6_hearsPart 82 = .ok (.invokevirtual 88, 3) := by decide +kernel
theorem dX6_hearsPart_85 : decode cX6_hearsPart 85 = .ok (.aaload, 1) := by decide +kernel
theorem dX6_hearsPart_86 : decode cX6_hearsPart 86 = .ok (.astore 10, 2) := by decide +kernel
theorem dX6_hearsPart_88 : decode cX6_hearsPart 88 = .ok (.aload 10, 2) := by decide +kernel
theorem dX6_hearsPart_90 : decode cX6_hearsPart 90 = .ok (.iload 6, 2) := by decide +kernel
theorem dX6_hearsPart_92 : decode cX6_hearsPart 92 = .ok (.iload 7, 2) := by decide +kernel
theorem dX6_hearsPart_94 : decode cX6_hearsPart 94 = .ok (.invokevirtual 92, 3) := by decide +kernel
theorem dX6_hearsPart_97 : decode cX6_hearsPart 97 = .ok (.ifCond .ne 29, 3) := by decide +kernel
theorem dX6_hearsPart_100 : decode cX6_hearsPart 100 = .ok (.aload 10, 2) := by decide +kernel
theorem dX6_hearsPart_102 : decode cX6_hearsPart 102 = .ok (.invokevirtual 26, 3) := by decide +kernel
theorem dX6_hearsPart_105 : decode cX6_hearsPart 105 = .ok (.ifCond .eq 5, 3) := by decide +kernel
theorem dX6_hearsPart_108 : decode cX6_hearsPart 108 = .ok (.iconst 0, 1) := by decide +kernel
theorem dX6_hearsPart_109 : decode cX6_hearsPart 109 = .ok (.ireturn, 1) := by decide +kernel
theorem dX6_hearsPart_110 : decode cX6_hearsPart 110 = .ok (.aload 10, 2) := by decide +kernel
theorem dX6_hearsPart_112 : decode cX6_hearsPart 112 = .ok (.iload 6, 2) := by decide +kernel
theorem dX6_hearsPart_114 : decode cX6_hearsPart 114 = .ok (.iload 7, 2) := by decide +kernel
theorem dX6_hearsPart_116 : decode cX6_hearsPart 116 = .ok (.aload_n 0, 1) := by decide +kernel
theorem dX6_hearsPart_117 : decode cX6_hearsPart 117 = .ok (.getfield 22, 3) := by decide +kernel
theorem dX6_hearsPart_120 : decode cX6_hearsPart 120 = .ok (.invokevirtual 96, 3) := by decide +kernel
theorem dX6_hearsPart_123 : decode cX6_hearsPart 123 = .ok (.goto 50, 3) := by decide +kernel
theorem dX6_hearsPart_126 : decode cX6_hearsPart 126 = .ok (.aload 10, 2) := by decide +kernel
theorem dX6_hearsPart_128 : decode cX6_hearsPart 128 = .ok (.iload_n 2, 1) := by decide +kernel
theorem dX6_hearsPart_129 : decode cX6_hearsPart 129 = .ok (.iload 8, 2) := by decide +kernel
theorem dX6_hearsPart_131 : decode cX6_hearsPart 131 = .ok (.invokevirtual 100, 3) := by decide +kernel
theorem dX6_hearsPart_134 : decode cX6_hearsPart 134 = .ok (.ifCond .eq 5, 3) := by decide +kernel
theorem dX6_hearsPart_137 : decode cX6_hearsPart 137 = .ok (.iconst 0, 1) := by decide +kernel
theorem dX6_hearsPart_138 : decode cX6_hearsPart 138 = .ok (.ireturn, 1) := by decide +kernel
theorem dX6_hearsPart_139 : decode cX6_hearsPart 139 = .ok (.aload 10, 2) := by decide +kernel
theorem dX6_hearsPart_141 : decode cX6_hearsPart 141 = .ok (.iload_n 2, 1) := by decide +kernel
theorem dX6_hearsPart_142 : decode cX6_hearsPart 142 = .ok (.iload 8, 2) := by decide +kernel
theorem dX6_hearsPart_144 : decode cX6_hearsPart 144 = .ok (.invokevirtual 103, 3) := by decide +kernel
theorem dX6_hearsPart_147 : decode cX6_hearsPart 147 = .ok (.ifCond .eq 26, 3) := by decide +kernel
theorem dX6_hearsPart_150 : decode cX6_hearsPart 150 = .ok (.aload 10, 2) := by decide +kernel
theorem dX6_hearsPart_152 : decode cX6_hearsPart 152 = .ok (.iload 6, 2) := by decide +kernel
theorem dX6_hearsPart_154 : decode cX6_hearsPart 154 = .ok (.iload 7, 2) := by decide +kernel
theorem dX6_hearsPart_156 : decode cX6_hearsPart 156 = .ok (.aload_n 0, 1) := by decide +kernel
theorem dX6_hearsPart_157 : decode cX6_hearsPart 157 = .ok (.getfield 22, 3) := by decide +kernel
theorem dX6_hearsPart_160 : decode cX6_hearsPart 160 = .ok (.invokevirtual 96, 3) := by decide +kernel
theorem dX6_hearsPart_163 : decode cX6_hearsPart 163 = .ok (.aload_n 0, 1) := by decide +kernel
theorem dX6_hearsPart_164 : decode cX6_hearsPart 164 = .ok (.dup, 1) := by decide +kernel
theorem dX6_hearsPart_165 : decode cX6_hearsPart 165 = .ok (.getfield 106, 3) := by decide +kernel
theorem dX6_hearsPart_168 : decode cX6_hearsPart 168 = .ok (.iconst 1, 1) := by decide +kernel
theorem dX6_hearsPart_169 : decode cX6_hearsPart 169 = .ok (.iadd, 1) := by decide +kernel
theorem dX6_hearsPart_170 : decode cX6_hearsPart 170 = .ok (.putfield 106, 3) := by decide +kernel
theorem dX6_hearsPart_173 : decode cX6_hearsPart 173 = .ok (.aload 10, 2) := by decide +kernel
theorem dX6_hearsPart_175 : decode cX6_hearsPart 175 = .ok (.iload_n 2, 1) := by decide +kernel
theorem dX6_hearsPart_176 : decode cX6_hearsPart 176 = .ok (.aload_n 3, 1) := by decide +kernel
theorem dX6_hearsPart_177 : decode cX6_hearsPart 177 = .ok (.iload 4, 2) := by decide +kernel
theorem dX6_hearsPart_179 : decode cX6_hearsPart 179 = .ok (.invokevirtual 109, 3) := by decide +kernel
theorem dX6_hearsPart_182 : decode cX6_hearsPart 182 = .ok (.aload 10, 2) := by decide +kernel
theorem dX6_hearsPart_184 : decode cX6_hearsPart 184 = .ok (.invokevirtual 113, 3) := by decide +kernel
theorem dX6_hearsPart_187 : decode cX6_hearsPart 187 = .ok (.ifCond .ne 5, 3) := by decide +kernel
theorem dX6_hearsPart_190 : decode cX6_hearsPart 190 = .ok (.iconst 1, 1) := by decide +kernel
theorem dX6_hearsPart_191 : decode cX6_hearsPart 191 = .ok (.ireturn, 1) := by decide +kernel
theorem dX6_hearsPart_192 : decode cX6_hearsPart 192 = .ok (.aload 5, 2) := by decide +kernel
theorem dX6_hearsPart_194 : decode cX6_hearsPart 194 = .ok (.aload 10, 2) := by decide +kernel
theorem dX6_hearsPart_196 : decode cX6_hearsPart 196 = .ok (.invokevirtual 116, 3) := by decide +kernel
theorem dX6_hearsPart_199 : decode cX6_hearsPart 199 = .ok (.invokevirtual 73, 3) := by decide +kernel
theorem dX6_hearsPart_202 : decode cX6_hearsPart 202 = .ok (.aload 10, 2) := by decide +kernel
theorem dX6_hearsPart_204 : decode cX6_hearsPart 204 = .ok (.invokevirtual 119, 3) := by decide +kernel
theorem dX6_hearsPart_207 : decode cX6_hearsPart 207 = .ok (.iconst 2, 1) := by decide +kernel
theorem dX6_hearsPart_208 : decode cX6_hearsPart 208 = .ok (.ireturn, 1) := by decide +kernel
theorem dX6_zOf_0 : decode cX6_zOf 0 = .ok (.aload_n 0, 1) := by decide +kernel
theorem dX6_zOf_1 : decode cX6_zOf 1 = .ok (.iconst 0, 1) := by decide +kernel
theorem dX6_zOf_2 : decode cX6_zOf 2 = .ok (.iconst 2, 1) := by decide +kernel
theorem dX6_zOf_3 : decode cX6_zOf 3 = .ok (.invokevirtual 81, 3) := by decide +kernel
theorem dX6_zOf_6 : decode cX6_zOf 6 = .ok (.l2i, 1) := by decide +kernel
theorem dX6_zOf_7 : decode cX6_zOf 7 = .ok (.sipush 2047, 3) := by decide +kernel
theorem dX6_zOf_10 : decode cX6_zOf 10 = .ok (.iand, 1) := by decide +kernel
theorem dX6_zOf_11 : decode cX6_zOf 11 = .ok (.ireturn, 1) := by decide +kernel
theorem dX6_dropLateHeaps_0 : decode cX6_dropLateHeaps 0 = .ok (.iconst 0, 1) := by decide +kernel
theorem dX6_dropLateHeaps_1 : decode cX6_dropLateHeaps 1 = .ok (.istore_n 1, 1) := by decide +kernel
theorem dX6_dropLateHeaps_2 : decode cX6_dropLateHeaps 2 = .ok (.iload_n 1, 1) := by decide +kernel
theorem dX6_dropLateHeaps_3 : decode cX6_dropLateHeaps 3 = .ok (.iconst 3, 1) := by decide +kernel
theorem dX6_dropLateHeaps_4 : decode cX6_dropLateHeaps 4 = .ok (.if_icmp .ge 47, 3) := by decide +kernel
theorem dX6_dropLateHeaps_7 : decode cX6_dropLateHeaps 7 = .ok (.aload_n 0, 1) := by decide +kernel
theorem dX6_dropLateHeaps_8 : decode cX6_dropLateHeaps 8 = .ok (.getfield 13, 3) := by decide +kernel
theorem dX6_dropLateHeaps_11 : decode cX6_dropLateHeaps 11 = .ok (.iload_n 1, 1) := by decide +kernel
theorem dX6_dropLateHeaps_12 : decode cX6_dropLateHeaps 12 = .ok (.aaload, 1) := by decide +kernel
theorem dX6_dropLateHeaps_13 : decode cX6_dropLateHeaps 13 = .ok (.aload_n 0, 1) := by decide +kernel
theorem dX6_dropLateHeaps_14 : decode cX6_dropLateHeaps 14 = .ok (.getfield 22, 3) := by decide +kernel
theorem dX6_dropLateHeaps_17 : decode cX6_dropLateHeaps 17 = .ok (.bipush 60, 2) := by decide +kernel
theorem dX6_dropLateHeaps_19 : decode cX6_dropLateHeaps 19 = .ok (.isub, 1) := by decide +kernel
theorem dX6_dropLateHeaps_20 : decode cX6_dropLateHeaps 20 = .ok (.invokevirtual 122, 3) := by decide +kernel
theorem dX6_dropLateHeaps_23 : decode cX6_dropLateHeaps 23 = .ok (.ifCond .eq 22, 3) := by decide +kernel
theorem dX6_dropLateHeaps_26 : decode cX6_dropLateHeaps 26 = .ok (.aload_n 0, 1) := by decide +kernel
theorem dX6_dropLateHeaps_27 : decode cX6_dropLateHeaps 27 = .ok (.getfield 13, 3) := by decide +kernel
theorem dX6_dropLateHeaps_30 : decode cX6_dropLateHeaps 30 = .ok (.iload_n 1, 1) := by decide +kernel
theorem dX6_dropLateHeaps_31 : decode cX6_dropLateHeaps 31 = .ok (.aaload, 1) := by decide +kernel
theorem dX6_dropLateHeaps_32 : decode cX6_dropLateHeaps 32 = .ok (.invokevirtual 119, 3) := by decide +kernel
theorem dX6_dropLateHeaps_35 : decode cX6_dropLateHeaps 35 = .ok (.aload_n 0, 1) := by decide +kernel
theorem dX6_dropLateHeaps_36 : decode cX6_dropLateHeaps 36 = .ok (.dup, 1) := by decide +kernel
theorem dX6_dropLateHeaps_37 : decode cX6_dropLateHeaps 37 = .ok (.getfield 126, 3) := by decide +kernel
theorem dX6_dropLateHeaps_40 : decode cX6_dropLateHeaps 40 = .ok (.iconst 1, 1) := by decide +kernel
theorem dX6_dropLateHeaps_41 : decode cX6_dropLateHeaps 41 = .ok (.iadd, 1) := by decide +kernel
theorem dX6_dropLateHeaps_42 : decode cX6_dropLateHeaps 42 = .ok (.putfield 126, 3) := by decide +kernel
theorem dX6_dropLateHeaps_45 : decode cX6_dropLateHeaps 45 = .ok (.iinc 1 1, 3) := by decide +kernel
theorem dX6_dropLateHeaps_48 : decode cX6_dropLateHeaps 48 = .ok (.goto (-46), 3) := by decide +kernel
theorem dX6_dropLateHeaps_51 : decode cX6_dropLateHeaps 51 = .ok (.return_, 1) := by decide +kernel
theorem dX6_indexFor_0 : decode cX6_indexFor 0 = .ok (.iconst 0, 1) := by decide +kernel
theorem dX6_indexFor_1 : decode cX6_indexFor 1 = .ok (.istore_n 3, 1) := by decide +kernel
theorem dX6_indexFor_2 : decode cX6_indexFor 2 = .ok (.iconst 0, 1) := by decide +kernel
theorem dX6_indexFor_3 : decode cX6_indexFor 3 = .ok (.istore 4, 2) := by decide +kernel
theorem dX6_indexFor_5 : decode cX6_indexFor 5 = .ok (.iload 4, 2) := by decide +kernel
theorem dX6_indexFor_7 : decode cX6_indexFor 7 = .ok (.iconst 3, 1) := by decide +kernel
theorem dX6_indexFor_8 : decode cX6_indexFor 8 = .ok (.if_icmp .ge 43, 3) := by decide +kernel
theorem dX6_indexFor_11 : decode cX6_indexFor 11 = .ok (.aload_n 0, 1) := by decide +kernel
theorem dX6_indexFor_12 : decode cX6_indexFor 12 = .ok (.getfield 13, 3) := by decide +kernel
theorem dX6_indexFor_15 : decode cX6_indexFor 15 = .ok (.iload 4, 2) := by decide +kernel
theorem dX6_indexFor_17 : decode cX6_indexFor 17 = .ok (.aaload, 1) := by decide +kernel
theorem dX6_indexFor_18 : decode cX6_indexFor 18 = .ok (.iload_n 1, 1) := by decide +kernel
theorem dX6_indexFor_19 : decode cX6_indexFor 19 = .ok (.iload_n 2, 1) := by decide +kernel
theorem dX6_indexFor_20 : decode cX6_indexFor 20 = .ok (.invokevirtual 92, 3) := by decide +kernel
theorem dX6_indexFor_23 : decode cX6_indexFor 23 = .ok (.ifCond .eq 6, 3) := by decide +kernel
theorem dX6_indexFor_26 : decode cX6_indexFor 26 = .ok (.iload 4, 2) := by decide +kernel
theorem dX6_indexFor_28 : decode cX6_indexFor 28 = .ok (.ireturn, 1) := by decide +kernel
theorem dX6_indexFor_29 : decode cX6_indexFor 29 = .ok (.aload_n 0, 1) := by decide +kernel
theorem dX6_indexFor_30 : decode cX6_indexFor 30 = .ok (.getfield 13, 3) := by decide +kernel
theorem dX6_indexFor_33 : decode cX6_indexFor 33 = .ok (.iload 4, 2) := by decide +kernel
theorem dX6_indexFor_35 : decode cX6_indexFor 35 = .ok (.aaload, 1) := by decide +kernel
theorem dX6_indexFor_36 : decode cX6_indexFor 36 = .ok (.invokevirtual 26, 3) := by decide +kernel
theorem dX6_indexFor_39 : decode cX6_indexFor 39 = .ok (.ifCond .ne 6, 3) := by decide +kernel
theorem dX6_indexFor_42 : decode cX6_indexFor 42 = .ok (.iload 4, 2) := by decide +kernel
theorem dX6_indexFor_44 : decode cX6_indexFor 44 = .ok (.istore_n 3, 1) := by decide +kernel
theorem dX6_indexFor_45 : decode cX6_indexFor 45 = .ok (.iinc 4 1, 3) := by decide +kernel
theorem dX6_indexFor_48 : decode cX6_indexFor 48 = .ok (.goto (-43), 3) := by decide +kernel
theorem dX6_indexFor_51 : decode cX6_indexFor 51 = .ok (.iload_n 3, 1) := by decide +kernel
theorem dX6_indexFor_52 : decode cX6_indexFor 52 = .ok (.ireturn, 1) := by decide +kernel
theorem dX7_init_0 : decode cX7_init 0 = .ok (.aload_n 0, 1) := by decide +kernel
theorem dX7_init_1 : decode cX7_init 1 = .ok (.invokespecial 1, 3) := by decide +kernel
theorem dX7_init_4 : decode cX7_init 4 = .ok (.aload_n 0, 1) := by decide +kernel
theorem dX7_init_5 : decode cX7_init 5 = .ok (.iload_n 1, 1) := by decide +kernel
theorem dX7_init_6 : decode cX7_init 6 = .ok (.ifCond .ge 7, 3) := by decide +kernel
theorem dX7_init_9 : decode cX7_init 9 = .ok (.iconst 0, 1) := by decide +kernel
theorem dX7_init_10 : decode cX7_init 10 = .ok (.goto 4, 3) := by decide +kernel
theorem dX7_init_13 : decode cX7_init 13 = .ok (.iload_n 1, 1) := by decide +kernel
theorem dX7_init_14 : decode cX7_init 14 = .ok (.newarray .int, 2) := by decide +kernel
theorem dX7_init_16 : decode cX7_init 16 = .ok (.putfield 7, 3) := by decide +kernel
theorem dX7_init_19 : decode cX7_init 19 = .ok (.aload_n 0, 1) := by decide +kernel
theorem dX7_init_20 : decode cX7_init 20 = .ok (.iconst 0, 1) := by decide +kernel
theorem dX7_init_21 : decode cX7_init 21 = .ok (.putfield 13, 3) := by decide +kernel
theorem dX7_init_24 : decode cX7_init 24 = .ok (.return_, 1) := by decide +kernel
theorem dX7_length_0 : decode cX7_length 0 = .ok (.aload_n 0, 1) := by decide +kernel
theorem dX7_length_1 : decode cX7_length 1 = .ok (.getfield 13, 3) := by decide +kernel
theorem dX7_length_4 : decode cX7_length 4 = .ok (.ireturn, 1) := by decide +kernel
theorem dX7_has_0 : decode cX7_has 0 = .ok (.iload_n 1, 1) := by decide +kernel
theorem dX7_has_1 : decode cX7_has 1 = .ok (.ifCond .lt 15, 3) := by decide +kernel
theorem dX7_has_4 : decode cX7_has 4 = .ok (.iload_n 1, 1) := by decide +kernel
theorem dX7_has_5 : decode cX7_has 5 = .ok (.aload_n 0, 1) := by decide +kernel
theorem dX7_has_6 : decode cX7_has 6 = .ok (.getfield 13, 3) := by decide +kernel
theorem dX7_has_9 : decode cX7_has 9 = .ok (.if_icmp .ge 7, 3) := by decide +kernel
theorem dX7_has_12 : decode cX7_has 12 = .ok (.iconst 1, 1) := by decide +kernel
theorem dX7_has_13 : decode cX7_has 13 = .ok (.goto 4, 3) := by decide +kernel
theorem dX7_has_16 : decode cX7_has 16 = .ok (.iconst 0, 1) := by decide +kernel
theorem dX7_has_17 : decode cX7_has 17 = .ok (.ireturn, 1) := by decide +kernel
theorem dX7_takes_0 : decode cX7_takes 0 = .ok (.iload_n 1, 1) := by decide +kernel
theorem dX7_takes_1 : decode cX7_takes 1 = .ok (.aload_n 0, 1) := by decide +kernel
theorem dX7_takes_2 : decode cX7_takes 2 = .ok (.getfield 7, 3) := by decide +kernel
theorem dX7_takes_5 : decode cX7_takes 5 = .ok (.arraylength, 1) := by decide +kernel
theorem dX7_takes_6 : decode cX7_takes 6 = .ok (.aload_n 0, 1) := by decide +kernel
theorem dX7_takes_7 : decode cX7_takes 7 = .ok (.getfield 13, 3) := by decide +kernel
theorem dX7_takes_10 : decode cX7_takes 10 = .ok (.isub, 1) := by decide +kernel
theorem dX7_takes_11 : decode cX7_takes 11 = .ok (.if_icmp .gt 7, 3) := by decide +kernel
theorem dX7_takes_14 : decode cX7_takes 14 = .ok (.iconst 1, 1) := by decide +kernel
theorem dX7_takes_15 : decode cX7_takes 15 = .ok (.goto 4, 3) := by decide +kernel
theorem dX7_takes_18 : decode cX7_takes 18 = .ok (.iconst 0, 1) := by decide +kernel
theorem dX7_takes_19 : decode cX7_takes 19 = .ok (.ireturn, 1) := by decide +kernel
theorem dX7_at_0 : decode cX7_at 0 = .ok (.iload_n 1, 1) := by decide +kernel
theorem dX7_at_1 : decode cX7_at 1 = .ok (.ifCond .lt 29, 3) := by decide +kernel
theorem dX7_at_4 : decode cX7_at 4 = .ok (.iload_n 1, 1) := by decide +kernel
theorem dX7_at_5 : decode cX7_at 5 = .ok (.aload_n 0, 1) := by decide +kernel
theorem dX7_at_6 : decode cX7_at 6 = .ok (.getfield 13, 3) := by decide +kernel
theorem dX7_at_9 : decode cX7_at 9 = .ok (.if_icmp .ge 21, 3) := by decide +kernel
theorem dX7_at_12 : decode cX7_at 12 = .ok (.iload_n 1, 1) := by decide +kernel
theorem dX7_at_13 : decode cX7_at 13 = .ok (.aload_n 0, 1) := by decide +kernel
theorem dX7_at_14 : decode cX7_at 14 = .ok (.getfield 7, 3) := by decide +kernel
theorem dX7_at_17 : decode cX7_at 17 = .ok (.arraylength, 1) := by decide +kernel
theorem dX7_at_18 : decode cX7_at 18 = .ok (.if_icmp .ge 12, 3) := by decide +kernel
theorem dX7_at_21 : decode cX7_at 21 = .ok (.aload_n 0, 1) := by decide +kernel
theorem dX7_at_22 : decode cX7_at 22 = .ok (.getfield 7, 3) := by decide +kernel
theorem dX7_at_25 : decode cX7_at 25 = .ok (.iload_n 1, 1) := by decide +kernel
theorem dX7_at_26 : decode cX7_at 26 = .ok (.iaload, 1) := by decide +kernel
theorem dX7_at_27 : decode cX7_at 27 = .ok (.goto 4, 3) := by decide +kernel
theorem dX7_at_30 : decode cX7_at 30 = .ok (.iconst 0, 1) := by decide +kernel
theorem dX7_at_31 : decode cX7_at 31 = .ok (.ireturn, 1) := by decide +kernel
theorem dX7_set_0 : decode cX7_set 0 = .ok (.iload_n 1, 1) := by decide +kernel
theorem dX7_set_1 : decode cX7_set 1 = .ok (.ifCond .lt 31, 3) := by decide +kernel
theorem dX7_set_4 : decode cX7_set 4 = .ok (.iload_n 1, 1) := by decide +kernel
theorem dX7_set_5 : decode cX7_set 5 = .ok (.aload_n 0, 1) := by decide +kernel
theorem dX7_set_6 : decode cX7_set 6 = .ok (.getfield 13, 3) := by decide +kernel
theorem dX7_set_9 : decode cX7_set 9 = .ok (.if_icmp .ge 23, 3) := by decide +kernel
theorem dX7_set_12 : decode cX7_set 12 = .ok (.iload_n 1, 1) := by decide +kernel
theorem dX7_set_13 : decode cX7_set 13 = .ok (.aload_n 0, 1) := by decide +kernel
theorem dX7_set_14 : decode cX7_set 14 = .ok (.getfield 7, 3) := by decide +kernel
theorem dX7_set_17 : decode cX7_set 17 = .ok (.arraylength, 1) := by decide +kernel
theorem dX7_set_18 : decode cX7_set 18 = .ok (.if_icmp .ge 14, 3) := by decide +kernel
theorem dX7_set_21 : decode cX7_set 21 = .ok (.aload_n 0, 1) := by decide +kernel
theorem dX7_set_22 : decode cX7_set 22 = .ok (.getfield 7, 3) := by decide +kernel
theorem dX7_set_25 : decode cX7_set 25 = .ok (.iload_n 1, 1) := by decide +kernel
theorem dX7_set_26 : decode cX7_set 26 = .ok (.iload_n 2, 1) := by decide +kernel
theorem dX7_set_27 : decode cX7_set 27 = .ok (.sipush 255, 3) := by decide +kernel
theorem dX7_set_30 : decode cX7_set 30 = .ok (.iand, 1) := by decide +kernel
theorem dX7_set_31 : decode cX7_set 31 = .ok (.iastore, 1) := by decide +kernel
theorem dX7_set_32 : decode cX7_set 32 = .ok (.return_, 1) := by decide +kernel
theorem dX7_add_0 : decode cX7_add 0 = .ok (.aload_n 0, 1) := by decide +kernel
theorem dX7_add_1 : decode cX7_add 1 = .ok (.getfield 13, 3) := by decide +kernel
theorem dX7_add_4 : decode cX7_add 4 = .ok (.ifCond .lt 39, 3) := by decide +kernel
theorem dX7_add_7 : decode cX7_add 7 = .ok (.aload_n 0, 1) := by decide +kernel
theorem dX7_add_8 : decode cX7_add 8 = .ok (.getfield 13, 3) := by decide +kernel
theorem dX7_add_11 : decode cX7_add 11 = .ok (.aload_n 0, 1) := by decide +kernel
theorem dX7_add_12 : decode cX7_add 12 = .ok (.getfield 7, 3) := by decide +kernel
theorem dX7_add_15 : decode cX7_add 15 = .ok (.arraylength, 1) := by decide +kernel
theorem dX7_add_16 : decode cX7_add 16 = .ok (.if_icmp .ge 27, 3) := by decide +kernel
theorem dX7_add_19 : decode cX7_add 19 = .ok (.aload_n 0, 1) := by decide +kernel
theorem dX7_add_20 : decode cX7_add 20 = .ok (.getfield 7, 3) := by decide +kernel
theorem dX7_add_23 : decode cX7_add 23 = .ok (.aload_n 0, 1) := by decide +kernel
theorem dX7_add_24 : decode cX7_add 24 = .ok (.getfield 13, 3) := by decide +kernel
theorem dX7_add_27 : decode cX7_add 27 = .ok (.iload_n 1, 1) := by decide +kernel
theorem dX7_add_28 : decode cX7_add 28 = .ok (.sipush 255, 3) := by decide +kernel
theorem dX7_add_31 : decode cX7_add 31 = .ok (.iand, 1) := by decide +kernel
theorem dX7_add_32 : decode cX7_add 32 = .ok (.iastore, 1) := by decide +kernel
theorem dX7_add_33 : decode cX7_add 33 = .ok (.aload_n 0, 1) := by decide +kernel
theorem dX7_add_34 : decode cX7_add 34 = .ok (.dup, 1) := by decide +kernel
theorem dX7_add_35 : decode cX7_add 35 = .ok (.getfield 13, 3) := by decide +kernel
theorem dX7_add_38 : decode cX7_add 38 = .ok (.iconst 1, 1) := by decide +kernel
theorem dX7_add_39 : decode cX7_add 39 = .ok (.iadd, 1) := by decide +kernel
theorem dX7_add_40 : decode cX7_add 40 = .ok (.putfield 13, 3) := by decide +kernel
theorem dX7_add_43 : decode cX7_add 43 = .ok (.return_, 1) := by decide +kernel
theorem dX7_shorten_0 : decode cX7_shorten 0 = .ok (.iload_n 1, 1) := by decide +kernel
theorem dX7_shorten_1 : decode cX7_shorten 1 = .ok (.ifCond .lt 16, 3) := by decide +kernel
theorem dX7_shorten_4 : decode cX7_shorten 4 = .ok (.iload_n 1, 1) := by decide +kernel
theorem dX7_shorten_5 : decode cX7_shorten 5 = .ok (.aload_n 0, 1) := by decide +kernel
theorem dX7_shorten_6 : decode cX7_shorten 6 = .ok (.getfield 13, 3) := by decide +kernel
theorem dX7_shorten_9 : decode cX7_shorten 9 = .ok (.if_icmp .ge 8, 3) := by decide +kernel
theorem dX7_shorten_12 : decode cX7_shorten 12 = .ok (.aload_n 0, 1) := by decide +kernel
theorem dX7_shorten_13 : decode cX7_shorten 13 = .ok (.iload_n 1, 1) := by decide +kernel
theorem dX7_shorten_14 : decode cX7_shorten 14 = .ok (.putfield 13, 3) := by decide +kernel
theorem dX7_shorten_17 : decode cX7_shorten 17 = .ok (.return_, 1) := by decide +kernel
theorem dX7_becomeZeros_0 : decode cX7_becomeZeros 0 = .ok (.aload_n 0, 1) := by decide +kernel
theorem dX7_becomeZeros_1 : decode cX7_becomeZeros 1 = .ok (.iconst 0, 1) := by decide +kernel
theorem dX7_becomeZeros_2 : decode cX7_becomeZeros 2 = .ok (.putfield 13, 3) := by decide +kernel
theorem dX7_becomeZeros_5 : decode cX7_becomeZeros 5 = .ok (.iconst 0, 1) := by decide +kernel
theorem dX7_becomeZeros_6 : decode cX7_becomeZeros 6 = .ok (.istore_n 2, 1) := by decide +kernel
theorem dX7_becomeZeros_7 : decode cX7_becomeZeros 7 = .ok (.iload_n 2, 1) := by decide +kernel
theorem dX7_becomeZeros_8 : decode cX7_becomeZeros 8 = .ok (.iload_n 1, 1) := by decide +kernel
theorem dX7_becomeZeros_9 : decode cX7_becomeZeros 9 = .ok (.if_icmp .ge 14, 3) := by decide +kernel
theorem dX7_becomeZeros_12 : decode cX7_becomeZeros 12 = .ok (.aload_n 0, 1) := by decide +kernel
theorem dX7_becomeZeros_13 : decode cX7_becomeZeros 13 = .ok (.iconst 0, 1) := by decide +kernel
theorem dX7_becomeZeros_14 : decode cX7_becomeZeros 14 = .ok (.invokevirtual 25, 3) := by decide +kernel
theorem dX7_becomeZeros_17 : decode cX7_becomeZeros 17 = .ok (.iinc 2 1, 3) := by decide +kernel
theorem dX7_becomeZeros_20 : decode cX7_becomeZeros 20 = .ok (.goto (-13), 3) := by decide +kernel
theorem dX7_becomeZeros_23 : decode cX7_becomeZeros 23 = .ok (.return_, 1) := by decide +kernel
theorem dX7_become_0 : decode cX7_become 0 = .ok (.aload_n 0, 1) := by decide +kernel
theorem dX7_become_1 : decode cX7_become 1 = .ok (.iconst 0, 1) := by decide +kernel
theorem dX7_become_2 : decode cX7_become 2 = .ok (.putfield 13, 3) := by decide +kernel
theorem dX7_become_5 : decode cX7_become 5 = .ok (.aload_n 0, 1) := by decide +kernel
theorem dX7_become_6 : decode cX7_become 6 = .ok (.aload_n 1, 1) := by decide +kernel
theorem dX7_become_7 : decode cX7_become 7 = .ok (.iconst 0, 1) := by decide +kernel
theorem dX7_become_8 : decode cX7_become 8 = .ok (.aload_n 1, 1) := by decide +kernel
theorem dX7_become_9 : decode cX7_become 9 = .ok (.invokevirtual 29, 3) := by decide +kernel
theorem dX7_become_12 : decode cX7_become 12 = .ok (.invokevirtual 32, 3) := by decide +kernel
theorem dX7_become_15 : decode cX7_become 15 = .ok (.return_, 1) := by decide +kernel
theorem dX7_addAll_0 : decode cX7_addAll 0 = .ok (.iload_n 2, 1) := by decide +kernel
theorem dX7_addAll_1 : decode cX7_addAll 1 = .ok (.istore 4, 2) := by decide +kernel
theorem dX7_addAll_3 : decode cX7_addAll 3 = .ok (.iload 4, 2) := by decide +kernel
theorem dX7_addAll_5 : decode cX7_addAll 5 = .ok (.iload_n 3, 1) := by decide +kernel
theorem dX7_addAll_6 : decode cX7_addAll 6 = .ok (.if_icmp .ge 19, 3) := by decide +kernel
theorem dX7_addAll_9 : decode cX7_addAll 9 = .ok (.aload_n 0, 1) := by decide +kernel
theorem dX7_addAll_10 : decode cX7_addAll 10 = .ok (.aload_n 1, 1) := by decide +kernel
theorem dX7_addAll_11 : decode cX7_addAll 11 = .ok (.iload 4, 2) := by decide +kernel
theorem dX7_addAll_13 : decode cX7_addAll 13 = .ok (.invokevirtual 17, 3) := by decide +kernel
theorem dX7_addAll_16 : decode cX7_addAll 16 = .ok (.invokevirtual 25, 3) := by decide +kernel
theorem dX7_addAll_19 : decode cX7_addAll 19 = .ok (.iinc 4 1, 3) := by decide +kernel
theorem dX7_addAll_22 : decode cX7_addAll 22 = .ok (.goto (-19), 3) := by decide +kernel
theorem dX7_addAll_25 : decode cX7_addAll 25 = .ok (.return_, 1) := by decide +kernel
theorem dX7_number_0 : decode cX7_number 0 = .ok (.lconst 0, 1) := by decide +kernel
theorem dX7_number_1 : decode cX7_number 1 = .ok (.lstore_n 3, 1) := by decide +kernel
theorem dX7_number_2 : decode cX7_number 2 = .ok (.iconst 0, 1) := by decide +kernel
theorem dX7_number_3 : decode cX7_number 3 = .ok (.istore 5, 2) := by decide +kernel
theorem dX7_number_5 : decode cX7_number 5 = .ok (.iload 5, 2) := by decide +kernel
theorem dX7_number_7 : decode cX7_number 7 = .ok (.iload_n 2, 1) := by decide +kernel
theorem dX7_number_8 : decode cX7_number 8 = .ok (.if_icmp .ge 24, 3) := by decide +kernel
theorem dX7_number_11 : decode cX7_number 11 = .ok (.lload_n 3, 1) := by decide +kernel
theorem dX7_number_12 : decode cX7_number 12 = .ok (.bipush 8, 2) := by decide +kernel
theorem dX7_number_14 : decode cX7_number 14 = .ok (.lshl, 1) := by decide +kernel
theorem dX7_number_15 : decode cX7_number 15 = .ok (.aload_n 0, 1) := by decide +kernel
theorem dX7_number_16 : decode cX7_number 16 = .ok (.iload_n 1, 1) := by decide +kernel
theorem dX7_number_17 : decode cX7_number 17 = .ok (.iload 5, 2) := by decide +kernel
theorem dX7_number_19 : decode cX7_number 19 = .ok (.iadd, 1) := by decide +kernel
theorem dX7_number_20 : decode cX7_number 20 = .ok (.invokevirtual 17, 3) := by decide +kernel
theorem dX7_number_23 : decode cX7_number 23 = .ok (.i2l, 1) := by decide +kernel
theorem dX7_number_24 : decode cX7_number 24 = .ok (.lor, 1) := by decide +kernel
theorem dX7_number_25 : decode cX7_number 25 = .ok (.lstore_n 3, 1) := by decide +kernel
theorem dX7_number_26 : decode cX7_number 26 = .ok (.iinc 5 1, 3) := by decide +kernel
theorem dX7_number_29 : decode cX7_number 29 = .ok (.goto (-24), 3) := by decide +kernel
theorem dX7_number_32 : decode cX7_number 32 = .ok (.lload_n 3, 1) := by decide +kernel
theorem dX7_number_33 : decode cX7_number 33 = .ok (.lreturn, 1) := by decide +kernel
theorem dX7_setNumber_0 : decode cX7_setNumber 0 = .ok (.iconst 0, 1) := by decide +kernel
theorem dX7_setNumber_1 : decode cX7_setNumber 1 = .ok (.istore 5, 2) := by decide +kernel
theorem dX7_setNumber_3 : decode cX7_setNumber 3 = .ok (.iload 5, 2) := by decide +kernel
theorem dX7_setNumber_5 : decode cX7_setNumber 5 = .ok (.iload 4, 2) := by decide +kernel
theorem dX7_setNumber_7 : decode cX7_setNumber 7 = .ok (.if_icmp .ge 30, 3) := by decide +kernel
theorem dX7_setNumber_10 : decode cX7_setNumber 10 = .ok (.aload_n 0, 1) := by decide +kernel
theorem dX7_setNumber_11 : decode cX7_setNumber 11 = .ok (.iload_n 1, 1) := by decide +kernel
theorem dX7_setNumber_12 : decode cX7_setNumber 12 = .ok (.iload 5, 2) := by decide +kernel
theorem dX7_setNumber_14 : decode cX7_setNumber 14 = .ok (.iadd, 1) := by decide +kernel
theorem dX7_setNumber_15 : decode cX7_setNumber 15 = .ok (.lload_n 2, 1) := by decide +kernel
theorem dX7_setNumber_16 : decode cX7_setNumber 16 = .ok (.bipush 8, 2) := by decide +kernel
theorem dX7_setNumber_18 : decode cX7_setNumber 18 = .ok (.iload 4, 2) := by decide +kernel
theorem dX7_setNumber_20 : decode cX7_setNumber 20 = .ok (.iconst 1, 1) := by decide +kernel
theorem dX7_setNumber_21 : decode cX7_setNumber 21 = .ok (.isub, 1) := by decide +kernel
theorem dX7_setNumber_22 : decode cX7_setNumber 22 = .ok (.iload 5, 2) := by decide +kernel
theorem dX7_setNumber_24 : decode cX7_setNumber 24 = .ok (.isub, 1) := by decide +kernel
theorem dX7_setNumber_25 : decode cX7_setNumber 25 = .ok (.imul, 1) := by decide +kernel
theorem dX7_setNumber_26 : decode cX7_setNumber 26 = .ok (.lushr, 1) := by decide +kernel
theorem dX7_setNumber_27 : decode cX7_setNumber 27 = .ok (.l2i, 1) := by decide +kernel
theorem dX7_setNumber_28 : decode cX7_setNumber 28 = .ok (.invokevirtual 21, 3) := by decide +kernel
theorem dX7_setNumber_31 : decode cX7_setNumber 31 = .ok (.iinc 5 1, 3) := by decide +kernel
theorem dX7_setNumber_34 : decode cX7_setNumber 34 = .ok (.goto (-31), 3) := by decide +kernel
theorem dX7_setNumber_37 : decode cX7_setNumber 37 = .ok (.return_, 1) := by decide +kernel
theorem dX7_addNumber_0 : decode cX7_addNumber 0 = .ok (.iconst 0, 1) := by decide +kernel
theorem dX7_addNumber_1 : decode cX7_addNumber 1 = .ok (.istore 4, 2) := by decide +kernel
theorem dX7_addNumber_3 : decode cX7_addNumber 3 = .ok (.iload 4, 2) := by decide +kernel
theorem dX7_addNumber_5 : decode cX7_addNumber 5 = .ok (.iload_n 3, 1) := by decide +kernel
theorem dX7_addNumber_6 : decode cX7_addNumber 6 = .ok (.if_icmp .ge 25, 3) := by decide +kernel
theorem dX7_addNumber_9 : decode cX7_addNumber 9 = .ok (.aload_n 0, 1) := by decide +kernel
theorem dX7_addNumber_10 : decode cX7_addNumber 10 = .ok (.lload_n 1, 1) := by decide +kernel
theorem dX7_addNumber_11 : decode cX7_addNumber 11 = .ok (.bipush 8, 2) := by decide +kernel
theorem dX7_addNumber_13 : decode cX7_addNumber 13 = .ok (.iload_n 3, 1) := by decide +kernel
theorem dX7_addNumber_14 : decode cX7_addNumber 14 = .ok (.iconst 1, 1) := by decide +kernel
theorem dX7_addNumber_15 : decode cX7_addNumber 15 = .ok (.isub, 1) := by decide +kernel
theorem dX7_addNumber_16 : decode cX7_addNumber 16 = .ok (.iload 4, 2) := by decide +kernel
theorem dX7_addNumber_18 : decode cX7_addNumber 18 = .ok (.isub, 1) := by decide +kernel
theorem dX7_addNumber_19 : decode cX7_addNumber 19 = .ok (.imul, 1) := by decide +kernel
theorem dX7_addNumber_20 : decode cX7_addNumber 20 = .ok (.lushr, 1) := by decide +kernel
theorem dX7_addNumber_21 : decode cX7_addNumber 21 = .ok (.l2i, 1) := by decide +kernel
theorem dX7_addNumber_22 : decode cX7_addNumber 22 = .ok (.invokevirtual 25, 3) := by decide +kernel
theorem dX7_addNumber_25 : decode cX7_addNumber 25 = .ok (.iinc 4 1, 3) := by decide +kernel
theorem dX7_addNumber_28 : decode cX7_addNumber 28 = .ok (.goto (-25), 3) := by decide +kernel
theorem dX7_addNumber_31 : decode cX7_addNumber 31 = .ok (.return_, 1) := by decide +kernel
theorem dX8_init_0 : decode cX8_init 0 = .ok (.aload_n 0, 1) := by decide +kernel
theorem dX8_init_1 : decode cX8_init 1 = .ok (.invokespecial 1, 3) := by decide +kernel
theorem dX8_init_4 : decode cX8_init 4 = .ok (.aload_n 0, 1) := by decide +kernel
theorem dX8_init_5 : decode cX8_init 5 = .ok (.aload_n 1, 1) := by decide +kernel
theorem dX8_init_6 : decode cX8_init 6 = .ok (.putfield 7, 3) := by decide +kernel
theorem dX8_init_9 : decode cX8_init 9 = .ok (.return_, 1) := by decide +kernel
theorem dX8_write_0 : decode cX8_write 0 = .ok (.aload_n 1, 1) := by decide +kernel
theorem dX8_write_1 : decode cX8_write 1 = .ok (.invokestatic 13, 3) := by decide +kernel
theorem dX8_write_4 : decode cX8_write 4 = .ok (.istore_n 3, 1) := by decide +kernel
theorem dX8_write_5 : decode cX8_write 5 = .ok (.aload_n 1, 1) := by decide +kernel
theorem dX8_write_6 : decode cX8_write 6 = .ok (.invokestatic 19, 3) := by decide +kernel
theorem dX8_write_9 : decode cX8_write 9 = .ok (.istore 4, 2) := by decide +kernel
theorem dX8_write_11 : decode cX8_write 11 = .ok (.aload_n 1, 1) := by decide +kernel
theorem dX8_write_12 : decode cX8_write 12 = .ok (.bipush 7, 2) := by decide +kernel
theorem dX8_write_14 : decode cX8_write 14 = .ok (.invokevirtual 23, 3) := by decide +kernel
theorem dX8_write_17 : decode cX8_write 17 = .ok (.invokestatic 29, 3) := by decide +kernel
theorem dX8_write_20 : decode cX8_write 20 = .ok (.istore 5, 2) := by decide +kernel
theorem dX8_write_22 : decode cX8_write 22 = .ok (.aload_n 1, 1) := by decide +kernel
theorem dX8_write_23 : decode cX8_write 23 = .ok (.bipush 8, 2) := by decide +kernel
theorem dX8_write_25 : decode cX8_write 25 = .ok (.bipush 8, 2) := by decide +kernel
theorem dX8_write_27 : decode cX8_write 27 = .ok (.invokevirtual 32, 3) := by decide +kernel
theorem dX8_write_30 : decode cX8_write 30 = .ok (.lstore 6, 2) := by decide +kernel
theorem dX8_write_32 : decode cX8_write 32 = .ok (.aload_n 1, 1) := by decide +kernel
theorem dX8_write_33 : decode cX8_write 33 = .ok (.bipush 16, 2) := by decide +kernel
theorem dX8_write_35 : decode cX8_write 35 = .ok (.bipush 8, 2) := by decide +kernel
theorem dX8_write_37 : decode cX8_write 37 = .ok (.invokevirtual 32, 3) := by decide +kernel
theorem dX8_write_40 : decode cX8_write 40 = .ok (.lstore 8, 2) := by decide +kernel
theorem dX8_write_42 : decode cX8_write 42 = .ok (.aload_n 1, 1) := by decide +kernel
theorem dX8_write_43 : decode cX8_write 43 = .ok (.bipush 24, 2) := by decide +kernel
theorem dX8_write_45 : decode cX8_write 45 = .ok (.bipush 8, 2) := by decide +kernel
theorem dX8_write_47 : decode cX8_write 47 = .ok (.invokevirtual 32, 3) := by decide +kernel
theorem dX8_write_50 : decode cX8_write 50 = .ok (.lstore 10, 2) := by decide +kernel
theorem dX8_write_52 : decode cX8_write 52 = .ok (.aload_n 1, 1) := by decide +kernel
theorem dX8_write_53 : decode cX8_write 53 = .ok (.bipush 32, 2) := by decide +kernel
theorem dX8_write_55 : decode cX8_write 55 = .ok (.bipush 8, 2) := by decide +kernel
theorem dX8_write_57 : decode cX8_write 57 = .ok (.invokevirtual 32, 3) := by decide +kernel
theorem dX8_write_60 : decode cX8_write 60 = .ok (.lstore 12, 2) := by decide +kernel
theorem dX8_write_62 : decode cX8_write 62 = .ok (.aload_n 0, 1) := by decide +kernel
theorem dX8_write_63 : decode cX8_write 63 = .ok (.getfield 7, 3) := by decide +kernel
theorem dX8_write_66 : decode cX8_write 66 = .ok (.lload 6, 2) := by decide +kernel
theorem dX8_write_68 : decode cX8_write 68 = .ok (.lload 8, 2) := by decide +kernel
theorem dX8_write_70 : decode cX8_write 70 = .ok (.invokestatic 36, 3) := by decide +kernel
theorem dX8_write_73 : decode cX8_write 73 = .ok (.istore 14, 2) := by decide +kernel
theorem dX8_write_75 : decode cX8_write 75 = .ok (.aload_n 0, 1) := by decide +kernel
theorem dX8_write_76 : decode cX8_write 76 = .ok (.getfield 7, 3) := by decide +kernel
theorem dX8_write_79 : decode cX8_write 79 = .ok (.lload 10, 2) := by decide +kernel
theorem dX8_write_81 : decode cX8_write 81 = .ok (.lload 12, 2) := by decide +kernel
theorem dX8_write_83 : decode cX8_write 83 = .ok (.invokestatic 42, 3) := by decide +kernel
theorem dX8_write_86 : decode cX8_write 86 = .ok (.istore 15, 2) := by decide +kernel
theorem dX8_write_88 : decode cX8_write 88 = .ok (.bipush 16, 2) := by decide +kernel
theorem dX8_write_90 : decode cX8_write 90 = .ok (.aload_n 0, 1) := by decide +kernel
theorem dX8_write_91 : decode cX8_write 91 = .ok (.iload 14, 2) := by decide +kernel
theorem dX8_write_93 : decode cX8_write 93 = .ok (.lload 6, 2) := by decide +kernel
theorem dX8_write_95 : decode cX8_write 95 = .ok (.invokevirtual 45, 3) := by decide +kernel
theorem dX8_write_98 : decode cX8_write 98 = .ok (.imul, 1) := by decide +kernel
theorem dX8_write_99 : decode cX8_write 99 = .ok (.aload_n 0, 1) := by decide +kernel
theorem dX8_write_100 : decode cX8_write 100 = .ok (.iload 15, 2) := by decide +kernel
theorem dX8_write_102 : decode cX8_write 102 = .ok (.lload 10, 2) := by decide +kernel
theorem dX8_write_104 : decode cX8_write 104 = .ok (.invokevirtual 45, 3) := by decide +kernel
theorem dX8_write_107 : decode cX8_write 107 = .ok (.iadd, 1) := by decide +kernel
theorem dX8_write_108 : decode cX8_write 108 = .ok (.istore 16, 2) := by decide +kernel
theorem dX8_write_110 : decode cX8_write 110 = .ok (.aload_n 2, 1) := by decide +kernel
theorem dX8_write_111 : decode cX8_write 111 = .ok (.iconst 0, 1) := by decide +kernel
theorem dX8_write_112 : decode cX8_write 112 = .ok (.invokevirtual 49, 3) := by decide +kernel
theorem dX8_write_115 : decode cX8_write 115 = .ok (.aload_n 2, 1) := by decide +kernel
theorem dX8_write_116 : decode cX8_write 116 = .ok (.bipush 96, 2) := by decide +kernel
theorem dX8_write_118 : decode cX8_write 118 = .ok (.iload 4, 2) := by decide +kernel
theorem dX8_write_120 : decode cX8_write 120 = .ok (.iconst 3, 1) := by decide +kernel
theorem dX8_write_121 : decode cX8_write 121 = .ok (.ishl, 1) := by decide +kernel
theorem dX8_write_122 : decode cX8_write 122 = .ok (.ior, 1) := by decide +kernel
theorem dX8_write_123 : decode cX8_write 123 = .ok (.iload_n 3, 1) := by decide +kernel
theorem dX8_write_124 : decode cX8_write 124 = .ok (.ifCond .eq 7, 3) := by decide +kernel
theorem dX8_write_127 : decode cX8_write 127 = .ok (.iconst 4, 1) := by decide +kernel
theorem dX8_write_128 : decode cX8_write 128 = .ok (.goto 4, 3) := by decide +kernel
theorem dX8_write_131 : decode cX8_write 131 = .ok (.iconst 0, 1) := by decide +kernel
theorem dX8_write_132 : decode cX8_write 132 = .ok (.ior, 1) := by decide +kernel
theorem dX8_write_133 : decode cX8_write 133 = .ok (.iload 5, 2) := by decide +kernel
theorem dX8_write_135 : decode cX8_write 135 = .ok (.ior, 1) := by decide +kernel
theorem dX8_write_136 : decode cX8_write 136 = .ok (.invokevirtual 53, 3) := by decide +kernel
theorem dX8_write_139 : decode cX8_write 139 = .ok (.aload_n 2, 1) := by decide +kernel
theorem dX8_write_140 : decode cX8_write 140 = .ok (.iload 16, 2) := by decide +kernel
theorem dX8_write_142 : decode cX8_write 142 = .ok (.ifCond .eq 9, 3) := by decide +kernel
theorem dX8_write_145 : decode cX8_write 145 = .ok (.sipush 128, 3) := by decide +kernel
theorem dX8_write_148 : decode cX8_write 148 = .ok (.goto 4, 3) := by decide +kernel
theorem dX8_write_151 : decode cX8_write 151 = .ok (.iconst 0, 1) := by decide +kernel
theorem dX8_write_152 : decode cX8_write 152 = .ok (.iload 14, 2) := by decide +kernel
theorem dX8_write_154 : decode cX8_write 154 = .ok (.iconst 4, 1) := by decide +kernel
theorem dX8_write_155 : decode cX8_write 155 = .ok (.ishl, 1) := by decide +kernel
theorem dX8_write_156 : decode cX8_write 156 = .ok (.ior, 1) := by decide +kernel
theorem dX8_write_157 : decode cX8_write 157 = .ok (.iload 15, 2) := by decide +kernel
theorem dX8_write_159 : decode cX8_write 159 = .ok (.ior, 1) := by decide +kernel
theorem dX8_write_160 : decode cX8_write 160 = .ok (.invokevirtual 53, 3) := by decide +kernel
theorem dX8_write_163 : decode cX8_write 163 = .ok (.iload 16, 2) := by decide +kernel
theorem dX8_write_165 : decode cX8_write 165 = .ok (.ifCond .eq 9, 3) := by decide +kernel
theorem dX8_write_168 : decode cX8_write 168 = .ok (.aload_n 2, 1) := by decide +kernel
theorem dX8_write_169 : decode cX8_write 169 = .ok (.iload 16, 2) := by decide +kernel
theorem dX8_write_171 : decode cX8_write 171 = .ok (.invokevirtual 53, 3) := by decide +kernel
theorem dX8_write_174 : decode cX8_write 174 = .ok (.aload_n 1, 1) := by decide +kernel
theorem dX8_write_175 : decode cX8_write 175 = .ok (.iload 4, 2) := by decide +kernel
theorem dX8_write_177 : decode cX8_write 177 = .ok (.aload_n 2, 1) := by decide +kernel
theorem dX8_write_178 : decode cX8_write 178 = .ok (.invokestatic 56, 3) := by decide +kernel
theorem dX8_write_181 : decode cX8_write 181 = .ok (.iload_n 3, 1) := by decide +kernel
theorem dX8_write_182 : decode cX8_write 182 = .ok (.ifCond .ne 13, 3) := by decide +kernel
theorem dX8_write_185 : decode cX8_write 185 = .ok (.aload_n 2, 1) := by decide +kernel
theorem dX8_write_186 : decode cX8_write 186 = .ok (.aload_n 1, 1) := by decide +kernel
theorem dX8_write_187 : decode cX8_write 187 = .ok (.bipush 6, 2) := by decide +kernel
theorem dX8_write_189 : decode cX8_write 189 = .ok (.invokevirtual 23, 3) := by decide +kernel
theorem dX8_write_192 : decode cX8_write 192 = .ok (.invokevirtual 53, 3) := by decide +kernel
theorem dX8_write_195 : decode cX8_write 195 = .ok (.iload 5, 2) := by decide +kernel
theorem dX8_write_197 : decode cX8_write 197 = .ok (.ifCond .ne 13, 3) := by decide +kernel
theorem dX8_write_200 : decode cX8_write 200 = .ok (.aload_n 2, 1) := by decide +kernel
theorem dX8_write_201 : decode cX8_write 201 = .ok (.aload_n 1, 1) := by decide +kernel
theorem dX8_write_202 : decode cX8_write 202 = .ok (.bipush 7, 2) := by decide +kernel
theorem dX8_write_204 : decode cX8_write 204 = .ok (.invokevirtual 23, 3) := by decide +kernel
theorem dX8_write_207 : decode cX8_write 207 = .ok (.invokevirtual 53, 3) := by decide +kernel
theorem dX8_write_210 : decode cX8_write 210 = .ok (.iload 14, 2) := by decide +kernel
theorem dX8_write_212 : decode cX8_write 212 = .ok (.lload 6, 2) := by decide +kernel
theorem dX8_write_214 : decode cX8_write 214 = .ok (.lload 8, 2) := by decide +kernel
theorem dX8_write_216 : decode cX8_write 216 = .ok (.aload_n 2, 1) := by decide +kernel
theorem dX8_write_217 : decode cX8_write 217 = .ok (.invokestatic 60, 3) := by decide +kernel
theorem dX8_write_220 : decode cX8_write 220 = .ok (.iload 15, 2) := by decide +kernel
theorem dX8_write_222 : decode cX8_write 222 = .ok (.lload 10, 2) := by decide +kernel
theorem dX8_write_224 : decode cX8_write 224 = .ok (.lload 12, 2) := by decide +kernel
theorem dX8_write_226 : decode cX8_write 226 = .ok (.aload_n 2, 1) := by decide +kernel
theorem dX8_write_227 : decode cX8_write 227 = .ok (.invokestatic 60, 3) := by decide +kernel
theorem dX8_write_230 : decode cX8_write 230 = .ok (.iload_n 3, 1) := by decide +kernel
theorem dX8_write_231 : decode cX8_write 231 = .ok (.ifCond .eq 8, 3) := by decide +kernel
theorem dX8_write_234 : decode cX8_write 234 = .ok (.aload_n 1, 1) := by decide +kernel
theorem dX8_write_235 : decode cX8_write 235 = .ok (.aload_n 2, 1) := by decide +kernel
theorem dX8_write_236 : decode cX8_write 236 = .ok (.invokestatic 64, 3) := by decide +kernel
theorem dX8_write_239 : decode cX8_write 239 = .ok (.aload_n 2, 1) := by decide +kernel
theorem dX8_write_240 : decode cX8_write 240 = .ok (.invokevirtual 68, 3) := by decide +kernel
theorem dX8_write_243 : decode cX8_write 243 = .ok (.istore 17, 2) := by decide +kernel
theorem dX8_write_245 : decode cX8_write 245 = .ok (.aload_n 2, 1) := by decide +kernel
theorem dX8_write_246 : decode cX8_write 246 = .ok (.aload_n 1, 1) := by decide +kernel
theorem dX8_write_247 : decode cX8_write 247 = .ok (.aload_n 1, 1) := by decide +kernel
theorem dX8_write_248 : decode cX8_write 248 = .ok (.invokestatic 72, 3) := by decide +kernel
theorem dX8_write_251 : decode cX8_write 251 = .ok (.aload_n 1, 1) := by decide +kernel
theorem dX8_write_252 : decode cX8_write 252 = .ok (.invokevirtual 68, 3) := by decide +kernel
theorem dX8_write_255 : decode cX8_write 255 = .ok (.invokevirtual 75, 3) := by decide +kernel
theorem dX8_write_258 : decode cX8_write 258 = .ok (.iload 17, 2) := by decide +kernel
theorem dX8_write_260 : decode cX8_write 260 = .ok (.ireturn, 1) := by decide +kernel
theorem dX8_contextOf_0 : decode cX8_contextOf 0 = .ok (.iload_n 1, 1) := by decide +kernel
theorem dX8_contextOf_1 : decode cX8_contextOf 1 = .ok (.invokestatic 79, 3) := by decide +kernel
theorem dX8_contextOf_4 : decode cX8_contextOf 4 = .ok (.ifCond .eq 14, 3) := by decide +kernel
theorem dX8_contextOf_7 : decode cX8_contextOf 7 = .ok (.aload_n 0, 1) := by decide +kernel
theorem dX8_contextOf_8 : decode cX8_contextOf 8 = .ok (.getfield 7, 3) := by decide +kernel
theorem dX8_contextOf_11 : decode cX8_contextOf 11 = .ok (.lload_n 2, 1) := by decide +kernel
theorem dX8_contextOf_12 : decode cX8_contextOf 12 = .ok (.invokevirtual 83, 3) := by decide +kernel
theorem dX8_contextOf_15 : decode cX8_contextOf 15 = .ok (.goto 4, 3) := by decide +kernel
theorem dX8_contextOf_18 : decode cX8_contextOf 18 = .ok (.iconst 0, 1) := by decide +kernel
theorem dX8_contextOf_19 : decode cX8_contextOf 19 = .ok (.ireturn, 1) := by decide +kernel
theorem dX8_trafficOf_0 : decode cX8_trafficOf 0 = .ok (.aload_n 0, 1) := by decide +kernel
theorem dX8_trafficOf_1 : decode cX8_trafficOf 1 = .ok (.invokestatic 89, 3) := by decide +kernel
theorem dX8_trafficOf_4 : decode cX8_trafficOf 4 = .ok (.istore_n 1, 1) := by decide +kernel
theorem dX8_trafficOf_5 : decode cX8_trafficOf 5 = .ok (.aload_n 0, 1) := by decide +kernel
theorem dX8_trafficOf_6 : decode cX8_trafficOf 6 = .ok (.invokestatic 92, 3) := by decide +kernel
theorem dX8_trafficOf_9 : decode cX8_trafficOf 9 = .ok (.ifCond .ne 13, 3) := by decide +kernel
theorem dX8_trafficOf_12 : decode cX8_trafficOf 12 = .ok (.iload_n 1, 1) := by decide +kernel
theorem dX8_trafficOf_13 : decode cX8_trafficOf 13 = .ok (.ifCond .ne 7, 3) := by decide +kernel
theorem dX8_trafficOf_16 : decode cX8_trafficOf 16 = .ok (.iconst 3, 1) := by decide +kernel
theorem dX8_trafficOf_17 : decode cX8_trafficOf 17 = .ok (.goto 4, 3) := by decide +kernel
theorem dX8_trafficOf_20 : decode cX8_trafficOf 20 = .ok (.iconst 2, 1) := by decide +kernel
theorem dX8_trafficOf_21 : decode cX8_trafficOf 21 = .ok (.ireturn, 1) := by decide +kernel
theorem dX8_trafficOf_22 : decode cX8_trafficOf 22 = .ok (.iload_n 1, 1) := by decide +kernel
theorem dX8_trafficOf_23 : decode cX8_trafficOf 23 = .ok (.iconst 2, 1) := by decide +kernel
theorem dX8_trafficOf_24 : decode cX8_trafficOf 24 = .ok (.ishr, 1) := by decide +kernel
theorem dX8_trafficOf_25 : decode cX8_trafficOf 25 = .ok (.ifCond .ne 7, 3) := by decide +kernel
theorem dX8_trafficOf_28 : decode cX8_trafficOf 28 = .ok (.iconst 1, 1) := by decide +kernel
theorem dX8_trafficOf_29 : decode cX8_trafficOf 29 = .ok (.goto 4, 3) := by decide +kernel
theorem dX8_trafficOf_32 : decode cX8_trafficOf 32 = .ok (.iconst 0, 1) := by decide +kernel
theorem dX8_trafficOf_33 : decode cX8_trafficOf 33 = .ok (.ireturn, 1) := by decide +kernel
theorem dX8_hopsOf_0 : decode cX8_hopsOf 0 = .ok (.iload_n 0, 1) := by decide +kernel
theorem dX8_hopsOf_1 : decode cX8_hopsOf 1 = .ok (.lookupswitch 41 #[(1, 35), (64, 37), (255, 39)], 35) := by decide +kernel
theorem dX8_hopsOf_36 : decode cX8_hopsOf 36 = .ok (.iconst 1, 1) := by decide +kernel
theorem dX8_hopsOf_37 : decode cX8_hopsOf 37 = .ok (.ireturn, 1) := by decide +kernel
theorem dX8_hopsOf_38 : decode cX8_hopsOf 38 = .ok (.iconst 2, 1) := by decide +kernel
theorem dX8_hopsOf_39 : decode cX8_hopsOf 39 = .ok (.ireturn, 1) := by decide +kernel
theorem dX8_hopsOf_40 : decode cX8_hopsOf 40 = .ok (.iconst 3, 1) := by decide +kernel
theorem dX8_hopsOf_41 : decode cX8_hopsOf 41 = .ok (.ireturn, 1) := by decide +kernel
theorem dX8_hopsOf_42 : decode cX8_hopsOf 42 = .ok (.iconst 0, 1) := by decide +kernel
theorem dX8_hopsOf_43 : decode cX8_hopsOf 43 = .ok (.ireturn, 1) := by decide +kernel
theorem dX8_writeTraffic_0 : decode cX8_writeTraffic 0 = .ok (.aload_n 0, 1) := by decide +kernel
theorem dX8_writeTraffic_1 : decode cX8_writeTraffic 1 = .ok (.invokestatic 89, 3) := by decide +kernel
theorem dX8_writeTraffic_4 : decode cX8_writeTraffic 4 = .ok (.istore_n 3, 1) := by decide +kernel
theorem dX8_writeTraffic_5 : decode cX8_writeTraffic 5 = .ok (.aload_n 0, 1) := by decide +kernel
theorem dX8_writeTraffic_6 : decode cX8_writeTraffic 6 = .ok (.invokestatic 92, 3) := by decide +kernel
theorem dX8_writeTraffic_9 : decode cX8_writeTraffic 9 = .ok (.istore 4, 2) := by decide +kernel
theorem dX8_writeTraffic_11 : decode cX8_writeTraffic 11 = .ok (.iload_n 3, 1) := by decide +kernel
theorem dX8_writeTraffic_12 : decode cX8_writeTraffic 12 = .ok (.iconst 3, 1) := by decide +kernel
theorem dX8_writeTraffic_13 : decode cX8_writeTraffic 13 = .ok (.iand, 1) := by decide +kernel
theorem dX8_writeTraffic_14 : decode cX8_writeTraffic 14 = .ok (.bipush 6, 2) := by decide +kernel
theorem dX8_writeTraffic_16 : decode cX8_writeTraffic 16 = .ok (.ishl, 1) := by decide +kernel
theorem dX8_writeTraffic_17 : decode cX8_writeTraffic 17 = .ok (.iload_n 3, 1) := by decide +kernel
theorem dX8_writeTraffic_18 : decode cX8_writeTraffic 18 = .ok (.iconst 2, 1) := by decide +kernel
theorem dX8_writeTraffic_19 : decode cX8_writeTraffic 19 = .ok (.ishr, 1) := by decide +kernel
theorem dX8_writeTraffic_20 : decode cX8_writeTraffic 20 = .ok (.ior, 1) := by decide +kernel
theorem dX8_writeTraffic_21 : decode cX8_writeTraffic 21 = .ok (.istore 5, 2) := by decide +kernel
theorem dX8_writeTraffic_23 : decode cX8_writeTraffic 23 = .ok (.iload_n 1, 1) := by decide +kernel
theorem dX8_writeTraffic_24 : decode cX8_writeTraffic 24 = .ok (.ifCond .ne 20, 3) := by decide +kernel
theorem dX8_writeTraffic_27 : decode cX8_writeTraffic 27 = .ok (.aload_n 2, 1) := by decide +kernel
theorem dX8_writeTraffic_28 : decode cX8_writeTraffic 28 = .ok (.iload 5, 2) := by decide +kernel
theorem dX8_writeTraffic_30 : decode cX8_writeTraffic 30 = .ok (.invokevirtual 53, 3) := by decide +kernel
theorem dX8_writeTraffic_33 : decode cX8_writeTraffic 33 = .ok (.aload_n 2, 1) := by decide +kernel
theorem dX8_writeTraffic_34 : decode cX8_writeTraffic 34 = .ok (.iload 4, 2) := by decide +kernel
theorem dX8_writeTraffic_36 : decode cX8_writeTraffic 36 = .ok (.i2l, 1) := by decide +kernel
theorem dX8_writeTraffic_37 : decode cX8_writeTraffic 37 = .ok (.iconst 3, 1) := by decide +kernel
theorem dX8_writeTraffic_38 : decode cX8_writeTraffic 38 = .ok (.invokevirtual 95, 3) := by decide +kernel
theorem dX8_writeTraffic_41 : decode cX8_writeTraffic 41 = .ok (.goto 36, 3) := by decide +kernel
theorem dX8_writeTraffic_44 : decode cX8_writeTraffic 44 = .ok (.iload_n 1, 1) := by decide +kernel
theorem dX8_writeTraffic_45 : decode cX8_writeTraffic 45 = .ok (.iconst 1, 1) := by decide +kernel
theorem dX8_writeTraffic_46 : decode cX8_writeTraffic 46 = .ok (.if_icmp .ne 20, 3) := by decide +kernel
theorem dX8_writeTraffic_49 : decode cX8_writeTraffic 49 = .ok (.aload_n 2, 1) := by decide +kernel
theorem dX8_writeTraffic_50 : decode cX8_writeTraffic 50 = .ok (.iload 5, 2) := by decide +kernel
theorem dX8_writeTraffic_52 : decode cX8_writeTraffic 52 = .ok (.bipush 16, 2) := by decide +kernel
theorem dX8_writeTraffic_54 : decode cX8_writeTraffic 54 = .ok (.ishl, 1) := by decide +kernel
theorem dX8_writeTraffic_55 : decode cX8_writeTraffic 55 = .ok (.iload 4, 2) := by decide +kernel
theorem dX8_writeTraffic_57 : decode cX8_writeTraffic 57 = .ok (.ior, 1) := by decide +kernel
theorem dX8_writeTraffic_58 : decode cX8_writeTraffic 58 = .ok (.i2l, 1) := by decide +kernel
theorem dX8_writeTraffic_59 : decode cX8_writeTraffic 59 = .ok (.iconst 3, 1) := by decide +kernel
theorem dX8_writeTraffic_60 : decode cX8_writeTraffic 60 = .ok (.invokevirtual 95, 3) := by decide +kernel
theorem dX8_writeTraffic_63 : decode cX8_writeTraffic 63 = .ok (.goto 14, 3) := by decide +kernel
theorem dX8_writeTraffic_66 : decode cX8_writeTraffic 66 = .ok (.iload_n 1, 1) := by decide +kernel
theorem dX8_writeTraffic_67 : decode cX8_writeTraffic 67 = .ok (.iconst 2, 1) := by decide +kernel
theorem dX8_writeTraffic_68 : decode cX8_writeTraffic 68 = .ok (.if_icmp .ne 9, 3) := by decide +kernel
theorem dX8_writeTraffic_71 : decode cX8_writeTraffic 71 = .ok (.aload_n 2, 1) := by decide +kernel
theorem dX8_writeTraffic_72 : decode cX8_writeTraffic 72 = .ok (.iload 5, 2) := by decide +kernel
theorem dX8_writeTraffic_74 : decode cX8_writeTraffic 74 = .ok (.invokevirtual 53, 3) := by decide +kernel
theorem dX8_writeTraffic_77 : decode cX8_writeTraffic 77 = .ok (.return_, 1) := by decide +kernel
theorem dX8_writeAddress_0 : decode cX8_writeAddress 0 = .ok (.iload_n 0, 1) := by decide +kernel
theorem dX8_writeAddress_1 : decode cX8_writeAddress 1 = .ok (.invokestatic 99, 3) := by decide +kernel
theorem dX8_writeAddress_4 : decode cX8_writeAddress 4 = .ok (.istore 6, 2) := by decide +kernel
theorem dX8_writeAddress_6 : decode cX8_writeAddress 6 = .ok (.iload 6, 2) := by decide +kernel
theorem dX8_writeAddress_8 : decode cX8_writeAddress 8 = .ok (.bipush 16, 2) := by decide +kernel
theorem dX8_writeAddress_10 : decode cX8_writeAddress 10 = .ok (.if_icmp .ne 22, 3) := by decide +kernel
theorem dX8_writeAddress_13 : decode cX8_writeAddress 13 = .ok (.aload 5, 2) := by decide +kernel
theorem dX8_writeAddress_15 : decode cX8_writeAddress 15 = .ok (.lload_n 1, 1) := by decide +kernel
theorem dX8_writeAddress_16 : decode cX8_writeAddress 16 = .ok (.bipush 8, 2) := by decide +kernel
theorem dX8_writeAddress_18 : decode cX8_writeAddress 18 = .ok (.invokevirtual 95, 3) := by decide +kernel
theorem dX8_writeAddress_21 : decode cX8_writeAddress 21 = .ok (.aload 5, 2) := by decide +kernel
theorem dX8_writeAddress_23 : decode cX8_writeAddress 23 = .ok (.lload_n 3, 1) := by decide +kernel
theorem dX8_writeAddress_24 : decode cX8_writeAddress 24 = .ok (.bipush 8, 2) := by decide +kernel
theorem dX8_writeAddress_26 : decode cX8_writeAddress 26 = .ok (.invokevirtual 95, 3) := by decide +kernel
theorem dX8_writeAddress_29 : decode cX8_writeAddress 29 = .ok (.goto 46, 3) := by decide +kernel
theorem dX8_writeAddress_32 : decode cX8_writeAddress 32 = .ok (.iload_n 0, 1) := by decide +kernel
theorem dX8_writeAddress_33 : decode cX8_writeAddress 33 = .ok (.bipush 9, 2) := by decide +kernel
theorem dX8_writeAddress_35 : decode cX8_writeAddress 35 = .ok (.if_icmp .eq 9, 3) := by decide +kernel
theorem dX8_writeAddress_38 : decode cX8_writeAddress 38 = .ok (.iload_n 0, 1) := by decide +kernel
theorem dX8_writeAddress_39 : decode cX8_writeAddress 39 = .ok (.bipush 10, 2) := by decide +kernel
theorem dX8_writeAddress_41 : decode cX8_writeAddress 41 = .ok (.if_icmp .ne 26, 3) := by decide +kernel
theorem dX8_writeAddress_44 : decode cX8_writeAddress 44 = .ok (.aload 5, 2) := by decide +kernel
theorem dX8_writeAddress_46 : decode cX8_writeAddress 46 = .ok (.lload_n 1, 1) := by decide +kernel
theorem dX8_writeAddress_47 : decode cX8_writeAddress 47 = .ok (.bipush 48, 2) := by decide +kernel
theorem dX8_writeAddress_49 : decode cX8_writeAddress 49 = .ok (.lushr, 1) := by decide +kernel
theorem dX8_writeAddress_50 : decode cX8_writeAddress 50 = .ok (.l2i, 1) := by decide +kernel
theorem dX8_writeAddress_51 : decode cX8_writeAddress 51 = .ok (.invokevirtual 53, 3) := by decide +kernel
theorem dX8_writeAddress_54 : decode cX8_writeAddress 54 = .ok (.aload 5, 2) := by decide +kernel
theorem dX8_writeAddress_56 : decode cX8_writeAddress 56 = .ok (.lload_n 3, 1) := by decide +kernel
theorem dX8_writeAddress_57 : decode cX8_writeAddress 57 = .ok (.iload 6, 2) := by decide +kernel
theorem dX8_writeAddress_59 : decode cX8_writeAddress 59 = .ok (.iconst 1, 1) := by decide +kernel
theorem dX8_writeAddress_60 : decode cX8_writeAddress 60 = .ok (.isub, 1) := by decide +kernel
theorem dX8_writeAddress_61 : decode cX8_writeAddress 61 = .ok (.invokevirtual 95, 3) := by decide +kernel
theorem dX8_writeAddress_64 : decode cX8_writeAddress 64 = .ok (.goto 11, 3) := by decide +kernel
theorem dX8_writeAddress_67 : decode cX8_writeAddress 67 = .ok (.aload 5, 2) := by decide +kernel
theorem dX8_writeAddress_69 : decode cX8_writeAddress 69 = .ok (.lload_n 3, 1) := by decide +kernel
theorem dX8_writeAddress_70 : decode cX8_writeAddress 70 = .ok (.iload 6, 2) := by decide +kernel
theorem dX8_writeAddress_72 : decode cX8_writeAddress 72 = .ok (.invokevirtual 95, 3) := by decide +kernel
theorem dX8_writeAddress_75 : decode cX8_writeAddress 75 = .ok (.return_, 1) := by decide +kernel
theorem dX8_writePorts_0 : decode cX8_writePorts 0 = .ok (.aload_n 0, 1) := by decide +kernel
theorem dX8_writePorts_1 : decode cX8_writePorts 1 = .ok (.bipush 40, 2) := by decide +kernel
theorem dX8_writePorts_3 : decode cX8_writePorts 3 = .ok (.iconst 2, 1) := by decide +kernel
theorem dX8_writePorts_4 : decode cX8_writePorts 4 = .ok (.invokevirtual 32, 3) := by decide +kernel
theorem dX8_writePorts_7 : decode cX8_writePorts 7 = .ok (.l2i, 1) := by decide +kernel
theorem dX8_writePorts_8 : decode cX8_writePorts 8 = .ok (.istore_n 2, 1) := by decide +kernel
theorem dX8_writePorts_9 : decode cX8_writePorts 9 = .ok (.aload_n 0, 1) := by decide +kernel
theorem dX8_writePorts_10 : decode cX8_writePorts 10 = .ok (.bipush 42, 2) := by decide +kernel
theorem dX8_writePorts_12 : decode cX8_writePorts 12 = .ok (.iconst 2, 1) := by decide +kernel
theorem dX8_writePorts_13 : decode cX8_writePorts 13 = .ok (.invokevirtual 32, 3) := by decide +kernel
theorem dX8_writePorts_16 : decode cX8_writePorts 16 = .ok (.l2i, 1) := by decide +kernel
theorem dX8_writePorts_17 : decode cX8_writePorts 17 = .ok (.istore_n 3, 1) := by decide +kernel
theorem dX8_writePorts_18 : decode cX8_writePorts 18 = .ok (.iload_n 2, 1) := by decide +kernel
theorem dX8_writePorts_19 : decode cX8_writePorts 19 = .ok (.iconst 4, 1) := by decide +kernel
theorem dX8_writePorts_20 : decode cX8_writePorts 20 = .ok (.ishr, 1) := by decide +kernel
theorem dX8_writePorts_21 : decode cX8_writePorts 21 = .ok (.sipush 3851, 3) := by decide +kernel
theorem dX8_writePorts_24 : decode cX8_writePorts 24 = .ok (.if_icmp .ne 37, 3) := by decide +kernel
theorem dX8_writePorts_27 : decode cX8_writePorts 27 = .ok (.iload_n 3, 1) := by decide +kernel
theorem dX8_writePorts_28 : decode cX8_writePorts 28 = .ok (.iconst 4, 1) := by decide +kernel
theorem dX8_writePorts_29 : decode cX8_writePorts 29 = .ok (.ishr, 1) := by decide +kernel
theorem dX8_writePorts_30 : decode cX8_writePorts 30 = .ok (.sipush 3851, 3) := by decide +kernel
theorem dX8_writePorts_33 : decode cX8_writePorts 33 = .ok (.if_icmp .ne 28, 3) := by decide +kernel
theorem dX8_writePorts_36 : decode cX8_writePorts 36 = .ok (.aload_n 1, 1) := by decide +kernel
theorem dX8_writePorts_37 : decode cX8_writePorts 37 = .ok (.sipush 243, 3) := by decide +kernel
theorem dX8_writePorts_40 : decode cX8_writePorts 40 = .ok (.invokevirtual 53, 3) := by decide +kernel
theorem dX8_writePorts_43 : decode cX8_writePorts 43 = .ok (.aload_n 1, 1) := by decide +kernel
theorem dX8_writePorts_44 : decode cX8_writePorts 44 = .ok (.iload_n 2, 1) := by decide +kernel
theorem dX8_writePorts_45 : decode cX8_writePorts 45 = .ok (.bipush 15, 2) := by decide +kernel
theorem dX8_writePorts_47 : decode cX8_writePorts 47 = .ok (.iand, 1) := by decide +kernel
theorem dX8_writePorts_48 : decode cX8_writePorts 48 = .ok (.iconst 4, 1) := by decide +kernel
theorem dX8_writePorts_49 : decode cX8_writePorts 49 = .ok (.ishl, 1) := by decide +kernel
theorem dX8_writePorts_50 : decode cX8_writePorts 50 = .ok (.iload_n 3, 1) := by decide +kernel
theorem dX8_writePorts_51 : decode cX8_writePorts 51 = .ok (.bipush 15, 2) := by decide +kernel
theorem dX8_writePorts_53 : decode cX8_writePorts 53 = .ok (.iand, 1) := by decide +kernel
theorem dX8_writePorts_54 : decode cX8_writePorts 54 = .ok (.ior, 1) := by decide +kernel
theorem dX8_writePorts_55 : decode cX8_writePorts 55 = .ok (.invokevirtual 53, 3) := by decide +kernel
theorem dX8_writePorts_58 : decode cX8_writePorts 58 = .ok (.goto 88, 3) := by decide +kernel
theorem dX8_writePorts_61 : decode cX8_writePorts 61 = .ok (.iload_n 3, 1) := by decide +kernel
theorem dX8_writePorts_62 : decode cX8_writePorts 62 = .ok (.bipush 8, 2) := by decide +kernel
theorem dX8_writePorts_64 : decode cX8_writePorts 64 = .ok (.ishr, 1) := by decide +kernel
theorem dX8_writePorts_65 : decode cX8_writePorts 65 = .ok (.sipush 240, 3) := by decide +kernel
theorem dX8_writePorts_68 : decode cX8_writePorts 68 = .ok (.if_icmp .ne 25, 3) := by decide +kernel
theorem dX8_writePorts_71 : decode cX8_writePorts 71 = .ok (.aload_n 1, 1) := by decide +kernel
theorem dX8_writePorts_72 : decode cX8_writePorts 72 = .ok (.sipush 241, 3) := by decide +kernel
theorem dX8_writePorts_75 : decode cX8_writePorts 75 = .ok (.invokevirtual 53, 3) := by decide +kernel
theorem dX8_writePorts_78 : decode cX8_writePorts 78 = .ok (.aload_n 1, 1) := by decide +kernel
theorem dX8_writePorts_79 : decode cX8_writePorts 79 = .ok (.iload_n 2, 1) := by decide +kernel
theorem dX8_writePorts_80 : decode cX8_writePorts 80 = .ok (.i2l, 1) := by decide +kernel
theorem dX8_writePorts_81 : decode cX8_writePorts 81 = .ok (.iconst 2, 1) := by decide +kernel
theorem dX8_writePorts_82 : decode cX8_writePorts 82 = .ok (.invokevirtual 95, 3) := by decide +kernel
theorem dX8_writePorts_85 : decode cX8_writePorts 85 = .ok (.aload_n 1, 1) := by decide +kernel
theorem dX8_writePorts_86 : decode cX8_writePorts 86 = .ok (.iload_n 3, 1) := by decide +kernel
theorem dX8_writePorts_87 : decode cX8_writePorts 87 = .ok (.invokevirtual 53, 3) := by decide +kernel
theorem dX8_writePorts_90 : decode cX8_writePorts 90 = .ok (.goto 56, 3) := by decide +kernel
theorem dX8_writePorts_93 : decode cX8_writePorts 93 = .ok (.iload_n 2, 1) := by decide +kernel
theorem dX8_writePorts_94 : decode cX8_writePorts 94 = .ok (.bipush 8, 2) := by decide +kernel
theorem dX8_writePorts_96 : decode cX8_writePorts 96 = .ok (.ishr, 1) := by decide +kernel
theorem dX8_writePorts_97 : decode cX8_writePorts 97 = .ok (.sipush 240, 3) := by decide +kernel
theorem dX8_writePorts_100 : decode cX8_writePorts 100 = .ok (.if_icmp .ne 25, 3) := by decide +kernel
theorem dX8_writePorts_103 : decode cX8_writePorts 103 = .ok (.aload_n 1, 1) := by decide +kernel
theorem dX8_writePorts_104 : decode cX8_writePorts 104 = .ok (.sipush 242, 3) := by decide +kernel
theorem dX8_writePorts_107 : decode cX8_writePorts 107 = .ok (.invokevirtual 53, 3) := by decide +kernel
theorem dX8_writePorts_110 : decode cX8_writePorts 110 = .ok (.aload_n 1, 1) := by decide +kernel
theorem dX8_writePorts_111 : decode cX8_writePorts 111 = .ok (.iload_n 2, 1) := by decide +kernel
theorem dX8_writePorts_112 : decode cX8_writePorts 112 = .ok (.invokevirtual 53, 3) := by decide +kernel
theorem dX8_writePorts_115 : decode cX8_writePorts 115 = .ok (.aload_n 1, 1) := by decide +kernel
theorem dX8_writePorts_116 : decode cX8_writePorts 116 = .ok (.iload_n 3, 1) := by decide +kernel
theorem dX8_writePorts_117 : decode cX8_writePorts 117 = .ok (.i2l, 1) := by decide +kernel
theorem dX8_writePorts_118 : decode cX8_writePorts 118 = .ok (.iconst 2, 1) := by decide +kernel
theorem dX8_writePorts_119 : decode cX8_writePorts 119 = .ok (.invokevirtual 95, 3) := by decide +kernel
theorem dX8_writePorts_122 : decode cX8_writePorts 122 = .ok (.goto 24, 3) := by decide +kernel
theorem dX8_writePorts_125 : decode cX8_writePorts 125 = .ok (.aload_n 1, 1) := by decide +kernel
theorem dX8_writePorts_126 : decode cX8_writePorts 126 = .ok (.sipush 240, 3) := by decide +kernel
theorem dX8_writePorts_129 : decode cX8_writePorts 129 = .ok (.invokevirtual 53, 3) := by decide +kernel
theorem dX8_writePorts_132 : decode cX8_writePorts 132 = .ok (.aload_n 1, 1) := by decide +kernel
theorem dX8_writePorts_133 : decode cX8_writePorts 133 = .ok (.iload_n 2, 1) := by decide +kernel
theorem dX8_writePorts_134 : decode cX8_writePorts 134 = .ok (.i2l, 1) := by decide +kernel
theorem dX8_writePorts_135 : decode cX8_writePorts 135 = .ok (.iconst 2, 1) := by decide +kernel
theorem dX8_writePorts_136 : decode cX8_writePorts 136 = .ok (.invokevirtual 95, 3) := by decide +kernel
theorem dX8_writePorts_139 : decode cX8_writePorts 139 = .ok (.aload_n 1, 1) := by decide +kernel
theorem dX8_writePorts_140 : decode cX8_writePorts 140 = .ok (.iload_n 3, 1) := by decide +kernel
theorem dX8_writePorts_141 : decode cX8_writePorts 141 = .ok (.i2l, 1) := by decide +kernel
theorem dX8_writePorts_142 : decode cX8_writePorts 142 = .ok (.iconst 2, 1) := by decide +kernel
theorem dX8_writePorts_143 : decode cX8_writePorts 143 = .ok (.invokevirtual 95, 3) := by decide +kernel
theorem dX8_writePorts_146 : decode cX8_writePorts 146 = .ok (.aload_n 1, 1) := by decide +kernel
theorem dX8_writePorts_147 : decode cX8_writePorts 147 = .ok (.aload_n 0, 1) := by decide +kernel
theorem dX8_writePorts_148 : decode cX8_writePorts 148 = .ok (.bipush 46, 2) := by decide +kernel
theorem dX8_writePorts_150 : decode cX8_writePorts 150 = .ok (.iconst 2, 1) := by decide +kernel
theorem dX8_writePorts_151 : decode cX8_writePorts 151 = .ok (.invokevirtual 32, 3) := by decide +kernel
theorem dX8_writePorts_154 : decode cX8_writePorts 154 = .ok (.iconst 2, 1) := by decide +kernel
theorem dX8_writePorts_155 : decode cX8_writePorts 155 = .ok (.invokevirtual 95, 3) := by decide +kernel
theorem dX8_writePorts_158 : decode cX8_writePorts 158 = .ok (.return_, 1) := by decide +kernel
theorem dX9_init_0 : decode cX9_init 0 = .ok (.aload_n 0, 1) := by decide +kernel
theorem dX9_init_1 : decode cX9_init 1 = .ok (.invokespecial 3, 3) := by decide +kernel
theorem dX9_init_4 : decode cX9_init 4 = .ok (.aload_n 0, 1) := by decide +kernel
theorem dX9_init_5 : decode cX9_init 5 = .ok (.new 9, 3) := by decide +kernel
theorem dX9_init_8 : decode cX9_init 8 = .ok (.dup, 1) := by decide +kernel
theorem dX9_init_9 : decode cX9_init 9 = .ok (.sipush 600, 3) := by decide +kernel
theorem dX9_init_12 : decode cX9_init 12 = .ok (.invokespecial 11, 3) := by decide +kernel
theorem dX9_init_15 : decode cX9_init 15 = .ok (.putfield 14, 3) := by decide +kernel
theorem dX9_init_18 : decode cX9_init 18 = .ok (.aload_n 0, 1) := by decide +kernel
theorem dX9_init_19 : decode cX9_init 19 = .ok (.aload_n 1, 1) := by decide +kernel
theorem dX9_init_20 : decode cX9_init 20 = .ok (.putfield 20, 3) := by decide +kernel
theorem dX9_init_23 : decode cX9_init 23 = .ok (.return_, 1) := by decide +kernel
theorem dX9_packet_0 : decode cX9_packet 0 = .ok (.aload_n 0, 1) := by decide +kernel
theorem dX9_packet_1 : decode cX9_packet 1 = .ok (.getfield 14, 3) := by decide +kernel
theorem dX9_packet_4 : decode cX9_packet 4 = .ok (.areturn, 1) := by decide +kernel
theorem dX9_read_0 : decode cX9_read 0 = .ok (.aload_n 0, 1) := by decide +kernel
theorem dX9_read_1 : decode cX9_read 1 = .ok (.iload_n 2, 1) := by decide +kernel
theorem dX9_read_2 : decode cX9_read 2 = .ok (.putfield 50, 3) := by decide +kernel
theorem dX9_read_5 : decode cX9_read 5 = .ok (.aload_n 0, 1) := by decide +kernel
theorem dX9_read_6 : decode cX9_read 6 = .ok (.iconst 0, 1) := by decide +kernel
theorem dX9_read_7 : decode cX9_read 7 = .ok (.putfield 24, 3) := by decide +kernel
theorem dX9_read_10 : decode cX9_read 10 = .ok (.aload_n 0, 1) := by decide +kernel
theorem dX9_read_11 : decode cX9_read 11 = .ok (.iconst 0, 1) := by decide +kernel
theorem dX9_read_12 : decode cX9_read 12 = .ok (.putfield 28, 3) := by decide +kernel
theorem dX9_read_15 : decode cX9_read 15 = .ok (.aload_n 0, 1) := by decide +kernel
theorem dX9_read_16 : decode cX9_read 16 = .ok (.iconst 0, 1) := by decide +kernel
theorem dX9_read_17 : decode cX9_read 17 = .ok (.putfield 53, 3) := by decide +kernel
theorem dX9_read_20 : decode cX9_read 20 = .ok (.aload_n 0, 1) := by decide +kernel
theorem dX9_read_21 : decode cX9_read 21 = .ok (.bipush (-2), 2) := by decide +kernel
theorem dX9_read_23 : decode cX9_read 23 = .ok (.putfield 44, 3) := by decide +kernel
theorem dX9_read_26 : decode cX9_read 26 = .ok (.aload_n 0, 1) := by decide +kernel
theorem dX9_read_27 : decode cX9_read 27 = .ok (.getfield 14, 3) := by decide +kernel
theorem dX9_read_30 : decode cX9_read 30 = .ok (.bipush 40, 2) := by decide +kernel
theorem dX9_read_32 : decode cX9_read 32 = .ok (.invokevirtual 56, 3) := by decide +kernel
theorem dX9_read_35 : decode cX9_read 35 = .ok (.aload_n 0, 1) := by decide +kernel
theorem dX9_read_36 : decode cX9_read 36 = .ok (.aload_n 1, 1) := by decide +kernel
theorem dX9_read_37 : decode cX9_read 37 = .ok (.invokevirtual 59, 3) := by decide +kernel
theorem dX9_read_40 : decode cX9_read 40 = .ok (.ifCond .eq 75, 3) := by decide +kernel
theorem dX9_read_43 : decode cX9_read 43 = .ok (.aload_n 0, 1) := by decide +kernel
theorem dX9_read_44 : decode cX9_read 44 = .ok (.aload_n 1, 1) := by decide +kernel
theorem dX9_read_45 : decode cX9_read 45 = .ok (.invokevirtual 63, 3) := by decide +kernel
theorem dX9_read_48 : decode cX9_read 48 = .ok (.ifCond .eq 67, 3) := by decide +kernel
theorem dX9_read_51 : decode cX9_read 51 = .ok (.aload_n 0, 1) := by decide +kernel
theorem dX9_read_52 : decode cX9_read 52 = .ok (.aload_n 1, 1) := by decide +kernel
theorem dX9_read_53 : decode cX9_read 53 = .ok (.invokevirtual 66, 3) := by decide +kernel
theorem dX9_read_56 : decode cX9_read 56 = .ok (.ifCond .eq 59, 3) := by decide +kernel
theorem dX9_read_59 : decode cX9_read 59 = .ok (.aload_n 0, 1) := by decide +kernel
theorem dX9_read_60 : decode cX9_read 60 = .ok (.aload_n 1, 1) := by decide +kernel
theorem dX9_read_61 : decode cX9_read 61 = .ok (.invokevirtual 69, 3) := by decide +kernel
theorem dX9_read_64 : decode cX9_read 64 = .ok (.ifCond .eq 51, 3) := by decide +kernel
theorem dX9_read_67 : decode cX9_read 67 = .ok (.aload_n 0, 1) := by decide +kernel
theorem dX9_read_68 : decode cX9_read 68 = .ok (.aload_n 1, 1) := by decide +kernel
theorem dX9_read_69 : decode cX9_read 69 = .ok (.invokevirtual 72, 3) := by decide +kernel
theorem dX9_read_72 : decode cX9_read 72 = .ok (.ifCond .eq 43, 3) := by decide +kernel
theorem dX9_read_75 : decode cX9_read 75 = .ok (.aload_n 0, 1) := by decide +kernel
theorem dX9_read_76 : decode cX9_read 76 = .ok (.aload_n 1, 1) := by decide +kernel
theorem dX9_read_77 : decode cX9_read 77 = .ok (.aload_n 0, 1) := by decide +kernel
theorem dX9_read_78 : decode cX9_read 78 = .ok (.invokevirtual 38, 3) := by decide +kernel
theorem dX9_read_81 : decode cX9_read 81 = .ok (.bipush 8, 2) := by decide +kernel
theorem dX9_read_83 : decode cX9_read 83 = .ok (.invokevirtual 77, 3) := by decide +kernel
theorem dX9_read_86 : decode cX9_read 86 = .ok (.ifCond .eq 29, 3) := by decide +kernel
theorem dX9_read_89 : decode cX9_read 89 = .ok (.aload_n 0, 1) := by decide +kernel
theorem dX9_read_90 : decode cX9_read 90 = .ok (.aload_n 1, 1) := by decide +kernel
theorem dX9_read_91 : decode cX9_read 91 = .ok (.aload_n 0, 1) := by decide +kernel
theorem dX9_read_92 : decode cX9_read 92 = .ok (.invokevirtual 41, 3) := by decide +kernel
theorem dX9_read_95 : decode cX9_read 95 = .ok (.bipush 24, 2) := by decide +kernel
theorem dX9_read_97 : decode cX9_read 97 = .ok (.invokevirtual 77, 3) := by decide +kernel
theorem dX9_read_100 : decode cX9_read 100 = .ok (.ifCond .eq 15, 3) := by decide +kernel
theorem dX9_read_103 : decode cX9_read 103 = .ok (.aload_n 0, 1) := by decide +kernel
theorem dX9_read_104 : decode cX9_read 104 = .ok (.aload_n 1, 1) := by decide +kernel
theorem dX9_read_105 : decode cX9_read 105 = .ok (.invokevirtual 81, 3) := by decide +kernel
theorem dX9_read_108 : decode cX9_read 108 = .ok (.ifCond .eq 7, 3) := by decide +kernel
theorem dX9_read_111 : decode cX9_read 111 = .ok (.iconst 1, 1) := by decide +kernel
theorem dX9_read_112 : decode cX9_read 112 = .ok (.goto 4, 3) := by decide +kernel
theorem dX9_read_115 : decode cX9_read 115 = .ok (.iconst 0, 1) := by decide +kernel
theorem dX9_read_116 : decode cX9_read 116 = .ok (.istore 4, 2) := by decide +kernel
theorem dX9_read_118 : decode cX9_read 118 = .ok (.aload_n 0, 1) := by decide +kernel
theorem dX9_read_119 : decode cX9_read 119 = .ok (.aload_n 0, 1) := by decide +kernel
theorem dX9_read_120 : decode cX9_read 120 = .ok (.getfield 50, 3) := by decide +kernel
theorem dX9_read_123 : decode cX9_read 123 = .ok (.iload_n 2, 1) := by decide +kernel
theorem dX9_read_124 : decode cX9_read 124 = .ok (.isub, 1) := by decide +kernel
theorem dX9_read_125 : decode cX9_read 125 = .ok (.putfield 47, 3) := by decide +kernel
theorem dX9_read_128 : decode cX9_read 128 = .ok (.iload 4, 2) := by decide +kernel
theorem dX9_read_130 : decode cX9_read 130 = .ok (.ifCond .eq 16, 3) := by decide +kernel
theorem dX9_read_133 : decode cX9_read 133 = .ok (.aload_n 0, 1) := by decide +kernel
theorem dX9_read_134 : decode cX9_read 134 = .ok (.aload_n 1, 1) := by decide +kernel
theorem dX9_read_135 : decode cX9_read 135 = .ok (.iload_n 3, 1) := by decide +kernel
theorem dX9_read_136 : decode cX9_read 136 = .ok (.invokevirtual 84, 3) := by decide +kernel
theorem dX9_read_139 : decode cX9_read 139 = .ok (.ifCond .eq 7, 3) := by decide +kernel
theorem dX9_read_142 : decode cX9_read 142 = .ok (.iconst 1, 1) := by decide +kernel
theorem dX9_read_143 : decode cX9_read 143 = .ok (.goto 4, 3) := by decide +kernel
theorem dX9_read_146 : decode cX9_read 146 = .ok (.iconst 0, 1) := by decide +kernel
theorem dX9_read_147 : decode cX9_read 147 = .ok (.ireturn, 1) := by decide +kernel
theorem dX9_fails_0 : decode cX9_fails 0 = .ok (.aload_n 0, 1) := by decide +kernel
theorem dX9_fails_1 : decode cX9_fails 1 = .ok (.iload_n 1, 1) := by decide +kernel
theorem dX9_fails_2 : decode cX9_fails 2 = .ok (.putfield 24, 3) := by decide +kernel
theorem dX9_fails_5 : decode cX9_fails 5 = .ok (.aload_n 0, 1) := by decide +kernel
theorem dX9_fails_6 : decode cX9_fails 6 = .ok (.iload_n 2, 1) := by decide +kernel
theorem dX9_fails_7 : decode cX9_fails 7 = .ok (.putfield 28, 3) := by decide +kernel
theorem dX9_fails_10 : decode cX9_fails 10 = .ok (.iconst 0, 1) := by decide +kernel
theorem dX9_fails_11 : decode cX9_fails 11 = .ok (.ireturn, 1) := by decide +kernel
theorem dX9_has_0 : decode cX9_has 0 = .ok (.iload_n 2, 1) := by decide +kernel
theorem dX9_has_1 : decode cX9_has 1 = .ok (.aload_n 1, 1) := by decide +kernel
theorem dX9_has_2 : decode cX9_has 2 = .ok (.invokevirtual 88, 3) := by decide +kernel
theorem dX9_has_5 : decode cX9_has 5 = .ok (.aload_n 0, 1) := by decide +kernel
theorem dX9_has_6 : decode cX9_has 6 = .ok (.getfield 50, 3) := by decide +kernel
theorem dX9_has_9 : decode cX9_has 9 = .ok (.isub, 1) := by decide +kernel
theorem dX9_has_10 : decode cX9_has 10 = .ok (.if_icmp .le 15, 3) := by decide +kernel
theorem dX9_has_13 : decode cX9_has 13 = .ok (.aload_n 0, 1) := by decide +kernel
theorem dX9_has_14 : decode cX9_has 14 = .ok (.iconst 1, 1) := by decide +kernel
theorem dX9_has_15 : decode cX9_has 15 = .ok (.aload_n 1, 1) := by decide +kernel
theorem dX9_has_16 : decode cX9_has 16 = .ok (.invokevirtual 88, 3) := by decide +kernel
theorem dX9_has_19 : decode cX9_has 19 = .ok (.invokevirtual 91, 3) := by decide +kernel
theorem dX9_has_22 : decode cX9_has 22 = .ok (.ifCond .eq 7, 3) := by decide +kernel
theorem dX9_has_25 : decode cX9_has 25 = .ok (.iconst 1, 1) := by decide +kernel
theorem dX9_has_26 : decode cX9_has 26 = .ok (.goto 4, 3) := by decide +kernel
theorem dX9_has_29 : decode cX9_has 29 = .ok (.iconst 0, 1) := by decide +kernel
theorem dX9_has_30 : decode cX9_has 30 = .ok (.ireturn, 1) := by decide +kernel
theorem dX9_next_0 : decode cX9_next 0 = .ok (.aload_n 1, 1) := by decide +kernel
theorem dX9_next_1 : decode cX9_next 1 = .ok (.aload_n 0, 1) := by decide +kernel
theorem dX9_next_2 : decode cX9_next 2 = .ok (.getfield 50, 3) := by decide +kernel
theorem dX9_next_5 : decode cX9_next 5 = .ok (.invokevirtual 95, 3) := by decide +kernel
theorem dX9_next_8 : decode cX9_next 8 = .ok (.istore_n 2, 1) := by decide +kernel
theorem dX9_next_9 : decode cX9_next 9 = .ok (.aload_n 0, 1) := by decide +kernel
theorem dX9_next_10 : decode cX9_next 10 = .ok (.dup, 1) := by decide +kernel
theorem dX9_next_11 : decode cX9_next 11 = .ok (.getfield 50, 3) := by decide +kernel
theorem dX9_next_14 : decode cX9_next 14 = .ok (.iconst 1, 1) := by decide +kernel
theorem dX9_next_15 : decode cX9_next 15 = .ok (.iadd, 1) := by decide +kernel
theorem dX9_next_16 : decode cX9_next 16 = .ok (.putfield 50, 3) := by decide +kernel
theorem dX9_next_19 : decode cX9_next 19 = .ok (.iload_n 2, 1) := by decide +kernel
theorem dX9_next_20 : decode cX9_next 20 = .ok (.ireturn, 1) := by decide +kernel
theorem dX9_traffic_0 : decode cX9_traffic 0 = .ok (.aload_n 0, 1) := by decide +kernel
theorem dX9_traffic_1 : decode cX9_traffic 1 = .ok (.getfield 98, 3) := by decide +kernel
theorem dX9_traffic_4 : decode cX9_traffic 4 = .ok (.iconst 3, 1) := by decide +kernel
theorem dX9_traffic_5 : decode cX9_traffic 5 = .ok (.ishr, 1) := by decide +kernel
theorem dX9_traffic_6 : decode cX9_traffic 6 = .ok (.iconst 3, 1) := by decide +kernel
theorem dX9_traffic_7 : decode cX9_traffic 7 = .ok (.iand, 1) := by decide +kernel
theorem dX9_traffic_8 : decode cX9_traffic 8 = .ok (.ireturn, 1) := by decide +kernel
theorem dX9_ports_0 : decode cX9_ports 0 = .ok (.aload_n 0, 1) := by decide +kernel
theorem dX9_ports_1 : decode cX9_ports 1 = .ok (.getfield 98, 3) := by decide +kernel
theorem dX9_ports_4 : decode cX9_ports 4 = .ok (.iconst 4, 1) := by decide +kernel
theorem dX9_ports_5 : decode cX9_ports 5 = .ok (.iand, 1) := by decide +kernel
theorem dX9_ports_6 : decode cX9_ports 6 = .ok (.ifCond .eq 7, 3) := by decide +kernel
theorem dX9_ports_9 : decode cX9_ports 9 = .ok (.iconst 1, 1) := by decide +kernel
theorem dX9_ports_10 : decode cX9_ports 10 = .ok (.goto 4, 3) := by decide +kernel
theorem dX9_ports_13 : decode cX9_ports 13 = .ok (.iconst 0, 1) := by decide +kernel
theorem dX9_ports_14 : decode cX9_ports 14 = .ok (.ireturn, 1) := by decide +kernel
theorem dX9_source_0 : decode cX9_source 0 = .ok (.aload_n 0, 1) := by decide +kernel
theorem dX9_source_1 : decode cX9_source 1 = .ok (.getfield 35, 3) := by decide +kernel
theorem dX9_source_4 : decode cX9_source 4 = .ok (.iconst 4, 1) := by decide +kernel
theorem dX9_source_5 : decode cX9_source 5 = .ok (.ishr, 1) := by decide +kernel
theorem dX9_source_6 : decode cX9_source 6 = .ok (.bipush 7, 2) := by decide +kernel
theorem dX9_source_8 : decode cX9_source 8 = .ok (.iand, 1) := by decide +kernel
theorem dX9_source_9 : decode cX9_source 9 = .ok (.ireturn, 1) := by decide +kernel
theorem dX9_goal_0 : decode cX9_goal 0 = .ok (.aload_n 0, 1) := by decide +kernel
theorem dX9_goal_1 : decode cX9_goal 1 = .ok (.getfield 35, 3) := by decide +kernel
theorem dX9_goal_4 : decode cX9_goal 4 = .ok (.bipush 15, 2) := by decide +kernel
theorem dX9_goal_6 : decode cX9_goal 6 = .ok (.iand, 1) := by decide +kernel
theorem dX9_goal_7 : decode cX9_goal 7 = .ok (.ireturn, 1) := by decide +kernel
theorem dX9_readsForm_0 : decode cX9_readsForm 0 = .ok (.aload_n 0, 1) := by decide +kernel
theorem dX9_readsForm_1 : decode cX9_readsForm 1 = .ok (.aload_n 1, 1) := by decide +kernel
theorem dX9_readsForm_2 : decode cX9_readsForm 2 = .ok (.iconst 1, 1) := by decide +kernel
theorem dX9_readsForm_3 : decode cX9_readsForm 3 = .ok (.invokevirtual 101, 3) := by decide +kernel
theorem dX9_readsForm_6 : decode cX9_readsForm 6 = .ok (.ifCond .ne 5, 3) := by decide +kernel
theorem dX9_readsForm_9 : decode cX9_readsForm 9 = .ok (.iconst 0, 1) := by decide +kernel
theorem dX9_readsForm_10 : decode cX9_readsForm 10 = .ok (.ireturn, 1) := by decide +kernel
theorem dX9_readsForm_11 : decode cX9_readsForm 11 = .ok (.aload_n 1, 1) := by decide +kernel
theorem dX9_readsForm_12 : decode cX9_readsForm 12 = .ok (.aload_n 0, 1) := by decide +kernel
theorem dX9_readsForm_13 : decode cX9_readsForm 13 = .ok (.getfield 50, 3) := by decide +kernel
theorem dX9_readsForm_16 : decode cX9_readsForm 16 = .ok (.invokevirtual 95, 3) := by decide +kernel
theorem dX9_readsForm_19 : decode cX9_readsForm 19 = .ok (.iconst 5, 1) := by decide +kernel
theorem dX9_readsForm_20 : decode cX9_readsForm 20 = .ok (.ishr, 1) := by decide +kernel
theorem dX9_readsForm_21 : decode cX9_readsForm 21 = .ok (.iconst 3, 1) := by decide +kernel
theorem dX9_readsForm_22 : decode cX9_readsForm 22 = .ok (.if_icmp .eq 13, 3) := by decide +kernel
theorem dX9_readsForm_25 : decode cX9_readsForm 25 = .ok (.aload_n 0, 1) := by decide +kernel
theorem dX9_readsForm_26 : decode cX9_readsForm 26 = .ok (.iconst 2, 1) := by decide +kernel
theorem dX9_readsForm_27 : decode cX9_readsForm 27 = .ok (.aload_n 0, 1) := by decide +kernel
theorem dX9_readsForm_28 : decode cX9_readsForm 28 = .ok (.getfield 50, 3) := by decide +kernel
theorem dX9_readsForm_31 : decode cX9_readsForm 31 = .ok (.invokevirtual 91, 3) := by decide +kernel
theorem dX9_readsForm_34 : decode cX9_readsForm 34 = .ok (.ireturn, 1) := by decide +kernel
theorem dX9_readsForm_35 : decode cX9_readsForm 35 = .ok (.aload_n 0, 1) := by decide +kernel
theorem dX9_readsForm_36 : decode cX9_readsForm 36 = .ok (.aload_n 0, 1) := by decide +kernel
theorem dX9_readsForm_37 : decode cX9_readsForm 37 = .ok (.aload_n 1, 1) := by decide +kernel
theorem dX9_readsForm_38 : decode cX9_readsForm 38 = .ok (.invokevirtual 104, 3) := by decide +kernel
theorem dX9_readsForm_41 : decode cX9_readsForm 41 = .ok (.putfield 98, 3) := by decide +kernel
theorem dX9_readsForm_44 : decode cX9_readsForm 44 = .ok (.aload_n 0, 1) := by decide +kernel
theorem dX9_readsForm_45 : decode cX9_readsForm 45 = .ok (.aload_n 1, 1) := by decide +kernel
theorem dX9_readsForm_46 : decode cX9_readsForm 46 = .ok (.iconst 1, 1) := by decide +kernel
theorem dX9_readsForm_47 : decode cX9_readsForm 47 = .ok (.invokevirtual 101, 3) := by decide +kernel
theorem dX9_readsForm_50 : decode cX9_readsForm 50 = .ok (.ifCond .ne 5, 3) := by decide +kernel
theorem dX9_readsForm_53 : decode cX9_readsForm 53 = .ok (.iconst 0, 1) := by decide +kernel
theorem dX9_readsForm_54 : decode cX9_readsForm 54 = .ok (.ireturn, 1) := by decide +kernel
theorem dX9_readsForm_55 : decode cX9_readsForm 55 = .ok (.aload_n 0, 1) := by decide +kernel
theorem dX9_readsForm_56 : decode cX9_readsForm 56 = .ok (.aload_n 1, 1) := by decide +kernel
theorem dX9_readsForm_57 : decode cX9_readsForm 57 = .ok (.aload_n 0, 1) := by decide +kernel
theorem dX9_readsForm_58 : decode cX9_readsForm 58 = .ok (.getfield 50, 3) := by decide +kernel
theorem dX9_readsForm_61 : decode cX9_readsForm 61 = .ok (.invokevirtual 95, 3) := by decide +kernel
theorem dX9_readsForm_64 : decode cX9_readsForm 64 = .ok (.putfield 35, 3) := by decide +kernel
theorem dX9_readsForm_67 : decode cX9_readsForm 67 = .ok (.aload_n 0, 1) := by decide +kernel
theorem dX9_readsForm_68 : decode cX9_readsForm 68 = .ok (.invokevirtual 41, 3) := by decide +kernel
theorem dX9_readsForm_71 : decode cX9_readsForm 71 = .ok (.iconst 4, 1) := by decide +kernel
theorem dX9_readsForm_72 : decode cX9_readsForm 72 = .ok (.if_icmp .eq 12, 3) := by decide +kernel
theorem dX9_readsForm_75 : decode cX9_readsForm 75 = .ok (.aload_n 0, 1) := by decide +kernel
theorem dX9_readsForm_76 : decode cX9_readsForm 76 = .ok (.invokevirtual 41, 3) := by decide +kernel
theorem dX9_readsForm_79 : decode cX9_readsForm 79 = .ok (.bipush 11, 2) := by decide +kernel
theorem dX9_readsForm_81 : decode cX9_readsForm 81 = .ok (.if_icmp .le 13, 3) := by decide +kernel
theorem dX9_readsForm_84 : decode cX9_readsForm 84 = .ok (.aload_n 0, 1) := by decide +kernel
theorem dX9_readsForm_85 : decode cX9_readsForm 85 = .ok (.iconst 3, 1) := by decide +kernel
theorem dX9_readsForm_86 : decode cX9_readsForm 86 = .ok (.aload_n 0, 1) := by decide +kernel
theorem dX9_readsForm_87 : decode cX9_readsForm 87 = .ok (.getfield 50, 3) := by decide +kernel
theorem dX9_readsForm_90 : decode cX9_readsForm 90 = .ok (.invokevirtual 91, 3) := by decide +kernel
theorem dX9_readsForm_93 : decode cX9_readsForm 93 = .ok (.ireturn, 1) := by decide +kernel
theorem dX9_readsForm_94 : decode cX9_readsForm 94 = .ok (.aload_n 0, 1) := by decide +kernel
theorem dX9_readsForm_95 : decode cX9_readsForm 95 = .ok (.dup, 1) := by decide +kernel
theorem dX9_readsForm_96 : decode cX9_readsForm 96 = .ok (.getfield 50, 3) := by decide +kernel
theorem dX9_readsForm_99 : decode cX9_readsForm 99 = .ok (.iconst 1, 1) := by decide +kernel
theorem dX9_readsForm_100 : decode cX9_readsForm 100 = .ok (.iadd, 1) := by decide +kernel
theorem dX9_readsForm_101 : decode cX9_readsForm 101 = .ok (.putfield 50, 3) := by decide +kernel
theorem dX9_readsForm_104 : decode cX9_readsForm 104 = .ok (.iconst 1, 1) := by decide +kernel
theorem dX9_readsForm_105 : decode cX9_readsForm 105 = .ok (.ireturn, 1) := by decide +kernel
theorem dX9_readsContexts_0 : decode cX9_readsContexts 0 = .ok (.aload_n 0, 1) := by decide +kernel
theorem dX9_readsContexts_1 : decode cX9_readsContexts 1 = .ok (.getfield 50, 3) := by decide +kernel
theorem dX9_readsContexts_4 : decode cX9_readsContexts 4 = .ok (.iconst 1, 1) := by decide +kernel
theorem dX9_readsContexts_5 : decode cX9_readsContexts 5 = .ok (.isub, 1) := by decide +kernel
theorem dX9_readsContexts_6 : decode cX9_readsContexts 6 = .ok (.istore_n 2, 1) := by decide +kernel
theorem dX9_readsContexts_7 : decode cX9_readsContexts 7 = .ok (.aload_n 0, 1) := by decide +kernel
theorem dX9_readsContexts_8 : decode cX9_readsContexts 8 = .ok (.getfield 35, 3) := by decide +kernel
theorem dX9_readsContexts_11 : decode cX9_readsContexts 11 = .ok (.bipush 7, 2) := by decide +kernel
theorem dX9_readsContexts_13 : decode cX9_readsContexts 13 = .ok (.ishr, 1) := by decide +kernel
theorem dX9_readsContexts_14 : decode cX9_readsContexts 14 = .ok (.iconst 1, 1) := by decide +kernel
theorem dX9_readsContexts_15 : decode cX9_readsContexts 15 = .ok (.if_icmp .ne 28, 3) := by decide +kernel
theorem dX9_readsContexts_18 : decode cX9_readsContexts 18 = .ok (.aload_n 0, 1) := by decide +kernel
theorem dX9_readsContexts_19 : decode cX9_readsContexts 19 = .ok (.aload_n 1, 1) := by decide +kernel
theorem dX9_readsContexts_20 : decode cX9_readsContexts 20 = .ok (.iconst 1, 1) := by decide +kernel
theorem dX9_readsContexts_21 : decode cX9_readsContexts 21 = .ok (.invokevirtual 101, 3) := by decide +kernel
theorem dX9_readsContexts_24 : decode cX9_readsContexts 24 = .ok (.ifCond .ne 5, 3) := by decide +kernel
theorem dX9_readsContexts_27 : decode cX9_readsContexts 27 = .ok (.iconst 0, 1) := by decide +kernel
theorem dX9_readsContexts_28 : decode cX9_readsContexts 28 = .ok (.ireturn, 1) := by decide +kernel
theorem dX9_readsContexts_29 : decode cX9_readsContexts 29 = .ok (.aload_n 0, 1) := by decide +kernel
theorem dX9_readsContexts_30 : decode cX9_readsContexts 30 = .ok (.getfield 50, 3) := by decide +kernel
theorem dX9_readsContexts_33 : decode cX9_readsContexts 33 = .ok (.istore_n 2, 1) := by decide +kernel
theorem dX9_readsContexts_34 : decode cX9_readsContexts 34 = .ok (.aload_n 0, 1) := by decide +kernel
theorem dX9_readsContexts_35 : decode cX9_readsContexts 35 = .ok (.aload_n 0, 1) := by decide +kernel
theorem dX9_readsContexts_36 : decode cX9_readsContexts 36 = .ok (.aload_n 1, 1) := by decide +kernel
theorem dX9_readsContexts_37 : decode cX9_readsContexts 37 = .ok (.invokevirtual 104, 3) := by decide +kernel
theorem dX9_readsContexts_40 : decode cX9_readsContexts 40 = .ok (.putfield 53, 3) := by decide +kernel
theorem dX9_readsContexts_43 : decode cX9_readsContexts 43 = .ok (.aload_n 0, 1) := by decide +kernel
theorem dX9_readsContexts_44 : decode cX9_readsContexts 44 = .ok (.invokevirtual 38, 3) := by decide +kernel
theorem dX9_readsContexts_47 : decode cX9_readsContexts 47 = .ok (.invokestatic 110, 3) := by decide +kernel
theorem dX9_readsContexts_50 : decode cX9_readsContexts 50 = .ok (.ifCond .eq 23, 3) := by decide +kernel
theorem dX9_readsContexts_53 : decode cX9_readsContexts 53 = .ok (.aload_n 0, 1) := by decide +kernel
theorem dX9_readsContexts_54 : decode cX9_readsContexts 54 = .ok (.getfield 20, 3) := by decide +kernel
theorem dX9_readsContexts_57 : decode cX9_readsContexts 57 = .ok (.aload_n 0, 1) := by decide +kernel
theorem dX9_readsContexts_58 : decode cX9_readsContexts 58 = .ok (.getfield 53, 3) := by decide +kernel
theorem dX9_readsContexts_61 : decode cX9_readsContexts 61 = .ok (.iconst 4, 1) := by decide +kernel
theorem dX9_readsContexts_62 : decode cX9_readsContexts 62 = .ok (.ishr, 1) := by decide +kernel
theorem dX9_readsContexts_63 : decode cX9_readsContexts 63 = .ok (.invokevirtual 114, 3) := by decide +kernel
theorem dX9_readsContexts_66 : decode cX9_readsContexts 66 = .ok (.ifCond .ne 7, 3) := by decide +kernel
theorem dX9_readsContexts_69 : decode cX9_readsContexts 69 = .ok (.iconst 1, 1) := by decide +kernel
theorem dX9_readsContexts_70 : decode cX9_readsContexts 70 = .ok (.goto 4, 3) := by decide +kernel
theorem dX9_readsContexts_73 : decode cX9_readsContexts 73 = .ok (.iconst 0, 1) := by decide +kernel
theorem dX9_readsContexts_74 : decode cX9_readsContexts 74 = .ok (.istore_n 3, 1) := by decide +kernel
theorem dX9_readsContexts_75 : decode cX9_readsContexts 75 = .ok (.aload_n 0, 1) := by decide +kernel
theorem dX9_readsContexts_76 : decode cX9_readsContexts 76 = .ok (.invokevirtual 41, 3) := by decide +kernel
theorem dX9_readsContexts_79 : decode cX9_readsContexts 79 = .ok (.invokestatic 110, 3) := by decide +kernel
theorem dX9_readsContexts_82 : decode cX9_readsContexts 82 = .ok (.ifCond .eq 24, 3) := by decide +kernel
theorem dX9_readsContexts_85 : decode cX9_readsContexts 85 = .ok (.aload_n 0, 1) := by decide +kernel
theorem dX9_readsContexts_86 : decode cX9_readsContexts 86 = .ok (.getfield 20, 3) := by decide +kernel
theorem dX9_readsContexts_89 : decode cX9_readsContexts 89 = .ok (.aload_n 0, 1) := by decide +kernel
theorem dX9_readsContexts_90 : decode cX9_readsContexts 90 = .ok (.getfield 53, 3) := by decide +kernel
theorem dX9_readsContexts_93 : decode cX9_readsContexts 93 = .ok (.bipush 15, 2) := by decide +kernel
theorem dX9_readsContexts_95 : decode cX9_readsContexts 95 = .ok (.iand, 1) := by decide +kernel
theorem dX9_readsContexts_96 : decode cX9_readsContexts 96 = .ok (.invokevirtual 114, 3) := by decide +kernel
theorem dX9_readsContexts_99 : decode cX9_readsContexts 99 = .ok (.ifCond .ne 7, 3) := by decide +kernel
theorem dX9_readsContexts_102 : decode cX9_readsContexts 102 = .ok (.iconst 1, 1) := by decide +kernel
theorem dX9_readsContexts_103 : decode cX9_readsContexts 103 = .ok (.goto 4, 3) := by decide +kernel
theorem dX9_readsContexts_106 : decode cX9_readsContexts 106 = .ok (.iconst 0, 1) := by decide +kernel
theorem dX9_readsContexts_107 : decode cX9_readsContexts 107 = .ok (.istore 4, 2) := by decide +kernel
theorem dX9_readsContexts_109 : decode cX9_readsContexts 109 = .ok (.iload_n 3, 1) := by decide +kernel
theorem dX9_readsContexts_110 : decode cX9_readsContexts 110 = .ok (.ifCond .ne 8, 3) := by decide +kernel
theorem dX9_readsContexts_113 : decode cX9_readsContexts 113 = .ok (.iload 4, 2) := by decide +kernel
theorem dX9_readsContexts_115 : decode cX9_readsContexts 115 = .ok (.ifCond .eq 12, 3) := by decide +kernel
theorem dX9_readsContexts_118 : decode cX9_readsContexts 118 = .ok (.aload_n 0, 1) := by decide +kernel
theorem dX9_readsContexts_119 : decode cX9_readsContexts 119 = .ok (.iconst 4, 1) := by decide +kernel
theorem dX9_readsContexts_120 : decode cX9_readsContexts 120 = .ok (.iload_n 2, 1) := by decide +kernel
theorem dX9_readsContexts_121 : decode cX9_readsContexts 121 = .ok (.invokevirtual 91, 3) := by decide +kernel
theorem dX9_readsContexts_124 : decode cX9_readsContexts 124 = .ok (.ifCond .eq 7, 3) := by decide +kernel
theorem dX9_readsContexts_127 : decode cX9_readsContexts 127 = .ok (.iconst 1, 1) := by decide +kernel
theorem dX9_readsContexts_128 : decode cX9_readsContexts 128 = .ok (.goto 4, 3) := by decide +kernel
theorem dX9_readsContexts_131 : decode cX9_readsContexts 131 = .ok (.iconst 0, 1) := by decide +kernel
theorem dX9_readsContexts_132 : decode cX9_readsContexts 132 = .ok (.ireturn, 1) := by decide +kernel
theorem dX9_readsTraffic_0 : decode cX9_readsTraffic 0 = .ok (.aload_n 0, 1) := by decide +kernel
theorem dX9_readsTraffic_1 : decode cX9_readsTraffic 1 = .ok (.invokevirtual 31, 3) := by decide +kernel
theorem dX9_readsTraffic_4 : decode cX9_readsTraffic 4 = .ok (.istore_n 2, 1) := by decide +kernel
theorem dX9_readsTraffic_5 : decode cX9_readsTraffic 5 = .ok (.iload_n 2, 1) := by decide +kernel
theorem dX9_readsTraffic_6 : decode cX9_readsTraffic 6 = .ok (.ifCond .ne 7, 3) := by decide +kernel
theorem dX9_readsTraffic_9 : decode cX9_readsTraffic 9 = .ok (.iconst 4, 1) := by decide +kernel
theorem dX9_readsTraffic_10 : decode cX9_readsTraffic 10 = .ok (.goto 22, 3) := by decide +kernel
theorem dX9_readsTraffic_13 : decode cX9_readsTraffic 13 = .ok (.iload_n 2, 1) := by decide +kernel
theorem dX9_readsTraffic_14 : decode cX9_readsTraffic 14 = .ok (.iconst 1, 1) := by decide +kernel
theorem dX9_readsTraffic_15 : decode cX9_readsTraffic 15 = .ok (.if_icmp .ne 7, 3) := by decide +kernel
theorem dX9_readsTraffic_18 : decode cX9_readsTraffic 18 = .ok (.iconst 3, 1) := by decide +kernel
theorem dX9_readsTraffic_19 : decode cX9_readsTraffic 19 = .ok (.goto 13, 3) := by decide +kernel
theorem dX9_readsTraffic_22 : decode cX9_readsTraffic 22 = .ok (.iload_n 2, 1) := by decide +kernel
theorem dX9_readsTraffic_23 : decode cX9_readsTraffic 23 = .ok (.iconst 2, 1) := by decide +kernel
theorem dX9_readsTraffic_24 : decode cX9_readsTraffic 24 = .ok (.if_icmp .ne 7, 3) := by decide +kernel
theorem dX9_readsTraffic_27 : decode cX9_readsTraffic 27 = .ok (.iconst 1, 1) := by decide +kernel
theorem dX9_readsTraffic_28 : decode cX9_readsTraffic 28 = .ok (.goto 4, 3) := by decide +kernel
theorem dX9_readsTraffic_31 : decode cX9_readsTraffic 31 = .ok (.iconst 0, 1) := by decide +kernel
theorem dX9_readsTraffic_32 : decode cX9_readsTraffic 32 = .ok (.istore_n 3, 1) := by decide +kernel
theorem dX9_readsTraffic_33 : decode cX9_readsTraffic 33 = .ok (.aload_n 0, 1) := by decide +kernel
theorem dX9_readsTraffic_34 : decode cX9_readsTraffic 34 = .ok (.aload_n 1, 1) := by decide +kernel
theorem dX9_readsTraffic_35 : decode cX9_readsTraffic 35 = .ok (.iload_n 3, 1) := by decide +kernel
theorem dX9_readsTraffic_36 : decode cX9_readsTraffic 36 = .ok (.invokevirtual 101, 3) := by decide +kernel
theorem dX9_readsTraffic_39 : decode cX9_readsTraffic 39 = .ok (.ifCond .ne 5, 3) := by decide +kernel
theorem dX9_readsTraffic_42 : decode cX9_readsTraffic 42 = .ok (.iconst 0, 1) := by decide +kernel
theorem dX9_readsTraffic_43 : decode cX9_readsTraffic 43 = .ok (.ireturn, 1) := by decide +kernel
theorem dX9_readsTraffic_44 : decode cX9_readsTraffic 44 = .ok (.iload_n 3, 1) := by decide +kernel
theorem dX9_readsTraffic_45 : decode cX9_readsTraffic 45 = .ok (.ifCond .ne 7, 3) := by decide +kernel
theorem dX9_readsTraffic_48 : decode cX9_readsTraffic 48 = .ok (.iconst 0, 1) := by decide +kernel
theorem dX9_readsTraffic_49 : decode cX9_readsTraffic 49 = .ok (.goto 11, 3) := by decide +kernel
theorem dX9_readsTraffic_52 : decode cX9_readsTraffic 52 = .ok (.aload_n 1, 1) := by decide +kernel
theorem dX9_readsTraffic_53 : decode cX9_readsTraffic 53 = .ok (.aload_n 0, 1) := by decide +kernel
theorem dX9_readsTraffic_54 : decode cX9_readsTraffic 54 = .ok (.getfield 50, 3) := by decide +kernel
theorem dX9_readsTraffic_57 : decode cX9_readsTraffic 57 = .ok (.invokevirtual 95, 3) := by decide +kernel
theorem dX9_readsTraffic_60 : decode cX9_readsTraffic 60 = .ok (.istore 4, 2) := by decide +kernel
theorem dX9_readsTraffic_62 : decode cX9_readsTraffic 62 = .ok (.lconst 0, 1) := by decide +kernel
theorem dX9_readsTraffic_63 : decode cX9_readsTraffic 63 = .ok (.lstore 5, 2) := by decide +kernel
theorem dX9_readsTraffic_65 : decode cX9_readsTraffic 65 = .ok (.iconst 0, 1) := by decide +kernel
theorem dX9_readsTraffic_66 : decode cX9_readsTraffic 66 = .ok (.istore 7, 2) := by decide +kernel
theorem dX9_readsTraffic_68 : decode cX9_readsTraffic 68 = .ok (.iload_n 2, 1) := by decide +kernel
theorem dX9_readsTraffic_69 : decode cX9_readsTraffic 69 = .ok (.ifCond .ne 27, 3) := by decide +kernel
theorem dX9_readsTraffic_72 : decode cX9_readsTraffic 72 = .ok (.aload_n 1, 1) := by decide +kernel
theorem dX9_readsTraffic_73 : decode cX9_readsTraffic 73 = .ok (.aload_n 0, 1) := by decide +kernel
theorem dX9_readsTraffic_74 : decode cX9_readsTraffic 74 = .ok (.getfield 50, 3) := by decide +kernel
theorem dX9_readsTraffic_77 : decode cX9_readsTraffic 77 = .ok (.iconst 1, 1) := by decide +kernel
theorem dX9_readsTraffic_78 : decode cX9_readsTraffic 78 = .ok (.iadd, 1) := by decide +kernel
theorem dX9_readsTraffic_79 : decode cX9_readsTraffic 79 = .ok (.iconst 3, 1) := by decide +kernel
theorem dX9_readsTraffic_80 : decode cX9_readsTraffic 80 = .ok (.invokevirtual 119, 3) := by decide +kernel
theorem dX9_readsTraffic_83 : decode cX9_readsTraffic 83 = .ok (.lstore 5, 2) := by decide +kernel
theorem dX9_readsTraffic_85 : decode cX9_readsTraffic 85 = .ok (.lload 5, 2) := by decide +kernel
theorem dX9_readsTraffic_87 : decode cX9_readsTraffic 87 = .ok (.bipush 20, 2) := by decide +kernel
theorem dX9_readsTraffic_89 : decode cX9_readsTraffic 89 = .ok (.lushr, 1) := by decide +kernel
theorem dX9_readsTraffic_90 : decode cX9_readsTraffic 90 = .ok (.l2i, 1) := by decide +kernel
theorem dX9_readsTraffic_91 : decode cX9_readsTraffic 91 = .ok (.istore 7, 2) := by decide +kernel
theorem dX9_readsTraffic_93 : decode cX9_readsTraffic 93 = .ok (.goto 30, 3) := by decide +kernel
theorem dX9_readsTraffic_96 : decode cX9_readsTraffic 96 = .ok (.iload_n 2, 1) := by decide +kernel
theorem dX9_readsTraffic_97 : decode cX9_readsTraffic 97 = .ok (.iconst 1, 1) := by decide +kernel
theorem dX9_readsTraffic_98 : decode cX9_readsTraffic 98 = .ok (.if_icmp .ne 25, 3) := by decide +kernel
theorem dX9_readsTraffic_101 : decode cX9_readsTraffic 101 = .ok (.aload_n 1, 1) := by decide +kernel
theorem dX9_readsTraffic_102 : decode cX9_readsTraffic 102 = .ok (.aload_n 0, 1) := by decide +kernel
theorem dX9_readsTraffic_103 : decode cX9_readsTraffic 103 = .ok (.getfield 50, 3) := by decide +kernel
theorem dX9_readsTraffic_106 : decode cX9_readsTraffic 106 = .ok (.iconst 3, 1) := by decide +kernel
theorem dX9_readsTraffic_107 : decode cX9_readsTraffic 107 = .ok (.invokevirtual 119, 3) := by decide +kernel
theorem dX9_readsTraffic_110 : decode cX9_readsTraffic 110 = .ok (.ldc2_w 123, 3) := by decide +kernel
theorem dX9_readsTraffic_113 : decode cX9_readsTraffic 113 = .ok (.land, 1) := by decide +kernel
theorem dX9_readsTraffic_114 : decode cX9_readsTraffic 114 = .ok (.lstore 5, 2) := by decide +kernel
theorem dX9_readsTraffic_116 : decode cX9_readsTraffic 116 = .ok (.iload 4, 2) := by decide +kernel
theorem dX9_readsTraffic_118 : decode cX9_readsTraffic 118 = .ok (.bipush 48, 2) := by decide +kernel
theorem dX9_readsTraffic_120 : decode cX9_readsTraffic 120 = .ok (.iand, 1) := by decide +kernel
theorem dX9_readsTraffic_121 : decode cX9_readsTraffic 121 = .ok (.istore 7, 2) := by decide +kernel
theorem dX9_readsTraffic_123 : decode cX9_readsTraffic 123 = .ok (.iload 7, 2) := by decide +kernel
theorem dX9_readsTraffic_125 : decode cX9_readsTraffic 125 = .ok (.ifCond .eq 13, 3) := by decide +kernel
theorem dX9_readsTraffic_128 : decode cX9_readsTraffic 128 = .ok (.aload_n 0, 1) := by decide +kernel
theorem dX9_readsTraffic_129 : decode cX9_readsTraffic 129 = .ok (.iconst 5, 1) := by decide +kernel
theorem dX9_readsTraffic_130 : decode cX9_readsTraffic 130 = .ok (.aload_n 0, 1) := by decide +kernel
theorem dX9_readsTraffic_131 : decode cX9_readsTraffic 131 = .ok (.getfield 50, 3) := by decide +kernel
theorem dX9_readsTraffic_134 : decode cX9_readsTraffic 134 = .ok (.invokevirtual 91, 3) := by decide +kernel
theorem dX9_readsTraffic_137 : decode cX9_readsTraffic 137 = .ok (.ireturn, 1) := by decide +kernel
theorem dX9_readsTraffic_138 : decode cX9_readsTraffic 138 = .ok (.iload_n 2, 1) := by decide +kernel
theorem dX9_readsTraffic_139 : decode cX9_readsTraffic 139 = .ok (.iconst 1, 1) := by decide +kernel
theorem dX9_readsTraffic_140 : decode cX9_readsTraffic 140 = .ok (.if_icmp .ne 7, 3) := by decide +kernel
theorem dX9_readsTraffic_143 : decode cX9_readsTraffic 143 = .ok (.iconst 0, 1) := by decide +kernel
theorem dX9_readsTraffic_144 : decode cX9_readsTraffic 144 = .ok (.goto 8, 3) := by decide +kernel
theorem dX9_readsTraffic_147 : decode cX9_readsTraffic 147 = .ok (.iload 4, 2) := by decide +kernel
theorem dX9_readsTraffic_149 : decode cX9_readsTraffic 149 = .ok (.bipush 63, 2) := by decide +kernel
theorem dX9_readsTraffic_151 : decode cX9_readsTraffic 151 = .ok (.iand, 1) := by decide +kernel
theorem dX9_readsTraffic_152 : decode cX9_readsTraffic 152 = .ok (.istore 8, 2) := by decide +kernel
theorem dX9_readsTraffic_154 : decode cX9_readsTraffic 154 = .ok (.aload_n 0, 1) := by decide +kernel
theorem dX9_readsTraffic_155 : decode cX9_readsTraffic 155 = .ok (.getfield 14, 3) := by decide +kernel
theorem dX9_readsTraffic_158 : decode cX9_readsTraffic 158 = .ok (.iconst 0, 1) := by decide +kernel
theorem dX9_readsTraffic_159 : decode cX9_readsTraffic 159 = .ok (.iload 8, 2) := by decide +kernel
theorem dX9_readsTraffic_161 : decode cX9_readsTraffic 161 = .ok (.iconst 2, 1) := by decide +kernel
theorem dX9_readsTraffic_162 : decode cX9_readsTraffic 162 = .ok (.ishl, 1) := by decide +kernel
theorem dX9_readsTraffic_163 : decode cX9_readsTraffic 163 = .ok (.iload 4, 2) := by decide +kernel
theorem dX9_readsTraffic_165 : decode cX9_readsTraffic 165 = .ok (.bipush 6, 2) := by decide +kernel
theorem dX9_readsTraffic_167 : decode cX9_readsTraffic 167 = .ok (.ishr, 1) := by decide +kernel
theorem dX9_readsTraffic_168 : decode cX9_readsTraffic 168 = .ok (.ior, 1) := by decide +kernel
theorem dX9_readsTraffic_169 : decode cX9_readsTraffic 169 = .ok (.lload 5, 2) := by decide +kernel
theorem dX9_readsTraffic_171 : decode cX9_readsTraffic 171 = .ok (.l2i, 1) := by decide +kernel
theorem dX9_readsTraffic_172 : decode cX9_readsTraffic 172 = .ok (.invokestatic 125, 3) := by decide +kernel
theorem dX9_readsTraffic_175 : decode cX9_readsTraffic 175 = .ok (.iconst 4, 1) := by decide +kernel
theorem dX9_readsTraffic_176 : decode cX9_readsTraffic 176 = .ok (.invokevirtual 128, 3) := by decide +kernel
theorem dX9_readsTraffic_179 : decode cX9_readsTraffic 179 = .ok (.aload_n 0, 1) := by decide +kernel
theorem dX9_readsTraffic_180 : decode cX9_readsTraffic 180 = .ok (.dup, 1) := by decide +kernel
theorem dX9_readsTraffic_181 : decode cX9_readsTraffic 181 = .ok (.getfield 50, 3) := by decide +kernel
theorem dX9_readsTraffic_184 : decode cX9_readsTraffic 184 = .ok (.iload_n 3, 1) := by decide +kernel
theorem dX9_readsTraffic_185 : decode cX9_readsTraffic 185 = .ok (.iadd, 1) := by decide +kernel
theorem dX9_readsTraffic_186 : decode cX9_readsTraffic 186 = .ok (.putfield 50, 3) := by decide +kernel
theorem dX9_readsTraffic_189 : decode cX9_readsTraffic 189 = .ok (.iconst 1, 1) := by decide +kernel
theorem dX9_readsTraffic_190 : decode cX9_readsTraffic 190 = .ok (.ireturn, 1) := by decide +kernel
theorem dX9_readsKind_0 : decode cX9_readsKind 0 = .ok (.aload_n 0, 1) := by decide +kernel
theorem dX9_readsKind_1 : decode cX9_readsKind 1 = .ok (.invokevirtual 132, 3) := by decide +kernel
theorem dX9_readsKind_4 : decode cX9_readsKind 4 = .ok (.ifCond .eq 16, 3) := by decide +kernel
theorem dX9_readsKind_7 : decode cX9_readsKind 7 = .ok (.aload_n 0, 1) := by decide +kernel
theorem dX9_readsKind_8 : decode cX9_readsKind 8 = .ok (.getfield 14, 3) := by decide +kernel
theorem dX9_readsKind_11 : decode cX9_readsKind 11 = .ok (.bipush 6, 2) := by decide +kernel
theorem dX9_readsKind_13 : decode cX9_readsKind 13 = .ok (.bipush 17, 2) := by decide +kernel
theorem dX9_readsKind_15 : decode cX9_readsKind 15 = .ok (.invokevirtual 136, 3) := by decide +kernel
theorem dX9_readsKind_18 : decode cX9_readsKind 18 = .ok (.iconst 1, 1) := by decide +kernel
theorem dX9_readsKind_19 : decode cX9_readsKind 19 = .ok (.ireturn, 1) := by decide +kernel
theorem dX9_readsKind_20 : decode cX9_readsKind 20 = .ok (.aload_n 0, 1) := by decide +kernel
theorem dX9_readsKind_21 : decode cX9_readsKind 21 = .ok (.aload_n 1, 1) := by decide +kernel
theorem dX9_readsKind_22 : decode cX9_readsKind 22 = .ok (.iconst 1, 1) := by decide +kernel
theorem dX9_readsKind_23 : decode cX9_readsKind 23 = .ok (.invokevirtual 101, 3) := by decide +kernel
theorem dX9_readsKind_26 : decode cX9_readsKind 26 = .ok (.ifCond .ne 5, 3) := by decide +kernel
theorem dX9_readsKind_29 : decode cX9_readsKind 29 = .ok (.iconst 0, 1) := by decide +kernel
theorem dX9_readsKind_30 : decode cX9_readsKind 30 = .ok (.ireturn, 1) := by decide +kernel
theorem dX9_readsKind_31 : decode cX9_readsKind 31 = .ok (.aload_n 0, 1) := by decide +kernel
theorem dX9_readsKind_32 : decode cX9_readsKind 32 = .ok (.getfield 14, 3) := by decide +kernel
theorem dX9_readsKind_35 : decode cX9_readsKind 35 = .ok (.bipush 6, 2) := by decide +kernel
theorem dX9_readsKind_37 : decode cX9_readsKind 37 = .ok (.aload_n 0, 1) := by decide +kernel
theorem dX9_readsKind_38 : decode cX9_readsKind 38 = .ok (.aload_n 1, 1) := by decide +kernel
theorem dX9_readsKind_39 : decode cX9_readsKind 39 = .ok (.invokevirtual 104, 3) := by decide +kernel
theorem dX9_readsKind_42 : decode cX9_readsKind 42 = .ok (.invokevirtual 136, 3) := by decide +kernel
theorem dX9_readsKind_45 : decode cX9_readsKind 45 = .ok (.iconst 1, 1) := by decide +kernel
theorem dX9_readsKind_46 : decode cX9_readsKind 46 = .ok (.ireturn, 1) := by decide +kernel
theorem dX9_readsHops_0 : decode cX9_readsHops 0 = .ok (.aload_n 0, 1) := by decide +kernel
theorem dX9_readsHops_1 : decode cX9_readsHops 1 = .ok (.getfield 98, 3) := by decide +kernel
theorem dX9_readsHops_4 : decode cX9_readsHops 4 = .ok (.iconst 3, 1) := by decide +kernel
theorem dX9_readsHops_5 : decode cX9_readsHops 5 = .ok (.iand, 1) := by decide +kernel
theorem dX9_readsHops_6 : decode cX9_readsHops 6 = .ok (.istore_n 2, 1) := by decide +kernel
theorem dX9_readsHops_7 : decode cX9_readsHops 7 = .ok (.iload_n 2, 1) := by decide +kernel
theorem dX9_readsHops_8 : decode cX9_readsHops 8 = .ok (.ifCond .ne 14, 3) := by decide +kernel
theorem dX9_readsHops_11 : decode cX9_readsHops 11 = .ok (.aload_n 0, 1) := by decide +kernel
theorem dX9_readsHops_12 : decode cX9_readsHops 12 = .ok (.aload_n 1, 1) := by decide +kernel
theorem dX9_readsHops_13 : decode cX9_readsHops 13 = .ok (.iconst 1, 1) := by decide +kernel
theorem dX9_readsHops_14 : decode cX9_readsHops 14 = .ok (.invokevirtual 101, 3) := by decide +kernel
theorem dX9_readsHops_17 : decode cX9_readsHops 17 = .ok (.ifCond .ne 5, 3) := by decide +kernel
theorem dX9_readsHops_20 : decode cX9_readsHops 20 = .ok (.iconst 0, 1) := by decide +kernel
theorem dX9_readsHops_21 : decode cX9_readsHops 21 = .ok (.ireturn, 1) := by decide +kernel
theorem dX9_readsHops_22 : decode cX9_readsHops 22 = .ok (.iload_n 2, 1) := by decide +kernel
theorem dX9_readsHops_23 : decode cX9_readsHops 23 = .ok (.ifCond .ne 11, 3) := by decide +kernel
theorem dX9_readsHops_26 : decode cX9_readsHops 26 = .ok (.aload_n 0, 1) := by decide +kernel
theorem dX9_readsHops_27 : decode cX9_readsHops 27 = .ok (.aload_n 1, 1) := by decide +kernel
theorem dX9_readsHops_28 : decode cX9_readsHops 28 = .ok (.invokevirtual 104, 3) := by decide +kernel
theorem dX9_readsHops_31 : decode cX9_readsHops 31 = .ok (.goto 25, 3) := by decide +kernel
theorem dX9_readsHops_34 : decode cX9_readsHops 34 = .ok (.iload_n 2, 1) := by decide +kernel
theorem dX9_readsHops_35 : decode cX9_readsHops 35 = .ok (.iconst 1, 1) := by decide +kernel
theorem dX9_readsHops_36 : decode cX9_readsHops 36 = .ok (.if_icmp .ne 7, 3) := by decide +kernel
theorem dX9_readsHops_39 : decode cX9_readsHops 39 = .ok (.iconst 1, 1) := by decide +kernel
theorem dX9_readsHops_40 : decode cX9_readsHops 40 = .ok (.goto 16, 3) := by decide +kernel
theorem dX9_readsHops_43 : decode cX9_readsHops 43 = .ok (.iload_n 2, 1) := by decide +kernel
theorem dX9_readsHops_44 : decode cX9_readsHops 44 = .ok (.iconst 2, 1) := by decide +kernel
theorem dX9_readsHops_45 : decode cX9_readsHops 45 = .ok (.if_icmp .ne 8, 3) := by decide +kernel
theorem dX9_readsHops_48 : decode cX9_readsHops 48 = .ok (.bipush 64, 2) := by decide +kernel
theorem dX9_readsHops_50 : decode cX9_readsHops 50 = .ok (.goto 6, 3) := by decide +kernel
theorem dX9_readsHops_53 : decode cX9_readsHops 53 = .ok (.sipush 255, 3) := by decide +kernel
theorem dX9_readsHops_56 : decode cX9_readsHops 56 = .ok (.istore_n 3, 1) := by decide +kernel
theorem dX9_readsHops_57 : decode cX9_readsHops 57 = .ok (.aload_n 0, 1) := by decide +kernel
theorem dX9_readsHops_58 : decode cX9_readsHops 58 = .ok (.getfield 14, 3) := by decide +kernel
theorem dX9_readsHops_61 : decode cX9_readsHops 61 = .ok (.bipush 7, 2) := by decide +kernel
theorem dX9_readsHops_63 : decode cX9_readsHops 63 = .ok (.iload_n 3, 1) := by decide +kernel
theorem dX9_readsHops_64 : decode cX9_readsHops 64 = .ok (.invokevirtual 136, 3) := by decide +kernel
theorem dX9_readsHops_67 : decode cX9_readsHops 67 = .ok (.iconst 1, 1) := by decide +kernel
theorem dX9_readsHops_68 : decode cX9_readsHops 68 = .ok (.ireturn, 1) := by decide +kernel
theorem dX9_readsAddress_0 : decode cX9_readsAddress 0 = .ok (.iload_n 2, 1) := by decide +kernel
theorem dX9_readsAddress_1 : decode cX9_readsAddress 1 = .ok (.invokestatic 140, 3) := by decide +kernel
theorem dX9_readsAddress_4 : decode cX9_readsAddress 4 = .ok (.istore 4, 2) := by decide +kernel
theorem dX9_readsAddress_6 : decode cX9_readsAddress 6 = .ok (.aload_n 0, 1) := by decide +kernel
theorem dX9_readsAddress_7 : decode cX9_readsAddress 7 = .ok (.aload_n 1, 1) := by decide +kernel
theorem dX9_readsAddress_8 : decode cX9_readsAddress 8 = .ok (.iload 4, 2) := by decide +kernel
theorem dX9_readsAddress_10 : decode cX9_readsAddress 10 = .ok (.invokevirtual 101, 3) := by decide +kernel
theorem dX9_readsAddress_13 : decode cX9_readsAddress 13 = .ok (.ifCond .ne 5, 3) := by decide +kernel
theorem dX9_readsAddress_16 : decode cX9_readsAddress 16 = .ok (.iconst 0, 1) := by decide +kernel
theorem dX9_readsAddress_17 : decode cX9_readsAddress 17 = .ok (.ireturn, 1) := by decide +kernel
theorem dX9_readsAddress_18 : decode cX9_readsAddress 18 = .ok (.iload 4, 2) := by decide +kernel
theorem dX9_readsAddress_20 : decode cX9_readsAddress 20 = .ok (.bipush 16, 2) := by decide +kernel
theorem dX9_readsAddress_22 : decode cX9_readsAddress 22 = .ok (.if_icmp .ne 52, 3) := by decide +kernel
theorem dX9_readsAddress_25 : decode cX9_readsAddress 25 = .ok (.aload_n 0, 1) := by decide +kernel
theorem dX9_readsAddress_26 : decode cX9_readsAddress 26 = .ok (.getfield 14, 3) := by decide +kernel
theorem dX9_readsAddress_29 : decode cX9_readsAddress 29 = .ok (.iload_n 3, 1) := by decide +kernel
theorem dX9_readsAddress_30 : decode cX9_readsAddress 30 = .ok (.aload_n 1, 1) := by decide +kernel
theorem dX9_readsAddress_31 : decode cX9_readsAddress 31 = .ok (.aload_n 0, 1) := by decide +kernel
theorem dX9_readsAddress_32 : decode cX9_readsAddress 32 = .ok (.getfield 50, 3) := by decide +kernel
theorem dX9_readsAddress_35 : decode cX9_readsAddress 35 = .ok (.bipush 8, 2) := by decide +kernel
theorem dX9_readsAddress_37 : decode cX9_readsAddress 37 = .ok (.invokevirtual 119, 3) := by decide +kernel
theorem dX9_readsAddress_40 : decode cX9_readsAddress 40 = .ok (.bipush 8, 2) := by decide +kernel
theorem dX9_readsAddress_42 : decode cX9_readsAddress 42 = .ok (.invokevirtual 128, 3) := by decide +kernel
theorem dX9_readsAddress_45 : decode cX9_readsAddress 45 = .ok (.aload_n 0, 1) := by decide +kernel
theorem dX9_readsAddress_46 : decode cX9_readsAddress 46 = .ok (.getfield 14, 3) := by decide +kernel
theorem dX9_readsAddress_49 : decode cX9_readsAddress 49 = .ok (.iload_n 3, 1) := by decide +kernel
theorem dX9_readsAddress_50 : decode cX9_readsAddress 50 = .ok (.bipush 8, 2) := by decide +kernel
theorem dX9_readsAddress_52 : decode cX9_readsAddress 52 = .ok (.iadd, 1) := by decide +kernel
theorem dX9_readsAddress_53 : decode cX9_readsAddress 53 = .ok (.aload_n 1, 1) := by decide +kernel
theorem dX9_readsAddress_54 : decode cX9_readsAddress 54 = .ok (.aload_n 0, 1) := by decide +kernel
theorem dX9_readsAddress_55 : decode cX9_readsAddress 55 = .ok (.getfield 50, 3) := by decide +kernel
theorem dX9_readsAddress_58 : decode cX9_readsAddress 58 = .ok (.bipush 8, 2) := by decide +kernel
theorem dX9_readsAddress_60 : decode cX9_readsAddress 60 = .ok (.iadd, 1) := by decide +kernel
theorem dX9_readsAddress_61 : decode cX9_readsAddress 61 = .ok (.bipush 8, 2) := by decide +kernel
theorem dX9_readsAddress_63 : decode cX9_readsAddress 63 = .ok (.invokevirtual 119, 3) := by decide +kernel
theorem dX9_readsAddress_66 : decode cX9_readsAddress 66 = .ok (.bipush 8, 2) := by decide +kernel
theorem dX9_readsAddress_68 : decode cX9_readsAddress 68 = .ok (.invokevirtual 128, 3) := by decide +kernel
theorem dX9_readsAddress_71 : decode cX9_readsAddress 71 = .ok (.goto 155, 3) := by decide +kernel
theorem dX9_readsAddress_74 : decode cX9_readsAddress 74 = .ok (.iload_n 2, 1) := by decide +kernel
theorem dX9_readsAddress_75 : decode cX9_readsAddress 75 = .ok (.bipush 11, 2) := by decide +kernel
theorem dX9_readsAddress_77 : decode cX9_readsAddress 77 = .ok (.if_icmp .ne 37, 3) := by decide +kernel
theorem dX9_readsAddress_80 : decode cX9_readsAddress 80 = .ok (.aload_n 0, 1) := by decide +kernel
theorem dX9_readsAddress_81 : decode cX9_readsAddress 81 = .ok (.getfield 14, 3) := by decide +kernel
theorem dX9_readsAddress_84 : decode cX9_readsAddress 84 = .ok (.iload_n 3, 1) := by decide +kernel
theorem dX9_readsAddress_85 : decode cX9_readsAddress 85 = .ok (.ldc2_w 143, 3) := by decide +kernel
theorem dX9_readsAddress_88 : decode cX9_readsAddress 88 = .ok (.iconst 2, 1) := by decide +kernel
theorem dX9_readsAddress_89 : decode cX9_readsAddress 89 = .ok (.invokevirtual 128, 3) := by decide +kernel
theorem dX9_readsAddress_92 : decode cX9_readsAddress 92 = .ok (.aload_n 0, 1) := by decide +kernel
theorem dX9_readsAddress_93 : decode cX9_readsAddress 93 = .ok (.getfield 14, 3) := by decide +kernel
theorem dX9_readsAddress_96 : decode cX9_readsAddress 96 = .ok (.iload_n 3, 1) := by decide +kernel
theorem dX9_readsAddress_97 : decode cX9_readsAddress 97 = .ok (.bipush 15, 2) := by decide +kernel
theorem dX9_readsAddress_99 : decode cX9_readsAddress 99 = .ok (.iadd, 1) := by decide +kernel
theorem dX9_readsAddress_100 : decode cX9_readsAddress 100 = .ok (.aload_n 1, 1) := by decide +kernel
theorem dX9_readsAddress_101 : decode cX9_readsAddress 101 = .ok (.aload_n 0, 1) := by decide +kernel
theorem dX9_readsAddress_102 : decode cX9_readsAddress 102 = .ok (.getfield 50, 3) := by decide +kernel
theorem dX9_readsAddress_105 : decode cX9_readsAddress 105 = .ok (.invokevirtual 95, 3) := by decide +kernel
theorem dX9_readsAddress_108 : decode cX9_readsAddress 108 = .ok (.invokevirtual 136, 3) := by decide +kernel
theorem dX9_readsAddress_111 : decode cX9_readsAddress 111 = .ok (.goto 115, 3) := by decide +kernel
theorem dX9_readsAddress_114 : decode cX9_readsAddress 114 = .ok (.iload_n 2, 1) := by decide +kernel
theorem dX9_readsAddress_115 : decode cX9_readsAddress 115 = .ok (.bipush 8, 2) := by decide +kernel
theorem dX9_readsAddress_117 : decode cX9_readsAddress 117 = .ok (.if_icmp .le 55, 3) := by decide +kernel
theorem dX9_readsAddress_120 : decode cX9_readsAddress 120 = .ok (.aload_n 0, 1) := by decide +kernel
theorem dX9_readsAddress_121 : decode cX9_readsAddress 121 = .ok (.getfield 14, 3) := by decide +kernel
theorem dX9_readsAddress_124 : decode cX9_readsAddress 124 = .ok (.iload_n 3, 1) := by decide +kernel
theorem dX9_readsAddress_125 : decode cX9_readsAddress 125 = .ok (.ldc2_w 145, 3) := by decide +kernel
theorem dX9_readsAddress_128 : decode cX9_readsAddress 128 = .ok (.aload_n 1, 1) := by decide +kernel
theorem dX9_readsAddress_129 : decode cX9_readsAddress 129 = .ok (.aload_n 0, 1) := by decide +kernel
theorem dX9_readsAddress_130 : decode cX9_readsAddress 130 = .ok (.getfield 50, 3) := by decide +kernel
theorem dX9_readsAddress_133 : decode cX9_readsAddress 133 = .ok (.invokevirtual 95, 3) := by decide +kernel
theorem dX9_readsAddress_136 : decode cX9_readsAddress 136 = .ok (.i2l, 1) := by decide +kernel
theorem dX9_readsAddress_137 : decode cX9_readsAddress 137 = .ok (.lor, 1) := by decide +kernel
theorem dX9_readsAddress_138 : decode cX9_readsAddress 138 = .ok (.iconst 2, 1) := by decide +kernel
theorem dX9_readsAddress_139 : decode cX9_readsAddress 139 = .ok (.invokevirtual 128, 3) := by decide +kernel
theorem dX9_readsAddress_142 : decode cX9_readsAddress 142 = .ok (.aload_n 0, 1) := by decide +kernel
theorem dX9_readsAddress_143 : decode cX9_readsAddress 143 = .ok (.getfield 14, 3) := by decide +kernel
theorem dX9_readsAddress_146 : decode cX9_readsAddress 146 = .ok (.iload_n 3, 1) := by decide +kernel
theorem dX9_readsAddress_147 : decode cX9_readsAddress 147 = .ok (.bipush 8, 2) := by decide +kernel
theorem dX9_readsAddress_149 : decode cX9_readsAddress 149 = .ok (.iadd, 1) := by decide +kernel
theorem dX9_readsAddress_150 : decode cX9_readsAddress 150 = .ok (.aload_n 1, 1) := by decide +kernel
theorem dX9_readsAddress_151 : decode cX9_readsAddress 151 = .ok (.aload_n 0, 1) := by decide +kernel
theorem dX9_readsAddress_152 : decode cX9_readsAddress 152 = .ok (.getfield 50, 3) := by decide +kernel
theorem dX9_readsAddress_155 : decode cX9_readsAddress 155 = .ok (.iconst 1, 1) := by decide +kernel
theorem dX9_readsAddress_156 : decode cX9_readsAddress 156 = .ok (.iadd, 1) := by decide +kernel
theorem dX9_readsAddress_157 : decode cX9_readsAddress 157 = .ok (.iload 4, 2) := by decide +kernel
theorem dX9_readsAddress_159 : decode cX9_readsAddress 159 = .ok (.iconst 1, 1) := by decide +kernel
theorem dX9_readsAddress_160 : decode cX9_readsAddress 160 = .ok (.isub, 1) := by decide +kernel
theorem dX9_readsAddress_161 : decode cX9_readsAddress 161 = .ok (.invokevirtual 119, 3) := by decide +kernel
theorem dX9_readsAddress_164 : decode cX9_readsAddress 164 = .ok (.bipush 8, 2) := by decide +kernel
theorem dX9_readsAddress_166 : decode cX9_readsAddress 166 = .ok (.invokevirtual 128, 3) := by decide +kernel
theorem dX9_readsAddress_169 : decode cX9_readsAddress 169 = .ok (.goto 57, 3) := by decide +kernel
theorem dX9_readsAddress_172 : decode cX9_readsAddress 172 = .ok (.iload_n 2, 1) := by decide +kernel
theorem dX9_readsAddress_173 : decode cX9_readsAddress 173 = .ok (.iconst 4, 1) := by decide +kernel
theorem dX9_readsAddress_174 : decode cX9_readsAddress 174 = .ok (.if_icmp .eq 52, 3) := by decide +kernel
theorem dX9_readsAddress_177 : decode cX9_readsAddress 177 = .ok (.aload_n 1, 1) := by decide +kernel
theorem dX9_readsAddress_178 : decode cX9_readsAddress 178 = .ok (.aload_n 0, 1) := by decide +kernel
theorem dX9_readsAddress_179 : decode cX9_readsAddress 179 = .ok (.getfield 50, 3) := by decide +kernel
theorem dX9_readsAddress_182 : decode cX9_readsAddress 182 = .ok (.iload 4, 2) := by decide +kernel
theorem dX9_readsAddress_184 : decode cX9_readsAddress 184 = .ok (.invokevirtual 119, 3) := by decide +kernel
theorem dX9_readsAddress_187 : decode cX9_readsAddress 187 = .ok (.lstore 5, 2) := by decide +kernel
theorem dX9_readsAddress_189 : decode cX9_readsAddress 189 = .ok (.aload_n 0, 1) := by decide +kernel
theorem dX9_readsAddress_190 : decode cX9_readsAddress 190 = .ok (.getfield 14, 3) := by decide +kernel
theorem dX9_readsAddress_193 : decode cX9_readsAddress 193 = .ok (.iload_n 3, 1) := by decide +kernel
theorem dX9_readsAddress_194 : decode cX9_readsAddress 194 = .ok (.aload_n 0, 1) := by decide +kernel
theorem dX9_readsAddress_195 : decode cX9_readsAddress 195 = .ok (.iload_n 2, 1) := by decide +kernel
theorem dX9_readsAddress_196 : decode cX9_readsAddress 196 = .ok (.iload_n 3, 1) := by decide +kernel
theorem dX9_readsAddress_197 : decode cX9_readsAddress 197 = .ok (.invokevirtual 147, 3) := by decide +kernel
theorem dX9_readsAddress_200 : decode cX9_readsAddress 200 = .ok (.bipush 8, 2) := by decide +kernel
theorem dX9_readsAddress_202 : decode cX9_readsAddress 202 = .ok (.invokevirtual 128, 3) := by decide +kernel
theorem dX9_readsAddress_205 : decode cX9_readsAddress 205 = .ok (.aload_n 0, 1) := by decide +kernel
theorem dX9_readsAddress_206 : decode cX9_readsAddress 206 = .ok (.getfield 14, 3) := by decide +kernel
theorem dX9_readsAddress_209 : decode cX9_readsAddress 209 = .ok (.iload_n 3, 1) := by decide +kernel
theorem dX9_readsAddress_210 : decode cX9_readsAddress 210 = .ok (.bipush 8, 2) := by decide +kernel
theorem dX9_readsAddress_212 : decode cX9_readsAddress 212 = .ok (.iadd, 1) := by decide +kernel
theorem dX9_readsAddress_213 : decode cX9_readsAddress 213 = .ok (.aload_n 0, 1) := by decide +kernel
theorem dX9_readsAddress_214 : decode cX9_readsAddress 214 = .ok (.iload_n 2, 1) := by decide +kernel
theorem dX9_readsAddress_215 : decode cX9_readsAddress 215 = .ok (.iload_n 3, 1) := by decide +kernel
theorem dX9_readsAddress_216 : decode cX9_readsAddress 216 = .ok (.lload 5, 2) := by decide +kernel
theorem dX9_readsAddress_218 : decode cX9_readsAddress 218 = .ok (.invokevirtual 150, 3) := by decide +kernel
theorem dX9_readsAddress_221 : decode cX9_readsAddress 221 = .ok (.bipush 8, 2) := by decide +kernel
theorem dX9_readsAddress_223 : decode cX9_readsAddress 223 = .ok (.invokevirtual 128, 3) := by decide +kernel
theorem dX9_readsAddress_226 : decode cX9_readsAddress 226 = .ok (.aload_n 0, 1) := by decide +kernel
theorem dX9_readsAddress_227 : decode cX9_readsAddress 227 = .ok (.dup, 1) := by decide +kernel
theorem dX9_readsAddress_228 : decode cX9_readsAddress 228 = .ok (.getfield 50, 3) := by decide +kernel
theorem dX9_readsAddress_231 : decode cX9_readsAddress 231 = .ok (.iload 4, 2) := by decide +kernel
theorem dX9_readsAddress_233 : decode cX9_readsAddress 233 = .ok (.iadd, 1) := by decide +kernel
theorem dX9_readsAddress_234 : decode cX9_readsAddress 234 = .ok (.putfield 50, 3) := by decide +kernel
theorem dX9_readsAddress_237 : decode cX9_readsAddress 237 = .ok (.iconst 1, 1) := by decide +kernel
theorem dX9_readsAddress_238 : decode cX9_readsAddress 238 = .ok (.ireturn, 1) := by decide +kernel
theorem dX9_firstEight_0 : decode cX9_firstEight 0 = .ok (.iload_n 1, 1) := by decide +kernel
theorem dX9_firstEight_1 : decode cX9_firstEight 1 = .ok (.invokestatic 110, 3) := by decide +kernel
theorem dX9_firstEight_4 : decode cX9_firstEight 4 = .ok (.ifCond .ne 7, 3) := by decide +kernel
theorem dX9_firstEight_7 : decode cX9_firstEight 7 = .ok (.ldc2_w 154, 3) := by decide +kernel
theorem dX9_firstEight_10 : decode cX9_firstEight 10 = .ok (.lreturn, 1) := by decide +kernel
theorem dX9_firstEight_11 : decode cX9_firstEight 11 = .ok (.aload_n 0, 1) := by decide +kernel
theorem dX9_firstEight_12 : decode cX9_firstEight 12 = .ok (.getfield 20, 3) := by decide +kernel
theorem dX9_firstEight_15 : decode cX9_firstEight 15 = .ok (.iload_n 2, 1) := by decide +kernel
theorem dX9_firstEight_16 : decode cX9_firstEight 16 = .ok (.bipush 8, 2) := by decide +kernel
theorem dX9_firstEight_18 : decode cX9_firstEight 18 = .ok (.if_icmp .ne 12, 3) := by decide +kernel
theorem dX9_firstEight_21 : decode cX9_firstEight 21 = .ok (.aload_n 0, 1) := by decide +kernel
theorem dX9_firstEight_22 : decode cX9_firstEight 22 = .ok (.getfield 53, 3) := by decide +kernel
theorem dX9_firstEight_25 : decode cX9_firstEight 25 = .ok (.iconst 4, 1) := by decide +kernel
theorem dX9_firstEight_26 : decode cX9_firstEight 26 = .ok (.ishr, 1) := by decide +kernel
theorem dX9_firstEight_27 : decode cX9_firstEight 27 = .ok (.goto 10, 3) := by decide +kernel
theorem dX9_firstEight_30 : decode cX9_firstEight 30 = .ok (.aload_n 0, 1) := by decide +kernel
theorem dX9_firstEight_31 : decode cX9_firstEight 31 = .ok (.getfield 53, 3) := by decide +kernel
theorem dX9_firstEight_34 : decode cX9_firstEight 34 = .ok (.bipush 15, 2) := by decide +kernel
theorem dX9_firstEight_36 : decode cX9_firstEight 36 = .ok (.iand, 1) := by decide +kernel
theorem dX9_firstEight_37 : decode cX9_firstEight 37 = .ok (.invokevirtual 156, 3) := by decide +kernel
theorem dX9_firstEight_40 : decode cX9_firstEight 40 = .ok (.lreturn, 1) := by decide +kernel
theorem dX9_lastEight_0 : decode cX9_lastEight 0 = .ok (.iload_n 1, 1) := by decide +kernel
theorem dX9_lastEight_1 : decode cX9_lastEight 1 = .ok (.iconst 3, 1) := by decide +kernel
theorem dX9_lastEight_2 : decode cX9_lastEight 2 = .ok (.iand, 1) := by decide +kernel
theorem dX9_lastEight_3 : decode cX9_lastEight 3 = .ok (.lookupswitch 33 #[(1, 25), (2, 27)], 25) := by decide +kernel
theorem dX9_lastEight_28 : decode cX9_lastEight 28 = .ok (.lload_n 3, 1) := by decide +kernel
theorem dX9_lastEight_29 : decode cX9_lastEight 29 = .ok (.lreturn, 1) := by decide +kernel
theorem dX9_lastEight_30 : decode cX9_lastEight 30 = .ok (.ldc2_w 160, 3) := by decide +kernel
theorem dX9_lastEight_33 : decode cX9_lastEight 33 = .ok (.lload_n 3, 1) := by decide +kernel
theorem dX9_lastEight_34 : decode cX9_lastEight 34 = .ok (.lor, 1) := by decide +kernel
theorem dX9_lastEight_35 : decode cX9_lastEight 35 = .ok (.lreturn, 1) := by decide +kernel
theorem dX9_lastEight_36 : decode cX9_lastEight 36 = .ok (.aload_n 0, 1) := by decide +kernel
theorem dX9_lastEight_37 : decode cX9_lastEight 37 = .ok (.getfield 20, 3) := by decide +kernel
theorem dX9_lastEight_40 : decode cX9_lastEight 40 = .ok (.iload_n 2, 1) := by decide +kernel
theorem dX9_lastEight_41 : decode cX9_lastEight 41 = .ok (.bipush 8, 2) := by decide +kernel
theorem dX9_lastEight_43 : decode cX9_lastEight 43 = .ok (.if_icmp .ne 7, 3) := by decide +kernel
theorem dX9_lastEight_46 : decode cX9_lastEight 46 = .ok (.iconst 0, 1) := by decide +kernel
theorem dX9_lastEight_47 : decode cX9_lastEight 47 = .ok (.goto 4, 3) := by decide +kernel
theorem dX9_lastEight_50 : decode cX9_lastEight 50 = .ok (.iconst 1, 1) := by decide +kernel
theorem dX9_lastEight_51 : decode cX9_lastEight 51 = .ok (.invokevirtual 162, 3) := by decide +kernel
theorem dX9_lastEight_54 : decode cX9_lastEight 54 = .ok (.lreturn, 1) := by decide +kernel
theorem dX9_readsPorts_0 : decode cX9_readsPorts 0 = .ok (.aload_n 0, 1) := by decide +kernel
theorem dX9_readsPorts_1 : decode cX9_readsPorts 1 = .ok (.invokevirtual 132, 3) := by decide +kernel
theorem dX9_readsPorts_4 : decode cX9_readsPorts 4 = .ok (.ifCond .ne 5, 3) := by decide +kernel
theorem dX9_readsPorts_7 : decode cX9_readsPorts 7 = .ok (.iconst 1, 1) := by decide +kernel
theorem dX9_readsPorts_8 : decode cX9_readsPorts 8 = .ok (.ireturn, 1) := by decide +kernel
theorem dX9_readsPorts_9 : decode cX9_readsPorts 9 = .ok (.aload_n 0, 1) := by decide +kernel
theorem dX9_readsPorts_10 : decode cX9_readsPorts 10 = .ok (.aload_n 1, 1) := by decide +kernel
theorem dX9_readsPorts_11 : decode cX9_readsPorts 11 = .ok (.iconst 1, 1) := by decide +kernel
theorem dX9_readsPorts_12 : decode cX9_readsPorts 12 = .ok (.invokevirtual 101, 3) := by decide +kernel
theorem dX9_readsPorts_15 : decode cX9_readsPorts 15 = .ok (.ifCond .ne 5, 3) := by decide +kernel
theorem dX9_readsPorts_18 : decode cX9_readsPorts 18 = .ok (.iconst 0, 1) := by decide +kernel
theorem dX9_readsPorts_19 : decode cX9_readsPorts 19 = .ok (.ireturn, 1) := by decide +kernel
theorem dX9_readsPorts_20 : decode cX9_readsPorts 20 = .ok (.aload_n 1, 1) := by decide +kernel
theorem dX9_readsPorts_21 : decode cX9_readsPorts 21 = .ok (.aload_n 0, 1) := by decide +kernel
theorem dX9_readsPorts_22 : decode cX9_readsPorts 22 = .ok (.getfield 50, 3) := by decide +kernel
theorem dX9_readsPorts_25 : decode cX9_readsPorts 25 = .ok (.invokevirtual 95, 3) := by decide +kernel
theorem dX9_readsPorts_28 : decode cX9_readsPorts 28 = .ok (.sipush 240, 3) := by decide +kernel
theorem dX9_readsPorts_31 : decode cX9_readsPorts 31 = .ok (.isub, 1) := by decide +kernel
theorem dX9_readsPorts_32 : decode cX9_readsPorts 32 = .ok (.istore_n 2, 1) := by decide +kernel
theorem dX9_readsPorts_33 : decode cX9_readsPorts 33 = .ok (.iload_n 2, 1) := by decide +kernel
theorem dX9_readsPorts_34 : decode cX9_readsPorts 34 = .ok (.ifCond .lt 8, 3) := by decide +kernel
theorem dX9_readsPorts_37 : decode cX9_readsPorts 37 = .ok (.iload_n 2, 1) := by decide +kernel
theorem dX9_readsPorts_38 : decode cX9_readsPorts 38 = .ok (.iconst 3, 1) := by decide +kernel
theorem dX9_readsPorts_39 : decode cX9_readsPorts 39 = .ok (.if_icmp .le 14, 3) := by decide +kernel
theorem dX9_readsPorts_42 : decode cX9_readsPorts 42 = .ok (.aload_n 0, 1) := by decide +kernel
theorem dX9_readsPorts_43 : decode cX9_readsPorts 43 = .ok (.bipush 6, 2) := by decide +kernel
theorem dX9_readsPorts_45 : decode cX9_readsPorts 45 = .ok (.aload_n 0, 1) := by decide +kernel
theorem dX9_readsPorts_46 : decode cX9_readsPorts 46 = .ok (.getfield 50, 3) := by decide +kernel
theorem dX9_readsPorts_49 : decode cX9_readsPorts 49 = .ok (.invokevirtual 91, 3) := by decide +kernel
theorem dX9_readsPorts_52 : decode cX9_readsPorts 52 = .ok (.ireturn, 1) := by decide +kernel
theorem dX9_readsPorts_53 : decode cX9_readsPorts 53 = .ok (.aload_n 0, 1) := by decide +kernel
theorem dX9_readsPorts_54 : decode cX9_readsPorts 54 = .ok (.dup, 1) := by decide +kernel
theorem dX9_readsPorts_55 : decode cX9_readsPorts 55 = .ok (.getfield 50, 3) := by decide +kernel
theorem dX9_readsPorts_58 : decode cX9_readsPorts 58 = .ok (.iconst 1, 1) := by decide +kernel
theorem dX9_readsPorts_59 : decode cX9_readsPorts 59 = .ok (.iadd, 1) := by decide +kernel
theorem dX9_readsPorts_60 : decode cX9_readsPorts 60 = .ok (.putfield 50, 3) := by decide +kernel
theorem dX9_readsPorts_63 : decode cX9_readsPorts 63 = .ok (.iload_n 2, 1) := by decide +kernel
theorem dX9_readsPorts_64 : decode cX9_readsPorts 64 = .ok (.ifCond .ne 7, 3) := by decide +kernel
theorem dX9_readsPorts_67 : decode cX9_readsPorts 67 = .ok (.iconst 4, 1) := by decide +kernel
theorem dX9_readsPorts_68 : decode cX9_readsPorts 68 = .ok (.goto 13, 3) := by decide +kernel
theorem dX9_readsPorts_71 : decode cX9_readsPorts 71 = .ok (.iload_n 2, 1) := by decide +kernel
theorem dX9_readsPorts_72 : decode cX9_readsPorts 72 = .ok (.iconst 3, 1) := by decide +kernel
theorem dX9_readsPorts_73 : decode cX9_readsPorts 73 = .ok (.if_icmp .ne 7, 3) := by decide +kernel
theorem dX9_readsPorts_76 : decode cX9_readsPorts 76 = .ok (.iconst 1, 1) := by decide +kernel
theorem dX9_readsPorts_77 : decode cX9_readsPorts 77 = .ok (.goto 4, 3) := by decide +kernel
theorem dX9_readsPorts_80 : decode cX9_readsPorts 80 = .ok (.iconst 3, 1) := by decide +kernel
theorem dX9_readsPorts_81 : decode cX9_readsPorts 81 = .ok (.istore_n 3, 1) := by decide +kernel
theorem dX9_readsPorts_82 : decode cX9_readsPorts 82 = .ok (.aload_n 0, 1) := by decide +kernel
theorem dX9_readsPorts_83 : decode cX9_readsPorts 83 = .ok (.aload_n 1, 1) := by decide +kernel
theorem dX9_readsPorts_84 : decode cX9_readsPorts 84 = .ok (.iload_n 3, 1) := by decide +kernel
theorem dX9_readsPorts_85 : decode cX9_readsPorts 85 = .ok (.iconst 2, 1) := by decide +kernel
theorem dX9_readsPorts_86 : decode cX9_readsPorts 86 = .ok (.iadd, 1) := by decide +kernel
theorem dX9_readsPorts_87 : decode cX9_readsPorts 87 = .ok (.invokevirtual 101, 3) := by decide +kernel
theorem dX9_readsPorts_90 : decode cX9_readsPorts 90 = .ok (.ifCond .ne 5, 3) := by decide +kernel
theorem dX9_readsPorts_93 : decode cX9_readsPorts 93 = .ok (.iconst 0, 1) := by decide +kernel
theorem dX9_readsPorts_94 : decode cX9_readsPorts 94 = .ok (.ireturn, 1) := by decide +kernel
theorem dX9_readsPorts_95 : decode cX9_readsPorts 95 = .ok (.aload_n 0, 1) := by decide +kernel
theorem dX9_readsPorts_96 : decode cX9_readsPorts 96 = .ok (.iload_n 2, 1) := by decide +kernel
theorem dX9_readsPorts_97 : decode cX9_readsPorts 97 = .ok (.putfield 44, 3) := by decide +kernel
theorem dX9_readsPorts_100 : decode cX9_readsPorts 100 = .ok (.aload_n 0, 1) := by decide +kernel
theorem dX9_readsPorts_101 : decode cX9_readsPorts 101 = .ok (.getfield 14, 3) := by decide +kernel
theorem dX9_readsPorts_104 : decode cX9_readsPorts 104 = .ok (.iload_n 2, 1) := by decide +kernel
theorem dX9_readsPorts_105 : decode cX9_readsPorts 105 = .ok (.aload_n 1, 1) := by decide +kernel
theorem dX9_readsPorts_106 : decode cX9_readsPorts 106 = .ok (.aload_n 0, 1) := by decide +kernel
theorem dX9_readsPorts_107 : decode cX9_readsPorts 107 = .ok (.getfield 50, 3) := by decide +kernel
theorem dX9_readsPorts_110 : decode cX9_readsPorts 110 = .ok (.iload_n 3, 1) := by decide +kernel
theorem dX9_readsPorts_111 : decode cX9_readsPorts 111 = .ok (.invokevirtual 119, 3) := by decide +kernel
theorem dX9_readsPorts_114 : decode cX9_readsPorts 114 = .ok (.invokestatic 165, 3) := by decide +kernel
theorem dX9_readsPorts_117 : decode cX9_readsPorts 117 = .ok (.iconst 4, 1) := by decide +kernel
theorem dX9_readsPorts_118 : decode cX9_readsPorts 118 = .ok (.invokevirtual 169, 3) := by decide +kernel
theorem dX9_readsPorts_121 : decode cX9_readsPorts 121 = .ok (.aload_n 0, 1) := by decide +kernel
theorem dX9_readsPorts_122 : decode cX9_readsPorts 122 = .ok (.getfield 14, 3) := by decide +kernel
theorem dX9_readsPorts_125 : decode cX9_readsPorts 125 = .ok (.lconst 0, 1) := by decide +kernel
theorem dX9_readsPorts_126 : decode cX9_readsPorts 126 = .ok (.iconst 2, 1) := by decide +kernel
theorem dX9_readsPorts_127 : decode cX9_readsPorts 127 = .ok (.invokevirtual 169, 3) := by decide +kernel
theorem dX9_readsPorts_130 : decode cX9_readsPorts 130 = .ok (.aload_n 0, 1) := by decide +kernel
theorem dX9_readsPorts_131 : decode cX9_readsPorts 131 = .ok (.getfield 14, 3) := by decide +kernel
theorem dX9_readsPorts_134 : decode cX9_readsPorts 134 = .ok (.aload_n 1, 1) := by decide +kernel
theorem dX9_readsPorts_135 : decode cX9_readsPorts 135 = .ok (.aload_n 0, 1) := by decide +kernel
theorem dX9_readsPorts_136 : decode cX9_readsPorts 136 = .ok (.getfield 50, 3) := by decide +kernel
theorem dX9_readsPorts_139 : decode cX9_readsPorts 139 = .ok (.iload_n 3, 1) := by decide +kernel
theorem dX9_readsPorts_140 : decode cX9_readsPorts 140 = .ok (.iadd, 1) := by decide +kernel
theorem dX9_readsPorts_141 : decode cX9_readsPorts 141 = .ok (.iconst 2, 1) := by decide +kernel
theorem dX9_readsPorts_142 : decode cX9_readsPorts 142 = .ok (.invokevirtual 119, 3) := by decide +kernel
theorem dX9_readsPorts_145 : decode cX9_readsPorts 145 = .ok (.iconst 2, 1) := by decide +kernel
theorem dX9_readsPorts_146 : decode cX9_readsPorts 146 = .ok (.invokevirtual 169, 3) := by decide +kernel
theorem dX9_readsPorts_149 : decode cX9_readsPorts 149 = .ok (.aload_n 0, 1) := by decide +kernel
theorem dX9_readsPorts_150 : decode cX9_readsPorts 150 = .ok (.dup, 1) := by decide +kernel
theorem dX9_readsPorts_151 : decode cX9_readsPorts 151 = .ok (.getfield 50, 3) := by decide +kernel
theorem dX9_readsPorts_154 : decode cX9_readsPorts 154 = .ok (.iload_n 3, 1) := by decide +kernel
theorem dX9_readsPorts_155 : decode cX9_readsPorts 155 = .ok (.iconst 2, 1) := by decide +kernel
theorem dX9_readsPorts_156 : decode cX9_readsPorts 156 = .ok (.iadd, 1) := by decide +kernel
theorem dX9_readsPorts_157 : decode cX9_readsPorts 157 = .ok (.iadd, 1) := by decide +kernel
theorem dX9_readsPorts_158 : decode cX9_readsPorts 158 = .ok (.putfield 50, 3) := by decide +kernel
theorem dX9_readsPorts_161 : decode cX9_readsPorts 161 = .ok (.iconst 1, 1) := by decide +kernel
theorem dX9_readsPorts_162 : decode cX9_readsPorts 162 = .ok (.ireturn, 1) := by decide +kernel
theorem dX9_portsOf_0 : decode cX9_portsOf 0 = .ok (.iload_n 0, 1) := by decide +kernel
theorem dX9_portsOf_1 : decode cX9_portsOf 1 = .ok (.tableswitch 84 1 3 #[27, 45, 63], 27) := by decide +kernel
theorem dX9_portsOf_28 : decode cX9_portsOf 28 = .ok (.lload_n 1, 1) := by decide +kernel
theorem dX9_portsOf_29 : decode cX9_portsOf 29 = .ok (.bipush 8, 2) := by decide +kernel
theorem dX9_portsOf_31 : decode cX9_portsOf 31 = .ok (.lshr, 1) := by decide +kernel
theorem dX9_portsOf_32 : decode cX9_portsOf 32 = .ok (.bipush 16, 2) := by decide +kernel
theorem dX9_portsOf_34 : decode cX9_portsOf 34 = .ok (.lshl, 1) := by decide +kernel
theorem dX9_portsOf_35 : decode cX9_portsOf 35 = .ok (.ldc2_w 173, 3) := by decide +kernel
theorem dX9_portsOf_38 : decode cX9_portsOf 38 = .ok (.lor, 1) := by decide +kernel
theorem dX9_portsOf_39 : decode cX9_portsOf 39 = .ok (.lload_n 1, 1) := by decide +kernel
theorem dX9_portsOf_40 : decode cX9_portsOf 40 = .ok (.ldc2_w 175, 3) := by decide +kernel
theorem dX9_portsOf_43 : decode cX9_portsOf 43 = .ok (.land, 1) := by decide +kernel
theorem dX9_portsOf_44 : decode cX9_portsOf 44 = .ok (.lor, 1) := by decide +kernel
theorem dX9_portsOf_45 : decode cX9_portsOf 45 = .ok (.lreturn, 1) := by decide +kernel
theorem dX9_portsOf_46 : decode cX9_portsOf 46 = .ok (.ldc2_w 177, 3) := by decide +kernel
theorem dX9_portsOf_49 : decode cX9_portsOf 49 = .ok (.lload_n 1, 1) := by decide +kernel
theorem dX9_portsOf_50 : decode cX9_portsOf 50 = .ok (.bipush 16, 2) := by decide +kernel
theorem dX9_portsOf_52 : decode cX9_portsOf 52 = .ok (.lshr, 1) := by decide +kernel
theorem dX9_portsOf_53 : decode cX9_portsOf 53 = .ok (.bipush 16, 2) := by decide +kernel
theorem dX9_portsOf_55 : decode cX9_portsOf 55 = .ok (.lshl, 1) := by decide +kernel
theorem dX9_portsOf_56 : decode cX9_portsOf 56 = .ok (.lor, 1) := by decide +kernel
theorem dX9_portsOf_57 : decode cX9_portsOf 57 = .ok (.lload_n 1, 1) := by decide +kernel
theorem dX9_portsOf_58 : decode cX9_portsOf 58 = .ok (.ldc2_w 179, 3) := by decide +kernel
theorem dX9_portsOf_61 : decode cX9_portsOf 61 = .ok (.land, 1) := by decide +kernel
theorem dX9_portsOf_62 : decode cX9_portsOf 62 = .ok (.lor, 1) := by decide +kernel
theorem dX9_portsOf_63 : decode cX9_portsOf 63 = .ok (.lreturn, 1) := by decide +kernel
theorem dX9_portsOf_64 : decode cX9_portsOf 64 = .ok (.ldc2_w 181, 3) := by decide +kernel
theorem dX9_portsOf_67 : decode cX9_portsOf 67 = .ok (.lload_n 1, 1) := by decide +kernel
theorem dX9_portsOf_68 : decode cX9_portsOf 68 = .ok (.iconst 4, 1) := by decide +kernel
theorem dX9_portsOf_69 : decode cX9_portsOf 69 = .ok (.lshr, 1) := by decide +kernel
theorem dX9_portsOf_70 : decode cX9_portsOf 70 = .ok (.lor, 1) := by decide +kernel
theorem dX9_portsOf_71 : decode cX9_portsOf 71 = .ok (.bipush 16, 2) := by decide +kernel
theorem dX9_portsOf_73 : decode cX9_portsOf 73 = .ok (.lshl, 1) := by decide +kernel
theorem dX9_portsOf_74 : decode cX9_portsOf 74 = .ok (.ldc2_w 181, 3) := by decide +kernel
theorem dX9_portsOf_77 : decode cX9_portsOf 77 = .ok (.lor, 1) := by decide +kernel
theorem dX9_portsOf_78 : decode cX9_portsOf 78 = .ok (.lload_n 1, 1) := by decide +kernel
theorem dX9_portsOf_79 : decode cX9_portsOf 79 = .ok (.ldc2_w 183, 3) := by decide +kernel
theorem dX9_portsOf_82 : decode cX9_portsOf 82 = .ok (.land, 1) := by decide +kernel
theorem dX9_portsOf_83 : decode cX9_portsOf 83 = .ok (.lor, 1) := by decide +kernel
theorem dX9_portsOf_84 : decode cX9_portsOf 84 = .ok (.lreturn, 1) := by decide +kernel
theorem dX9_portsOf_85 : decode cX9_portsOf 85 = .ok (.lload_n 1, 1) := by decide +kernel
theorem dX9_portsOf_86 : decode cX9_portsOf 86 = .ok (.lreturn, 1) := by decide +kernel
theorem dX9_readsRest_0 : decode cX9_readsRest 0 = .ok (.iload_n 2, 1) := by decide +kernel
theorem dX9_readsRest_1 : decode cX9_readsRest 1 = .ok (.istore_n 3, 1) := by decide +kernel
theorem dX9_readsRest_2 : decode cX9_readsRest 2 = .ok (.iload_n 2, 1) := by decide +kernel
theorem dX9_readsRest_3 : decode cX9_readsRest 3 = .ok (.iconst (-1), 1) := by decide +kernel
theorem dX9_readsRest_4 : decode cX9_readsRest 4 = .ok (.if_icmp .ne 24, 3) := by decide +kernel
theorem dX9_readsRest_7 : decode cX9_readsRest 7 = .ok (.aload_n 1, 1) := by decide +kernel
theorem dX9_readsRest_8 : decode cX9_readsRest 8 = .ok (.invokevirtual 88, 3) := by decide +kernel
theorem dX9_readsRest_11 : decode cX9_readsRest 11 = .ok (.aload_n 0, 1) := by decide +kernel
theorem dX9_readsRest_12 : decode cX9_readsRest 12 = .ok (.getfield 50, 3) := by decide +kernel
theorem dX9_readsRest_15 : decode cX9_readsRest 15 = .ok (.isub, 1) := by decide +kernel
theorem dX9_readsRest_16 : decode cX9_readsRest 16 = .ok (.aload_n 0, 1) := by decide +kernel
theorem dX9_readsRest_17 : decode cX9_readsRest 17 = .ok (.getfield 14, 3) := by decide +kernel
theorem dX9_readsRest_20 : decode cX9_readsRest 20 = .ok (.invokevirtual 88, 3) := by decide +kernel
theorem dX9_readsRest_23 : decode cX9_readsRest 23 = .ok (.iadd, 1) := by decide +kernel
theorem dX9_readsRest_24 : decode cX9_readsRest 24 = .ok (.bipush 40, 2) := by decide +kernel
theorem dX9_readsRest_26 : decode cX9_readsRest 26 = .ok (.isub, 1) := by decide +kernel
theorem dX9_readsRest_27 : decode cX9_readsRest 27 = .ok (.istore_n 3, 1) := by decide +kernel
theorem dX9_readsRest_28 : decode cX9_readsRest 28 = .ok (.iload_n 3, 1) := by decide +kernel
theorem dX9_readsRest_29 : decode cX9_readsRest 29 = .ok (.sipush 560, 3) := by decide +kernel
theorem dX9_readsRest_32 : decode cX9_readsRest 32 = .ok (.if_icmp .le 14, 3) := by decide +kernel
theorem dX9_readsRest_35 : decode cX9_readsRest 35 = .ok (.aload_n 0, 1) := by decide +kernel
theorem dX9_readsRest_36 : decode cX9_readsRest 36 = .ok (.bipush 7, 2) := by decide +kernel
theorem dX9_readsRest_38 : decode cX9_readsRest 38 = .ok (.aload_n 1, 1) := by decide +kernel
theorem dX9_readsRest_39 : decode cX9_readsRest 39 = .ok (.invokevirtual 88, 3) := by decide +kernel
theorem dX9_readsRest_42 : decode cX9_readsRest 42 = .ok (.invokevirtual 91, 3) := by decide +kernel
theorem dX9_readsRest_45 : decode cX9_readsRest 45 = .ok (.ireturn, 1) := by decide +kernel
theorem dX9_readsRest_46 : decode cX9_readsRest 46 = .ok (.aload_n 0, 1) := by decide +kernel
theorem dX9_readsRest_47 : decode cX9_readsRest 47 = .ok (.getfield 14, 3) := by decide +kernel
theorem dX9_readsRest_50 : decode cX9_readsRest 50 = .ok (.iconst 4, 1) := by decide +kernel
theorem dX9_readsRest_51 : decode cX9_readsRest 51 = .ok (.iload_n 3, 1) := by decide +kernel
theorem dX9_readsRest_52 : decode cX9_readsRest 52 = .ok (.i2l, 1) := by decide +kernel
theorem dX9_readsRest_53 : decode cX9_readsRest 53 = .ok (.iconst 2, 1) := by decide +kernel
theorem dX9_readsRest_54 : decode cX9_readsRest 54 = .ok (.invokevirtual 128, 3) := by decide +kernel
theorem dX9_readsRest_57 : decode cX9_readsRest 57 = .ok (.aload_n 0, 1) := by decide +kernel
theorem dX9_readsRest_58 : decode cX9_readsRest 58 = .ok (.invokevirtual 132, 3) := by decide +kernel
theorem dX9_readsRest_61 : decode cX9_readsRest 61 = .ok (.ifCond .eq 15, 3) := by decide +kernel
theorem dX9_readsRest_64 : decode cX9_readsRest 64 = .ok (.aload_n 0, 1) := by decide +kernel
theorem dX9_readsRest_65 : decode cX9_readsRest 65 = .ok (.getfield 14, 3) := by decide +kernel
theorem dX9_readsRest_68 : decode cX9_readsRest 68 = .ok (.bipush 44, 2) := by decide +kernel
theorem dX9_readsRest_70 : decode cX9_readsRest 70 = .ok (.iload_n 3, 1) := by decide +kernel
theorem dX9_readsRest_71 : decode cX9_readsRest 71 = .ok (.i2l, 1) := by decide +kernel
theorem dX9_readsRest_72 : decode cX9_readsRest 72 = .ok (.iconst 2, 1) := by decide +kernel
theorem dX9_readsRest_73 : decode cX9_readsRest 73 = .ok (.invokevirtual 128, 3) := by decide +kernel
theorem dX9_readsRest_76 : decode cX9_readsRest 76 = .ok (.aload_n 0, 1) := by decide +kernel
theorem dX9_readsRest_77 : decode cX9_readsRest 77 = .ok (.getfield 14, 3) := by decide +kernel
theorem dX9_readsRest_80 : decode cX9_readsRest 80 = .ok (.aload_n 1, 1) := by decide +kernel
theorem dX9_readsRest_81 : decode cX9_readsRest 81 = .ok (.aload_n 0, 1) := by decide +kernel
theorem dX9_readsRest_82 : decode cX9_readsRest 82 = .ok (.getfield 50, 3) := by decide +kernel
theorem dX9_readsRest_85 : decode cX9_readsRest 85 = .ok (.aload_n 1, 1) := by decide +kernel
theorem dX9_readsRest_86 : decode cX9_readsRest 86 = .ok (.invokevirtual 88, 3) := by decide +kernel
theorem dX9_readsRest_89 : decode cX9_readsRest 89 = .ok (.invokevirtual 185, 3) := by decide +kernel
theorem dX9_readsRest_92 : decode cX9_readsRest 92 = .ok (.iconst 1, 1) := by decide +kernel
theorem dX9_readsRest_93 : decode cX9_readsRest 93 = .ok (.ireturn, 1) := by decide +kernel
theorem dX10_init_0 : decode cX10_init 0 = .ok (.aload_n 0, 1) := by decide +kernel
theorem dX10_init_1 : decode cX10_init 1 = .ok (.invokespecial 1, 3) := by decide +kernel
theorem dX10_init_4 : decode cX10_init 4 = .ok (.new 7, 3) := by decide +kernel
theorem dX10_init_7 : decode cX10_init 7 = .ok (.dup, 1) := by decide +kernel
theorem dX10_init_8 : decode cX10_init 8 = .ok (.invokespecial 9, 3) := by decide +kernel
theorem dX10_init_11 : decode cX10_init 11 = .ok (.astore_n 1, 1) := by decide +kernel
theorem dX10_init_12 : decode cX10_init 12 = .ok (.new 10, 3) := by decide +kernel
theorem dX10_init_15 : decode cX10_init 15 = .ok (.dup, 1) := by decide +kernel
theorem dX10_init_16 : decode cX10_init 16 = .ok (.aload_n 1, 1) := by decide +kernel
theorem dX10_init_17 : decode cX10_init 17 = .ok (.invokespecial 12, 3) := by decide +kernel
theorem dX10_init_20 : decode cX10_init 20 = .ok (.astore_n 2, 1) := by decide +kernel
theorem dX10_init_21 : decode cX10_init 21 = .ok (.new 15, 3) := by decide +kernel
theorem dX10_init_24 : decode cX10_init 24 = .ok (.dup, 1) := by decide +kernel
theorem dX10_init_25 : decode cX10_init 25 = .ok (.aload_n 1, 1) := by decide +kernel
theorem dX10_init_26 : decode cX10_init 26 = .ok (.invokespecial 17, 3) := by decide +kernel
theorem dX10_init_29 : decode cX10_init 29 = .ok (.astore_n 3, 1) := by decide +kernel
theorem dX10_init_30 : decode cX10_init 30 = .ok (.aload_n 0, 1) := by decide +kernel
theorem dX10_init_31 : decode cX10_init 31 = .ok (.new 18, 3) := by decide +kernel
theorem dX10_init_34 : decode cX10_init 34 = .ok (.dup, 1) := by decide +kernel
theorem dX10_init_35 : decode cX10_init 35 = .ok (.sipush 640, 3) := by decide +kernel
theorem dX10_init_38 : decode cX10_init 38 = .ok (.invokespecial 22, 3) := by decide +kernel
theorem dX10_init_41 : decode cX10_init 41 = .ok (.putfield 25, 3) := by decide +kernel
theorem dX10_init_44 : decode cX10_init 44 = .ok (.aload_n 0, 1) := by decide +kernel
theorem dX10_init_45 : decode cX10_init 45 = .ok (.new 18, 3) := by decide +kernel
theorem dX10_init_48 : decode cX10_init 48 = .ok (.dup, 1) := by decide +kernel
theorem dX10_init_49 : decode cX10_init 49 = .ok (.sipush 640, 3) := by decide +kernel
theorem dX10_init_52 : decode cX10_init 52 = .ok (.invokespecial 22, 3) := by decide +kernel
theorem dX10_init_55 : decode cX10_init 55 = .ok (.putfield 29, 3) := by decide +kernel
theorem dX10_init_58 : decode cX10_init 58 = .ok (.aload_n 0, 1) := by decide +kernel
theorem dX10_init_59 : decode cX10_init 59 = .ok (.aload_n 1, 1) := by decide +kernel
theorem dX10_init_60 : decode cX10_init 60 = .ok (.putfield 32, 3) := by decide +kernel
theorem dX10_init_63 : decode cX10_init 63 = .ok (.aload_n 0, 1) := by decide +kernel
theorem dX10_init_64 : decode cX10_init 64 = .ok (.aload_n 2, 1) := by decide +kernel
theorem dX10_init_65 : decode cX10_init 65 = .ok (.putfield 36, 3) := by decide +kernel
theorem dX10_init_68 : decode cX10_init 68 = .ok (.aload_n 0, 1) := by decide +kernel
theorem dX10_init_69 : decode cX10_init 69 = .ok (.aload_n 3, 1) := by decide +kernel
theorem dX10_init_70 : decode cX10_init 70 = .ok (.putfield 40, 3) := by decide +kernel
theorem dX10_init_73 : decode cX10_init 73 = .ok (.aload_n 0, 1) := by decide +kernel
theorem dX10_init_74 : decode cX10_init 74 = .ok (.new 44, 3) := by decide +kernel
theorem dX10_init_77 : decode cX10_init 77 = .ok (.dup, 1) := by decide +kernel
theorem dX10_init_78 : decode cX10_init 78 = .ok (.invokespecial 46, 3) := by decide +kernel
theorem dX10_init_81 : decode cX10_init 81 = .ok (.putfield 47, 3) := by decide +kernel
theorem dX10_init_84 : decode cX10_init 84 = .ok (.aload_n 0, 1) := by decide +kernel
theorem dX10_init_85 : decode cX10_init 85 = .ok (.new 51, 3) := by decide +kernel
theorem dX10_init_88 : decode cX10_init 88 = .ok (.dup, 1) := by decide +kernel
theorem dX10_init_89 : decode cX10_init 89 = .ok (.aload_n 2, 1) := by decide +kernel
theorem dX10_init_90 : decode cX10_init 90 = .ok (.invokespecial 53, 3) := by decide +kernel
theorem dX10_init_93 : decode cX10_init 93 = .ok (.putfield 56, 3) := by decide +kernel
theorem dX10_init_96 : decode cX10_init 96 = .ok (.aload_n 0, 1) := by decide +kernel
theorem dX10_init_97 : decode cX10_init 97 = .ok (.new 60, 3) := by decide +kernel
theorem dX10_init_100 : decode cX10_init 100 = .ok (.dup, 1) := by decide +kernel
theorem dX10_init_101 : decode cX10_init 101 = .ok (.aload_n 3, 1) := by decide +kernel
theorem dX10_init_102 : decode cX10_init 102 = .ok (.invokespecial 62, 3) := by decide +kernel
theorem dX10_init_105 : decode cX10_init 105 = .ok (.putfield 65, 3) := by decide +kernel
theorem dX10_init_108 : decode cX10_init 108 = .ok (.aload_n 0, 1) := by decide +kernel
theorem dX10_init_109 : decode cX10_init 109 = .ok (.bipush 8, 2) := by decide +kernel
theorem dX10_init_111 : decode cX10_init 111 = .ok (.newarray .int, 2) := by decide +kernel
theorem dX10_init_113 : decode cX10_init 113 = .ok (.putfield 69, 3) := by decide +kernel
theorem dX10_init_116 : decode cX10_init 116 = .ok (.return_, 1) := by decide +kernel
theorem dX10_context_0 : decode cX10_context 0 = .ok (.iload_n 1, 1) := by decide +kernel
theorem dX10_context_1 : decode cX10_context 1 = .ok (.ifCond .lt 9, 3) := by decide +kernel
theorem dX10_context_4 : decode cX10_context 4 = .ok (.iload_n 1, 1) := by decide +kernel
theorem dX10_context_5 : decode cX10_context 5 = .ok (.bipush 16, 2) := by decide +kernel
theorem dX10_context_7 : decode cX10_context 7 = .ok (.if_icmp .lt 5, 3) := by decide +kernel
theorem dX10_context_10 : decode cX10_context 10 = .ok (.iconst (-1), 1) := by decide +kernel
theorem dX10_context_11 : decode cX10_context 11 = .ok (.ireturn, 1) := by decide +kernel
theorem dX10_context_12 : decode cX10_context 12 = .ok (.aload_n 0, 1) := by decide +kernel
theorem dX10_context_13 : decode cX10_context 13 = .ok (.getfield 32, 3) := by decide +kernel
theorem dX10_context_16 : decode cX10_context 16 = .ok (.iload_n 1, 1) := by decide +kernel
theorem dX10_context_17 : decode cX10_context 17 = .ok (.invokevirtual 73, 3) := by decide +kernel
theorem dX10_context_20 : decode cX10_context 20 = .ok (.istore 5, 2) := by decide +kernel
theorem dX10_context_22 : decode cX10_context 22 = .ok (.aload_n 0, 1) := by decide +kernel
theorem dX10_context_23 : decode cX10_context 23 = .ok (.getfield 32, 3) := by decide +kernel
theorem dX10_context_26 : decode cX10_context 26 = .ok (.iload_n 1, 1) := by decide +kernel
theorem dX10_context_27 : decode cX10_context 27 = .ok (.iload_n 2, 1) := by decide +kernel
theorem dX10_context_28 : decode cX10_context 28 = .ok (.lload_n 3, 1) := by decide +kernel
theorem dX10_context_29 : decode cX10_context 29 = .ok (.invokevirtual 77, 3) := by decide +kernel
theorem dX10_context_32 : decode cX10_context 32 = .ok (.iload 5, 2) := by decide +kernel
theorem dX10_context_34 : decode cX10_context 34 = .ok (.ifCond .eq 7, 3) := by decide +kernel
theorem dX10_context_37 : decode cX10_context 37 = .ok (.iconst 1, 1) := by decide +kernel
theorem dX10_context_38 : decode cX10_context 38 = .ok (.goto 4, 3) := by decide +kernel
theorem dX10_context_41 : decode cX10_context 41 = .ok (.iconst 0, 1) := by decide +kernel
theorem dX10_context_42 : decode cX10_context 42 = .ok (.ireturn, 1) := by decide +kernel
theorem dX10_link_0 : decode cX10_link 0 = .ok (.iload_n 1, 1) := by decide +kernel
theorem dX10_link_1 : decode cX10_link 1 = .ok (.ifCond .eq 10, 3) := by decide +kernel
theorem dX10_link_4 : decode cX10_link 4 = .ok (.iload_n 1, 1) := by decide +kernel
theorem dX10_link_5 : decode cX10_link 5 = .ok (.iconst 1, 1) := by decide +kernel
theorem dX10_link_6 : decode cX10_link 6 = .ok (.if_icmp .eq 5, 3) := by decide +kernel
theorem dX10_link_9 : decode cX10_link 9 = .ok (.iconst (-1), 1) := by decide +kernel
theorem dX10_link_10 : decode cX10_link 10 = .ok (.ireturn, 1) := by decide +kernel
theorem dX10_link_11 : decode cX10_link 11 = .ok (.aload_n 0, 1) := by decide +kernel
theorem dX10_link_12 : decode cX10_link 12 = .ok (.getfield 32, 3) := by decide +kernel
theorem dX10_link_15 : decode cX10_link 15 = .ok (.iload_n 1, 1) := by decide +kernel
theorem dX10_link_16 : decode cX10_link 16 = .ok (.iload_n 2, 1) := by decide +kernel
theorem dX10_link_17 : decode cX10_link 17 = .ok (.lload_n 3, 1) := by decide +kernel
theorem dX10_link_18 : decode cX10_link 18 = .ok (.invokevirtual 81, 3) := by decide +kernel
theorem dX10_link_21 : decode cX10_link 21 = .ok (.iconst 1, 1) := by decide +kernel
theorem dX10_link_22 : decode cX10_link 22 = .ok (.ireturn, 1) := by decide +kernel
theorem dX10_type_0 : decode cX10_type 0 = .ok (.iload_n 3, 1) := by decide +kernel
theorem dX10_type_1 : decode cX10_type 1 = .ok (.iconst 1, 1) := by decide +kernel
theorem dX10_type_2 : decode cX10_type 2 = .ok (.if_icmp .lt 9, 3) := by decide +kernel
theorem dX10_type_5 : decode cX10_type 5 = .ok (.iload_n 3, 1) := by decide +kernel
theorem dX10_type_6 : decode cX10_type 6 = .ok (.bipush 8, 2) := by decide +kernel
theorem dX10_type_8 : decode cX10_type 8 = .ok (.if_icmp .le 5, 3) := by decide +kernel
theorem dX10_type_11 : decode cX10_type 11 = .ok (.iconst (-1), 1) := by decide +kernel
theorem dX10_type_12 : decode cX10_type 12 = .ok (.ireturn, 1) := by decide +kernel
theorem dX10_type_13 : decode cX10_type 13 = .ok (.aload_n 0, 1) := by decide +kernel
theorem dX10_type_14 : decode cX10_type 14 = .ok (.getfield 25, 3) := by decide +kernel
theorem dX10_type_17 : decode cX10_type 17 = .ok (.iload_n 3, 1) := by decide +kernel
theorem dX10_type_18 : decode cX10_type 18 = .ok (.invokevirtual 84, 3) := by decide +kernel
theorem dX10_type_21 : decode cX10_type 21 = .ok (.ifCond .ne 6, 3) := by decide +kernel
theorem dX10_type_24 : decode cX10_type 24 = .ok (.bipush (-3), 2) := by decide +kernel
theorem dX10_type_26 : decode cX10_type 26 = .ok (.ireturn, 1) := by decide +kernel
theorem dX10_type_27 : decode cX10_type 27 = .ok (.aload_n 0, 1) := by decide +kernel
theorem dX10_type_28 : decode cX10_type 28 = .ok (.getfield 25, 3) := by decide +kernel
theorem dX10_type_31 : decode cX10_type 31 = .ok (.lload_n 1, 1) := by decide +kernel
theorem dX10_type_32 : decode cX10_type 32 = .ok (.iload_n 3, 1) := by decide +kernel
theorem dX10_type_33 : decode cX10_type 33 = .ok (.invokevirtual 87, 3) := by decide +kernel
theorem dX10_type_36 : decode cX10_type 36 = .ok (.aload_n 0, 1) := by decide +kernel
theorem dX10_type_37 : decode cX10_type 37 = .ok (.getfield 25, 3) := by decide +kernel
theorem dX10_type_40 : decode cX10_type 40 = .ok (.invokevirtual 91, 3) := by decide +kernel
theorem dX10_type_43 : decode cX10_type 43 = .ok (.ireturn, 1) := by decide +kernel
theorem dX10_head_0 : decode cX10_head 0 = .ok (.iload_n 1, 1) := by decide +kernel
theorem dX10_head_1 : decode cX10_head 1 = .ok (.sipush 255, 3) := by decide +kernel
theorem dX10_head_4 : decode cX10_head 4 = .ok (.invokestatic 95, 3) := by decide +kernel
theorem dX10_head_7 : decode cX10_head 7 = .ok (.ifCond .ne 44, 3) := by decide +kernel
theorem dX10_head_10 : decode cX10_head 10 = .ok (.iload_n 2, 1) := by decide +kernel
theorem dX10_head_11 : decode cX10_head 11 = .ok (.ldc 99, 2) := by decide +kernel
theorem dX10_head_13 : decode cX10_head 13 = .ok (.invokestatic 95, 3) := by decide +kernel
theorem dX10_head_16 : decode cX10_head 16 = .ok (.ifCond .ne 35, 3) := by decide +kernel
theorem dX10_head_19 : decode cX10_head 19 = .ok (.iload_n 3, 1) := by decide +kernel
theorem dX10_head_20 : decode cX10_head 20 = .ok (.sipush 560, 3) := by decide +kernel
theorem dX10_head_23 : decode cX10_head 23 = .ok (.invokestatic 95, 3) := by decide +kernel
theorem dX10_head_26 : decode cX10_head 26 = .ok (.ifCond .ne 25, 3) := by decide +kernel
theorem dX10_head_29 : decode cX10_head 29 = .ok (.iload 4, 2) := by decide +kernel
theorem dX10_head_31 : decode cX10_head 31 = .ok (.sipush 255, 3) := by decide +kernel
theorem dX10_head_34 : decode cX10_head 34 = .ok (.invokestatic 95, 3) := by decide +kernel
theorem dX10_head_37 : decode cX10_head 37 = .ok (.ifCond .ne 14, 3) := by decide +kernel
theorem dX10_head_40 : decode cX10_head 40 = .ok (.iload 5, 2) := by decide +kernel
theorem dX10_head_42 : decode cX10_head 42 = .ok (.sipush 255, 3) := by decide +kernel
theorem dX10_head_45 : decode cX10_head 45 = .ok (.invokestatic 95, 3) := by decide +kernel
theorem dX10_head_48 : decode cX10_head 48 = .ok (.ifCond .eq 5, 3) := by decide +kernel
theorem dX10_head_51 : decode cX10_head 51 = .ok (.iconst (-1), 1) := by decide +kernel
theorem dX10_head_52 : decode cX10_head 52 = .ok (.ireturn, 1) := by decide +kernel
theorem dX10_head_53 : decode cX10_head 53 = .ok (.aload_n 0, 1) := by decide +kernel
theorem dX10_head_54 : decode cX10_head 54 = .ok (.getfield 25, 3) := by decide +kernel
theorem dX10_head_57 : decode cX10_head 57 = .ok (.bipush 40, 2) := by decide +kernel
theorem dX10_head_59 : decode cX10_head 59 = .ok (.invokevirtual 84, 3) := by decide +kernel
theorem dX10_head_62 : decode cX10_head 62 = .ok (.ifCond .ne 6, 3) := by decide +kernel
theorem dX10_head_65 : decode cX10_head 65 = .ok (.bipush (-3), 2) := by decide +kernel
theorem dX10_head_67 : decode cX10_head 67 = .ok (.ireturn, 1) := by decide +kernel
theorem dX10_head_68 : decode cX10_head 68 = .ok (.aload_n 0, 1) := by decide +kernel
theorem dX10_head_69 : decode cX10_head 69 = .ok (.getfield 25, 3) := by decide +kernel
theorem dX10_head_72 : decode cX10_head 72 = .ok (.iload_n 1, 1) := by decide +kernel
theorem dX10_head_73 : decode cX10_head 73 = .ok (.iload_n 2, 1) := by decide +kernel
theorem dX10_head_74 : decode cX10_head 74 = .ok (.invokestatic 100, 3) := by decide +kernel
theorem dX10_head_77 : decode cX10_head 77 = .ok (.iconst 4, 1) := by decide +kernel
theorem dX10_head_78 : decode cX10_head 78 = .ok (.invokevirtual 87, 3) := by decide +kernel
theorem dX10_head_81 : decode cX10_head 81 = .ok (.aload_n 0, 1) := by decide +kernel
theorem dX10_head_82 : decode cX10_head 82 = .ok (.getfield 25, 3) := by decide +kernel
theorem dX10_head_85 : decode cX10_head 85 = .ok (.iload_n 3, 1) := by decide +kernel
theorem dX10_head_86 : decode cX10_head 86 = .ok (.i2l, 1) := by decide +kernel
theorem dX10_head_87 : decode cX10_head 87 = .ok (.iconst 2, 1) := by decide +kernel
theorem dX10_head_88 : decode cX10_head 88 = .ok (.invokevirtual 87, 3) := by decide +kernel
theorem dX10_head_91 : decode cX10_head 91 = .ok (.aload_n 0, 1) := by decide +kernel
theorem dX10_head_92 : decode cX10_head 92 = .ok (.getfield 25, 3) := by decide +kernel
theorem dX10_head_95 : decode cX10_head 95 = .ok (.iload 4, 2) := by decide +kernel
theorem dX10_head_97 : decode cX10_head 97 = .ok (.invokevirtual 106, 3) := by decide +kernel
theorem dX10_head_100 : decode cX10_head 100 = .ok (.aload_n 0, 1) := by decide +kernel
theorem dX10_head_101 : decode cX10_head 101 = .ok (.getfield 25, 3) := by decide +kernel
theorem dX10_head_104 : decode cX10_head 104 = .ok (.iload 5, 2) := by decide +kernel
theorem dX10_head_106 : decode cX10_head 106 = .ok (.invokevirtual 106, 3) := by decide +kernel
theorem dX10_head_109 : decode cX10_head 109 = .ok (.aload_n 0, 1) := by decide +kernel
theorem dX10_head_110 : decode cX10_head 110 = .ok (.getfield 25, 3) := by decide +kernel
theorem dX10_head_113 : decode cX10_head 113 = .ok (.lload 6, 2) := by decide +kernel
theorem dX10_head_115 : decode cX10_head 115 = .ok (.bipush 8, 2) := by decide +kernel
theorem dX10_head_117 : decode cX10_head 117 = .ok (.invokevirtual 87, 3) := by decide +kernel
theorem dX10_head_120 : decode cX10_head 120 = .ok (.aload_n 0, 1) := by decide +kernel
theorem dX10_head_121 : decode cX10_head 121 = .ok (.getfield 25, 3) := by decide +kernel
theorem dX10_head_124 : decode cX10_head 124 = .ok (.lload 8, 2) := by decide +kernel
theorem dX10_head_126 : decode cX10_head 126 = .ok (.bipush 8, 2) := by decide +kernel
theorem dX10_head_128 : decode cX10_head 128 = .ok (.invokevirtual 87, 3) := by decide +kernel
theorem dX10_head_131 : decode cX10_head 131 = .ok (.aload_n 0, 1) := by decide +kernel
theorem dX10_head_132 : decode cX10_head 132 = .ok (.getfield 25, 3) := by decide +kernel
theorem dX10_head_135 : decode cX10_head 135 = .ok (.lload 10, 2) := by decide +kernel
theorem dX10_head_137 : decode cX10_head 137 = .ok (.bipush 8, 2) := by decide +kernel
theorem dX10_head_139 : decode cX10_head 139 = .ok (.invokevirtual 87, 3) := by decide +kernel
theorem dX10_head_142 : decode cX10_head 142 = .ok (.aload_n 0, 1) := by decide +kernel
theorem dX10_head_143 : decode cX10_head 143 = .ok (.getfield 25, 3) := by decide +kernel
theorem dX10_head_146 : decode cX10_head 146 = .ok (.lload 12, 2) := by decide +kernel
theorem dX10_head_148 : decode cX10_head 148 = .ok (.bipush 8, 2) := by decide +kernel
theorem dX10_head_150 : decode cX10_head 150 = .ok (.invokevirtual 87, 3) := by decide +kernel
theorem dX10_head_153 : decode cX10_head 153 = .ok (.aload_n 0, 1) := by decide +kernel
theorem dX10_head_154 : decode cX10_head 154 = .ok (.getfield 25, 3) := by decide +kernel
theorem dX10_head_157 : decode cX10_head 157 = .ok (.invokevirtual 91, 3) := by decide +kernel
theorem dX10_head_160 : decode cX10_head 160 = .ok (.ireturn, 1) := by decide +kernel
theorem dX10_cut_0 : decode cX10_cut 0 = .ok (.aload_n 0, 1) := by decide +kernel
theorem dX10_cut_1 : decode cX10_cut 1 = .ok (.getfield 25, 3) := by decide +kernel
theorem dX10_cut_4 : decode cX10_cut 4 = .ok (.invokevirtual 91, 3) := by decide +kernel
theorem dX10_cut_7 : decode cX10_cut 7 = .ok (.istore_n 2, 1) := by decide +kernel
theorem dX10_cut_8 : decode cX10_cut 8 = .ok (.iload_n 1, 1) := by decide +kernel
theorem dX10_cut_9 : decode cX10_cut 9 = .ok (.iload_n 2, 1) := by decide +kernel
theorem dX10_cut_10 : decode cX10_cut 10 = .ok (.invokestatic 95, 3) := by decide +kernel
theorem dX10_cut_13 : decode cX10_cut 13 = .ok (.ifCond .eq 5, 3) := by decide +kernel
theorem dX10_cut_16 : decode cX10_cut 16 = .ok (.iconst (-1), 1) := by decide +kernel
theorem dX10_cut_17 : decode cX10_cut 17 = .ok (.ireturn, 1) := by decide +kernel
theorem dX10_cut_18 : decode cX10_cut 18 = .ok (.aload_n 0, 1) := by decide +kernel
theorem dX10_cut_19 : decode cX10_cut 19 = .ok (.getfield 25, 3) := by decide +kernel
theorem dX10_cut_22 : decode cX10_cut 22 = .ok (.iload_n 1, 1) := by decide +kernel
theorem dX10_cut_23 : decode cX10_cut 23 = .ok (.invokevirtual 109, 3) := by decide +kernel
theorem dX10_cut_26 : decode cX10_cut 26 = .ok (.iload_n 2, 1) := by decide +kernel
theorem dX10_cut_27 : decode cX10_cut 27 = .ok (.iload_n 1, 1) := by decide +kernel
theorem dX10_cut_28 : decode cX10_cut 28 = .ok (.isub, 1) := by decide +kernel
theorem dX10_cut_29 : decode cX10_cut 29 = .ok (.ireturn, 1) := by decide +kernel
theorem dX10_out_0 : decode cX10_out 0 = .ok (.aload_n 0, 1) := by decide +kernel
theorem dX10_out_1 : decode cX10_out 1 = .ok (.getfield 29, 3) := by decide +kernel
theorem dX10_out_4 : decode cX10_out 4 = .ok (.iload_n 1, 1) := by decide +kernel
theorem dX10_out_5 : decode cX10_out 5 = .ok (.invokestatic 123, 3) := by decide +kernel
theorem dX10_out_8 : decode cX10_out 8 = .ok (.ireturn, 1) := by decide +kernel
theorem dX10_slice_0 : decode cX10_slice 0 = .ok (.iload_n 1, 1) := by decide +kernel
theorem dX10_slice_1 : decode cX10_slice 1 = .ok (.bipush 40, 2) := by decide +kernel
theorem dX10_slice_3 : decode cX10_slice 3 = .ok (.if_icmp .lt 18, 3) := by decide +kernel
theorem dX10_slice_6 : decode cX10_slice 6 = .ok (.iload_n 1, 1) := by decide +kernel
theorem dX10_slice_7 : decode cX10_slice 7 = .ok (.bipush 120, 2) := by decide +kernel
theorem dX10_slice_9 : decode cX10_slice 9 = .ok (.if_icmp .gt 12, 3) := by decide +kernel
theorem dX10_slice_12 : decode cX10_slice 12 = .ok (.iload_n 2, 1) := by decide +kernel
theorem dX10_slice_13 : decode cX10_slice 13 = .ok (.ldc 150, 2) := by decide +kernel
theorem dX10_slice_15 : decode cX10_slice 15 = .ok (.invokestatic 95, 3) := by decide +kernel
theorem dX10_slice_18 : decode cX10_slice 18 = .ok (.ifCond .eq 5, 3) := by decide +kernel
theorem dX10_slice_21 : decode cX10_slice 21 = .ok (.iconst (-1), 1) := by decide +kernel
theorem dX10_slice_22 : decode cX10_slice 22 = .ok (.ireturn, 1) := by decide +kernel
theorem dX10_slice_23 : decode cX10_slice 23 = .ok (.aload_n 0, 1) := by decide +kernel
theorem dX10_slice_24 : decode cX10_slice 24 = .ok (.getfield 25, 3) := by decide +kernel
theorem dX10_slice_27 : decode cX10_slice 27 = .ok (.invokestatic 127, 3) := by decide +kernel
theorem dX10_slice_30 : decode cX10_slice 30 = .ok (.ifCond .ne 6, 3) := by decide +kernel
theorem dX10_slice_33 : decode cX10_slice 33 = .ok (.bipush (-2), 2) := by decide +kernel
theorem dX10_slice_35 : decode cX10_slice 35 = .ok (.ireturn, 1) := by decide +kernel
theorem dX10_slice_36 : decode cX10_slice 36 = .ok (.aload_n 0, 1) := by decide +kernel
theorem dX10_slice_37 : decode cX10_slice 37 = .ok (.getfield 56, 3) := by decide +kernel
theorem dX10_slice_40 : decode cX10_slice 40 = .ok (.aload_n 0, 1) := by decide +kernel
theorem dX10_slice_41 : decode cX10_slice 41 = .ok (.getfield 25, 3) := by decide +kernel
theorem dX10_slice_44 : decode cX10_slice 44 = .ok (.iload_n 1, 1) := by decide +kernel
theorem dX10_slice_45 : decode cX10_slice 45 = .ok (.iload_n 2, 1) := by decide +kernel
theorem dX10_slice_46 : decode cX10_slice 46 = .ok (.aload_n 0, 1) := by decide +kernel
theorem dX10_slice_47 : decode cX10_slice 47 = .ok (.getfield 47, 3) := by decide +kernel
theorem dX10_slice_50 : decode cX10_slice 50 = .ok (.invokevirtual 151, 3) := by decide +kernel
theorem dX10_slice_53 : decode cX10_slice 53 = .ok (.ireturn, 1) := by decide +kernel
theorem dX10_put_0 : decode cX10_put 0 = .ok (.iload_n 1, 1) := by decide +kernel
theorem dX10_put_1 : decode cX10_put 1 = .ok (.aload_n 0, 1) := by decide +kernel
theorem dX10_put_2 : decode cX10_put 2 = .ok (.getfield 47, 3) := by decide +kernel
theorem dX10_put_5 : decode cX10_put 5 = .ok (.invokevirtual 160, 3) := by decide +kernel
theorem dX10_put_8 : decode cX10_put 8 = .ok (.invokestatic 95, 3) := by decide +kernel
theorem dX10_put_11 : decode cX10_put 11 = .ok (.ifCond .eq 5, 3) := by decide +kernel
theorem dX10_put_14 : decode cX10_put 14 = .ok (.iconst (-1), 1) := by decide +kernel
theorem dX10_put_15 : decode cX10_put 15 = .ok (.ireturn, 1) := by decide +kernel
theorem dX10_put_16 : decode cX10_put 16 = .ok (.aload_n 0, 1) := by decide +kernel
theorem dX10_put_17 : decode cX10_put 17 = .ok (.getfield 25, 3) := by decide +kernel
theorem dX10_put_20 : decode cX10_put 20 = .ok (.invokevirtual 91, 3) := by decide +kernel
theorem dX10_put_23 : decode cX10_put 23 = .ok (.ifCond .eq 15, 3) := by decide +kernel
theorem dX10_put_26 : decode cX10_put 26 = .ok (.aload_n 0, 1) := by decide +kernel
theorem dX10_put_27 : decode cX10_put 27 = .ok (.getfield 25, 3) := by decide +kernel
theorem dX10_put_30 : decode cX10_put 30 = .ok (.invokevirtual 91, 3) := by decide +kernel
theorem dX10_put_33 : decode cX10_put 33 = .ok (.bipush 120, 2) := by decide +kernel
theorem dX10_put_35 : decode cX10_put 35 = .ok (.if_icmp .le 6, 3) := by decide +kernel
theorem dX10_put_38 : decode cX10_put 38 = .ok (.bipush (-2), 2) := by decide +kernel
theorem dX10_put_40 : decode cX10_put 40 = .ok (.ireturn, 1) := by decide +kernel
theorem dX10_put_41 : decode cX10_put 41 = .ok (.aload_n 0, 1) := by decide +kernel
theorem dX10_put_42 : decode cX10_put 42 = .ok (.getfield 47, 3) := by decide +kernel
theorem dX10_put_45 : decode cX10_put 45 = .ok (.iload_n 1, 1) := by decide +kernel
theorem dX10_put_46 : decode cX10_put 46 = .ok (.aload_n 0, 1) := by decide +kernel
theorem dX10_put_47 : decode cX10_put 47 = .ok (.getfield 25, 3) := by decide +kernel
theorem dX10_put_50 : decode cX10_put 50 = .ok (.invokevirtual 163, 3) := by decide +kernel
theorem dX10_put_53 : decode cX10_put 53 = .ok (.ifCond .eq 13, 3) := by decide +kernel
theorem dX10_put_56 : decode cX10_put 56 = .ok (.aload_n 0, 1) := by decide +kernel
theorem dX10_put_57 : decode cX10_put 57 = .ok (.getfield 47, 3) := by decide +kernel
theorem dX10_put_60 : decode cX10_put 60 = .ok (.invokevirtual 160, 3) := by decide +kernel
theorem dX10_put_63 : decode cX10_put 63 = .ok (.goto 5, 3) := by decide +kernel
theorem dX10_put_66 : decode cX10_put 66 = .ok (.bipush (-3), 2) := by decide +kernel
theorem dX10_put_68 : decode cX10_put 68 = .ok (.ireturn, 1) := by decide +kernel
theorem dX10_hear_0 : decode cX10_hear 0 = .ok (.aload_n 0, 1) := by decide +kernel
theorem dX10_hear_1 : decode cX10_hear 1 = .ok (.getfield 47, 3) := by decide +kernel
theorem dX10_hear_4 : decode cX10_hear 4 = .ok (.iload_n 1, 1) := by decide +kernel
theorem dX10_hear_5 : decode cX10_hear 5 = .ok (.invokevirtual 155, 3) := by decide +kernel
theorem dX10_hear_8 : decode cX10_hear 8 = .ok (.ifCond .eq 25, 3) := by decide +kernel
theorem dX10_hear_11 : decode cX10_hear 11 = .ok (.aload_n 0, 1) := by decide +kernel
theorem dX10_hear_12 : decode cX10_hear 12 = .ok (.getfield 65, 3) := by decide +kernel
theorem dX10_hear_15 : decode cX10_hear 15 = .ok (.aload_n 0, 1) := by decide +kernel
theorem dX10_hear_16 : decode cX10_hear 16 = .ok (.getfield 47, 3) := by decide +kernel
theorem dX10_hear_19 : decode cX10_hear 19 = .ok (.iload_n 1, 1) := by decide +kernel
theorem dX10_hear_20 : decode cX10_hear 20 = .ok (.invokevirtual 156, 3) := by decide +kernel
theorem dX10_hear_23 : decode cX10_hear 23 = .ok (.aload_n 0, 1) := by decide +kernel
theorem dX10_hear_24 : decode cX10_hear 24 = .ok (.getfield 29, 3) := by decide +kernel
theorem dX10_hear_27 : decode cX10_hear 27 = .ok (.invokevirtual 167, 3) := by decide +kernel
theorem dX10_hear_30 : decode cX10_hear 30 = .ok (.goto 4, 3) := by decide +kernel
theorem dX10_hear_33 : decode cX10_hear 33 = .ok (.iconst (-1), 1) := by decide +kernel
theorem dX10_hear_34 : decode cX10_hear 34 = .ok (.ireturn, 1) := by decide +kernel
theorem dX10_count_0 : decode cX10_count 0 = .ok (.iload_n 1, 1) := by decide +kernel
theorem dX10_count_1 : decode cX10_count 1 = .ok (.tableswitch 123 0 8 #[51, 59, 67, 75, 83, 91, 99, 107, 115], 51) := by decide +kernel
theorem dX10_count_52 : decode cX10_count 52 = .ok (.aload_n 0, 1) := by decide +kernel
theorem dX10_count_53 : decode cX10_count 53 = .ok (.getfield 65, 3) := by decide +kernel
theorem dX10_count_56 : decode cX10_count 56 = .ok (.invokevirtual 174, 3) := by decide +kernel
theorem dX10_count_59 : decode cX10_count 59 = .ok (.ireturn, 1) := by decide +kernel
theorem dX10_count_60 : decode cX10_count 60 = .ok (.aload_n 0, 1) := by decide +kernel
theorem dX10_count_61 : decode cX10_count 61 = .ok (.getfield 65, 3) := by decide +kernel
theorem dX10_count_64 : decode cX10_count 64 = .ok (.invokevirtual 177, 3) := by decide +kernel
theorem dX10_count_67 : decode cX10_count 67 = .ok (.ireturn, 1) := by decide +kernel
theorem dX10_count_68 : decode cX10_count 68 = .ok (.aload_n 0, 1) := by decide +kernel
theorem dX10_count_69 : decode cX10_count 69 = .ok (.getfield 65, 3) := by decide +kernel
theorem dX10_count_72 : decode cX10_count 72 = .ok (.invokevirtual 180, 3) := by decide +kernel
theorem dX10_count_75 : decode cX10_count 75 = .ok (.ireturn, 1) := by decide +kernel
theorem dX10_count_76 : decode cX10_count 76 = .ok (.aload_n 0, 1) := by decide +kernel
theorem dX10_count_77 : decode cX10_count 77 = .ok (.getfield 47, 3) := by decide +kernel
theorem dX10_count_80 : decode cX10_count 80 = .ok (.invokevirtual 160, 3) := by decide +kernel
theorem dX10_count_83 : decode cX10_count 83 = .ok (.ireturn, 1) := by decide +kernel
theorem dX10_count_84 : decode cX10_count 84 = .ok (.aload_n 0, 1) := by decide +kernel
theorem dX10_count_85 : decode cX10_count 85 = .ok (.getfield 65, 3) := by decide +kernel
theorem dX10_count_88 : decode cX10_count 88 = .ok (.getfield 183, 3) := by decide +kernel
theorem dX10_count_91 : decode cX10_count 91 = .ok (.ireturn, 1) := by decide +kernel
theorem dX10_count_92 : decode cX10_count 92 = .ok (.aload_n 0, 1) := by decide +kernel
theorem dX10_count_93 : decode cX10_count 93 = .ok (.getfield 65, 3) := by decide +kernel
theorem dX10_count_96 : decode cX10_count 96 = .ok (.getfield 187, 3) := by decide +kernel
theorem dX10_count_99 : decode cX10_count 99 = .ok (.ireturn, 1) := by decide +kernel
theorem dX10_count_100 : decode cX10_count 100 = .ok (.aload_n 0, 1) := by decide +kernel
theorem dX10_count_101 : decode cX10_count 101 = .ok (.getfield 65, 3) := by decide +kernel
theorem dX10_count_104 : decode cX10_count 104 = .ok (.getfield 190, 3) := by decide +kernel
theorem dX10_count_107 : decode cX10_count 107 = .ok (.ireturn, 1) := by decide +kernel
theorem dX10_count_108 : decode cX10_count 108 = .ok (.aload_n 0, 1) := by decide +kernel
theorem dX10_count_109 : decode cX10_count 109 = .ok (.getfield 65, 3) := by decide +kernel
theorem dX10_count_112 : decode cX10_count 112 = .ok (.getfield 193, 3) := by decide +kernel
theorem dX10_count_115 : decode cX10_count 115 = .ok (.ireturn, 1) := by decide +kernel
theorem dX10_count_116 : decode cX10_count 116 = .ok (.aload_n 0, 1) := by decide +kernel
theorem dX10_count_117 : decode cX10_count 117 = .ok (.getfield 65, 3) := by decide +kernel
theorem dX10_count_120 : decode cX10_count 120 = .ok (.getfield 196, 3) := by decide +kernel
theorem dX10_count_123 : decode cX10_count 123 = .ok (.ireturn, 1) := by decide +kernel
theorem dX10_count_124 : decode cX10_count 124 = .ok (.iconst (-1), 1) := by decide +kernel
theorem dX10_count_125 : decode cX10_count 125 = .ok (.ireturn, 1) := by decide +kernel
theorem dX10_isOutside_0 : decode cX10_isOutside 0 = .ok (.iload_n 0, 1) := by decide +kernel
theorem dX10_isOutside_1 : decode cX10_isOutside 1 = .ok (.ifCond .lt 8, 3) := by decide +kernel
theorem dX10_isOutside_4 : decode cX10_isOutside 4 = .ok (.iload_n 0, 1) := by decide +kernel
theorem dX10_isOutside_5 : decode cX10_isOutside 5 = .ok (.iload_n 1, 1) := by decide +kernel
theorem dX10_isOutside_6 : decode cX10_isOutside 6 = .ok (.if_icmp .le 7, 3) := by decide +kernel
theorem dX10_isOutside_9 : decode cX10_isOutside 9 = .ok (.iconst 1, 1) := by decide +kernel
theorem dX10_isOutside_10 : decode cX10_isOutside 10 = .ok (.goto 4, 3) := by decide +kernel
theorem dX10_isOutside_13 : decode cX10_isOutside 13 = .ok (.iconst 0, 1) := by decide +kernel
theorem dX10_isOutside_14 : decode cX10_isOutside 14 = .ok (.ireturn, 1) := by decide +kernel
theorem dX10_byteOrLength_0 : decode cX10_byteOrLength 0 = .ok (.iload_n 1, 1) := by decide +kernel
theorem dX10_byteOrLength_1 : decode cX10_byteOrLength 1 = .ok (.iconst (-1), 1) := by decide +kernel
theorem dX10_byteOrLength_2 : decode cX10_byteOrLength 2 = .ok (.if_icmp .ne 8, 3) := by decide +kernel
theorem dX10_byteOrLength_5 : decode cX10_byteOrLength 5 = .ok (.aload_n 0, 1) := by decide +kernel
theorem dX10_byteOrLength_6 : decode cX10_byteOrLength 6 = .ok (.invokevirtual 91, 3) := by decide +kernel
theorem dX10_byteOrLength_9 : decode cX10_byteOrLength 9 = .ok (.ireturn, 1) := by decide +kernel
theorem dX10_byteOrLength_10 : decode cX10_byteOrLength 10 = .ok (.aload_n 0, 1) := by decide +kernel
theorem dX10_byteOrLength_11 : decode cX10_byteOrLength 11 = .ok (.iload_n 1, 1) := by decide +kernel
theorem dX10_byteOrLength_12 : decode cX10_byteOrLength 12 = .ok (.invokevirtual 112, 3) := by decide +kernel
theorem dX10_byteOrLength_15 : decode cX10_byteOrLength 15 = .ok (.ifCond .eq 11, 3) := by decide +kernel
theorem dX10_byteOrLength_18 : decode cX10_byteOrLength 18 = .ok (.aload_n 0, 1) := by decide +kernel
theorem dX10_byteOrLength_19 : decode cX10_byteOrLength 19 = .ok (.iload_n 1, 1) := by decide +kernel
theorem dX10_byteOrLength_20 : decode cX10_byteOrLength 20 = .ok (.invokevirtual 199, 3) := by decide +kernel
theorem dX10_byteOrLength_23 : decode cX10_byteOrLength 23 = .ok (.goto 4, 3) := by decide +kernel
theorem dX10_byteOrLength_26 : decode cX10_byteOrLength 26 = .ok (.iconst (-1), 1) := by decide +kernel
theorem dX10_byteOrLength_27 : decode cX10_byteOrLength 27 = .ok (.ireturn, 1) := by decide +kernel
theorem dL_cell_0 : decode cL_cell 0 = .ok (.iload_n 1, 1) := by decide +kernel
theorem dL_cell_1 : decode cL_cell 1 = .ok (.aload_n 0, 1) := by decide +kernel
theorem dL_cell_2 : decode cL_cell 2 = .ok (.arraylength, 1) := by decide +kernel
theorem dL_cell_3 : decode cL_cell 3 = .ok (.if_icmp .ge 9, 3) := by decide +kernel
theorem dL_cell_6 : decode cL_cell 6 = .ok (.aload_n 0, 1) := by decide +kernel
theorem dL_cell_7 : decode cL_cell 7 = .ok (.iload_n 1, 1) := by decide +kernel
theorem dL_cell_8 : decode cL_cell 8 = .ok (.iaload, 1) := by decide +kernel
theorem dL_cell_9 : decode cL_cell 9 = .ok (.goto 10, 3) := by decide +kernel
theorem dL_cell_12 : decode cL_cell 12 = .ok (.ldc 7, 2) := by decide +kernel
theorem dL_cell_14 : decode cL_cell 14 = .ok (.iload_n 1, 1) := by decide +kernel
theorem dL_cell_15 : decode cL_cell 15 = .ok (.imul, 1) := by decide +kernel
theorem dL_cell_16 : decode cL_cell 16 = .ok (.bipush 107, 2) := by decide +kernel
theorem dL_cell_18 : decode cL_cell 18 = .ok (.iadd, 1) := by decide +kernel
theorem dL_cell_19 : decode cL_cell 19 = .ok (.ldc 8, 2) := by decide +kernel
theorem dL_cell_21 : decode cL_cell 21 = .ok (.iand, 1) := by decide +kernel
theorem dL_cell_22 : decode cL_cell 22 = .ok (.ireturn, 1) := by decide +kernel
theorem dL_lays_0 : decode cL_lays 0 = .ok (.aload_n 1, 1) := by decide +kernel
theorem dL_lays_1 : decode cL_lays 1 = .ok (.iconst 0, 1) := by decide +kernel
theorem dL_lays_2 : decode cL_lays 2 = .ok (.invokestatic 9, 3) := by decide +kernel
theorem dL_lays_5 : decode cL_lays 5 = .ok (.iload_n 2, 1) := by decide +kernel
theorem dL_lays_6 : decode cL_lays 6 = .ok (.iconst 1, 1) := by decide +kernel
theorem dL_lays_7 : decode cL_lays 7 = .ok (.iadd, 1) := by decide +kernel
theorem dL_lays_8 : decode cL_lays 8 = .ok (.irem, 1) := by decide +kernel
theorem dL_lays_9 : decode cL_lays 9 = .ok (.istore_n 3, 1) := by decide +kernel
theorem dL_lays_10 : decode cL_lays 10 = .ok (.aload_n 1, 1) := by decide +kernel
theorem dL_lays_11 : decode cL_lays 11 = .ok (.iconst 1, 1) := by decide +kernel
theorem dL_lays_12 : decode cL_lays 12 = .ok (.invokestatic 9, 3) := by decide +kernel
theorem dL_lays_15 : decode cL_lays 15 = .ok (.istore 4, 2) := by decide +kernel
theorem dL_lays_17 : decode cL_lays 17 = .ok (.iload 4, 2) := by decide +kernel
theorem dL_lays_19 : decode cL_lays 19 = .ok (.iconst 3, 1) := by decide +kernel
theorem dL_lays_20 : decode cL_lays 20 = .ok (.irem, 1) := by decide +kernel
theorem dL_lays_21 : decode cL_lays 21 = .ok (.ifCond .ne 7, 3) := by decide +kernel
theorem dL_lays_24 : decode cL_lays 24 = .ok (.iconst 0, 1) := by decide +kernel
theorem dL_lays_25 : decode cL_lays 25 = .ok (.goto 28, 3) := by decide +kernel
theorem dL_lays_28 : decode cL_lays 28 = .ok (.iload 4, 2) := by decide +kernel
theorem dL_lays_30 : decode cL_lays 30 = .ok (.iconst 3, 1) := by decide +kernel
theorem dL_lays_31 : decode cL_lays 31 = .ok (.irem, 1) := by decide +kernel
theorem dL_lays_32 : decode cL_lays 32 = .ok (.iconst 1, 1) := by decide +kernel
theorem dL_lays_33 : decode cL_lays 33 = .ok (.if_icmp .ne 12, 3) := by decide +kernel
theorem dL_lays_36 : decode cL_lays 36 = .ok (.iload 4, 2) := by decide +kernel
theorem dL_lays_38 : decode cL_lays 38 = .ok (.iconst 4, 1) := by decide +kernel
theorem dL_lays_39 : decode cL_lays 39 = .ok (.ishr, 1) := by decide +kernel
theorem dL_lays_40 : decode cL_lays 40 = .ok (.iconst 3, 1) := by decide +kernel
theorem dL_lays_41 : decode cL_lays 41 = .ok (.iand, 1) := by decide +kernel
theorem dL_lays_42 : decode cL_lays 42 = .ok (.goto 11, 3) := by decide +kernel
theorem dL_lays_45 : decode cL_lays 45 = .ok (.iload 4, 2) := by decide +kernel
theorem dL_lays_47 : decode cL_lays 47 = .ok (.iconst 4, 1) := by decide +kernel
theorem dL_lays_48 : decode cL_lays 48 = .ok (.ishr, 1) := by decide +kernel
theorem dL_lays_49 : decode cL_lays 49 = .ok (.sipush 255, 3) := by decide +kernel
theorem dL_lays_52 : decode cL_lays 52 = .ok (.iand, 1) := by decide +kernel
theorem dL_lays_53 : decode cL_lays 53 = .ok (.istore 5, 2) := by decide +kernel
theorem dL_lays_55 : decode cL_lays 55 = .ok (.iload 4, 2) := by decide +kernel
theorem dL_lays_57 : decode cL_lays 57 = .ok (.iconst 5, 1) := by decide +kernel
theorem dL_lays_58 : decode cL_lays 58 = .ok (.irem, 1) := by decide +kernel
theorem dL_lays_59 : decode cL_lays 59 = .ok (.iconst 2, 1) := by decide +kernel
theorem dL_lays_60 : decode cL_lays 60 = .ok (.if_icmp .ge 7, 3) := by decide +kernel
theorem dL_lays_63 : decode cL_lays 63 = .ok (.iconst 0, 1) := by decide +kernel
theorem dL_lays_64 : decode cL_lays 64 = .ok (.goto 11, 3) := by decide +kernel
theorem dL_lays_67 : decode cL_lays 67 = .ok (.iload 4, 2) := by decide +kernel
theorem dL_lays_69 : decode cL_lays 69 = .ok (.bipush 6, 2) := by decide +kernel
theorem dL_lays_71 : decode cL_lays 71 = .ok (.ishr, 1) := by decide +kernel
theorem dL_lays_72 : decode cL_lays 72 = .ok (.ldc 15, 2) := by decide +kernel
theorem dL_lays_74 : decode cL_lays 74 = .ok (.iand, 1) := by decide +kernel
theorem dL_lays_75 : decode cL_lays 75 = .ok (.istore 6, 2) := by decide +kernel
theorem dL_lays_77 : decode cL_lays 77 = .ok (.iload 4, 2) := by decide +kernel
theorem dL_lays_79 : decode cL_lays 79 = .ok (.bipush 7, 2) := by decide +kernel
theorem dL_lays_81 : decode cL_lays 81 = .ok (.irem, 1) := by decide +kernel
theorem dL_lays_82 : decode cL_lays 82 = .ok (.iconst 3, 1) := by decide +kernel
theorem dL_lays_83 : decode cL_lays 83 = .ok (.if_icmp .ge 8, 3) := by decide +kernel
theorem dL_lays_86 : decode cL_lays 86 = .ok (.bipush 17, 2) := by decide +kernel
theorem dL_lays_88 : decode cL_lays 88 = .ok (.goto 12, 3) := by decide +kernel
theorem dL_lays_91 : decode cL_lays 91 = .ok (.iload 4, 2) := by decide +kernel
theorem dL_lays_93 : decode cL_lays 93 = .ok (.bipush 9, 2) := by decide +kernel
theorem dL_lays_95 : decode cL_lays 95 = .ok (.ishr, 1) := by decide +kernel
theorem dL_lays_96 : decode cL_lays 96 = .ok (.sipush 255, 3) := by decide +kernel
theorem dL_lays_99 : decode cL_lays 99 = .ok (.iand, 1) := by decide +kernel
theorem dL_lays_100 : decode cL_lays 100 = .ok (.istore 7, 2) := by decide +kernel
theorem dL_lays_102 : decode cL_lays 102 = .ok (.iload 4, 2) := by decide +kernel
theorem dL_lays_104 : decode cL_lays 104 = .ok (.bipush 11, 2) := by decide +kernel
theorem dL_lays_106 : decode cL_lays 106 = .ok (.irem, 1) := by decide +kernel
theorem dL_lays_107 : decode cL_lays 107 = .ok (.iconst 2, 1) := by decide +kernel
theorem dL_lays_108 : decode cL_lays 108 = .ok (.if_icmp .ge 7, 3) := by decide +kernel
theorem dL_lays_111 : decode cL_lays 111 = .ok (.iconst 1, 1) := by decide +kernel
theorem dL_lays_112 : decode cL_lays 112 = .ok (.goto 42, 3) := by decide +kernel
theorem dL_lays_115 : decode cL_lays 115 = .ok (.iload 4, 2) := by decide +kernel
theorem dL_lays_117 : decode cL_lays 117 = .ok (.bipush 11, 2) := by decide +kernel
theorem dL_lays_119 : decode cL_lays 119 = .ok (.irem, 1) := by decide +kernel
theorem dL_lays_120 : decode cL_lays 120 = .ok (.iconst 4, 1) := by decide +kernel
theorem dL_lays_121 : decode cL_lays 121 = .ok (.if_icmp .ge 8, 3) := by decide +kernel
theorem dL_lays_124 : decode cL_lays 124 = .ok (.bipush 64, 2) := by decide +kernel
theorem dL_lays_126 : decode cL_lays 126 = .ok (.goto 28, 3) := by decide +kernel
theorem dL_lays_129 : decode cL_lays 129 = .ok (.iload 4, 2) := by decide +kernel
theorem dL_lays_131 : decode cL_lays 131 = .ok (.bipush 11, 2) := by decide +kernel
theorem dL_lays_133 : decode cL_lays 133 = .ok (.irem, 1) := by decide +kernel
theorem dL_lays_134 : decode cL_lays 134 = .ok (.bipush 6, 2) := by decide +kernel
theorem dL_lays_136 : decode cL_lays 136 = .ok (.if_icmp .ge 9, 3) := by decide +kernel
theorem dL_lays_139 : decode cL_lays 139 = .ok (.sipush 255, 3) := by decide +kernel
theorem dL_lays_142 : decode cL_lays 142 = .ok (.goto 12, 3) := by decide +kernel
theorem dL_lays_145 : decode cL_lays 145 = .ok (.iload 4, 2) := by decide +kernel
theorem dL_lays_147 : decode cL_lays 147 = .ok (.bipush 10, 2) := by decide +kernel
theorem dL_lays_149 : decode cL_lays 149 = .ok (.ishr, 1) := by decide +kernel
theorem dL_lays_150 : decode cL_lays 150 = .ok (.sipush 255, 3) := by decide +kernel
theorem dL_lays_153 : decode cL_lays 153 = .ok (.iand, 1) := by decide +kernel
theorem dL_lays_154 : decode cL_lays 154 = .ok (.istore 8, 2) := by decide +kernel
theorem dL_lays_156 : decode cL_lays 156 = .ok (.aload_n 0, 1) := by decide +kernel
theorem dL_lays_157 : decode cL_lays 157 = .ok (.iload 5, 2) := by decide +kernel
theorem dL_lays_159 : decode cL_lays 159 = .ok (.iload 6, 2) := by decide +kernel
theorem dL_lays_161 : decode cL_lays 161 = .ok (.iload_n 3, 1) := by decide +kernel
theorem dL_lays_162 : decode cL_lays 162 = .ok (.iload 7, 2) := by decide +kernel
theorem dL_lays_164 : decode cL_lays 164 = .ok (.iload 8, 2) := by decide +kernel
theorem dL_lays_166 : decode cL_lays 166 = .ok (.aload_n 1, 1) := by decide +kernel
theorem dL_lays_167 : decode cL_lays 167 = .ok (.iconst 2, 1) := by decide +kernel
theorem dL_lays_168 : decode cL_lays 168 = .ok (.invokestatic 9, 3) := by decide +kernel
theorem dL_lays_171 : decode cL_lays 171 = .ok (.invokestatic 16, 3) := by decide +kernel
theorem dL_lays_174 : decode cL_lays 174 = .ok (.aload_n 1, 1) := by decide +kernel
theorem dL_lays_175 : decode cL_lays 175 = .ok (.iconst 3, 1) := by decide +kernel
theorem dL_lays_176 : decode cL_lays 176 = .ok (.invokestatic 9, 3) := by decide +kernel
theorem dL_lays_179 : decode cL_lays 179 = .ok (.iconst 0, 1) := by decide +kernel
theorem dL_lays_180 : decode cL_lays 180 = .ok (.invokestatic 20, 3) := by decide +kernel
theorem dL_lays_183 : decode cL_lays 183 = .ok (.aload_n 1, 1) := by decide +kernel
theorem dL_lays_184 : decode cL_lays 184 = .ok (.iconst 4, 1) := by decide +kernel
theorem dL_lays_185 : decode cL_lays 185 = .ok (.invokestatic 9, 3) := by decide +kernel
theorem dL_lays_188 : decode cL_lays 188 = .ok (.invokestatic 16, 3) := by decide +kernel
theorem dL_lays_191 : decode cL_lays 191 = .ok (.aload_n 1, 1) := by decide +kernel
theorem dL_lays_192 : decode cL_lays 192 = .ok (.iconst 5, 1) := by decide +kernel
theorem dL_lays_193 : decode cL_lays 193 = .ok (.invokestatic 9, 3) := by decide +kernel
theorem dL_lays_196 : decode cL_lays 196 = .ok (.iconst 1, 1) := by decide +kernel
theorem dL_lays_197 : decode cL_lays 197 = .ok (.invokestatic 20, 3) := by decide +kernel
theorem dL_lays_200 : decode cL_lays 200 = .ok (.invokevirtual 24, 3) := by decide +kernel
theorem dL_lays_203 : decode cL_lays 203 = .ok (.istore 9, 2) := by decide +kernel
theorem dL_lays_205 : decode cL_lays 205 = .ok (.iconst 0, 1) := by decide +kernel
theorem dL_lays_206 : decode cL_lays 206 = .ok (.istore 10, 2) := by decide +kernel
theorem dL_lays_208 : decode cL_lays 208 = .ok (.iload 10, 2) := by decide +kernel
theorem dL_lays_210 : decode cL_lays 210 = .ok (.iload_n 3, 1) := by decide +kernel
theorem dL_lays_211 : decode cL_lays 211 = .ok (.if_icmp .ge 172, 3) := by decide +kernel
theorem dL_lays_214 : decode cL_lays 214 = .ok (.aload_n 1, 1) := by decide +kernel
theorem dL_lays_215 : decode cL_lays 215 = .ok (.bipush 6, 2) := by decide +kernel
theorem dL_lays_217 : decode cL_lays 217 = .ok (.iload 10, 2) := by decide +kernel
theorem dL_lays_219 : decode cL_lays 219 = .ok (.bipush 40, 2) := by decide +kernel
theorem dL_lays_221 : decode cL_lays 221 = .ok (.irem, 1) := by decide +kernel
theorem dL_lays_222 : decode cL_lays 222 = .ok (.iadd, 1) := by decide +kernel
theorem dL_lays_223 : decode cL_lays 223 = .ok (.invokestatic 9, 3) := by decide +kernel
theorem dL_lays_226 : decode cL_lays 226 = .ok (.iload 10, 2) := by decide +kernel
theorem dL_lays_228 : decode cL_lays 228 = .ok (.bipush 23, 2) := by decide +kernel
theorem dL_lays_230 : decode cL_lays 230 = .ok (.irem, 1) := by decide +kernel
theorem dL_lays_231 : decode cL_lays 231 = .ok (.ishr, 1) := by decide +kernel
theorem dL_lays_232 : decode cL_lays 232 = .ok (.sipush 255, 3) := by decide +kernel
theorem dL_lays_235 : decode cL_lays 235 = .ok (.iand, 1) := by decide +kernel
theorem dL_lays_236 : decode cL_lays 236 = .ok (.istore 11, 2) := by decide +kernel
theorem dL_lays_238 : decode cL_lays 238 = .ok (.iload 7, 2) := by decide +kernel
theorem dL_lays_240 : decode cL_lays 240 = .ok (.bipush 17, 2) := by decide +kernel
theorem dL_lays_242 : decode cL_lays 242 = .ok (.if_icmp .ne 23, 3) := by decide +kernel
theorem dL_lays_245 : decode cL_lays 245 = .ok (.iload 4, 2) := by decide +kernel
theorem dL_lays_247 : decode cL_lays 247 = .ok (.iconst 2, 1) := by decide +kernel
theorem dL_lays_248 : decode cL_lays 248 = .ok (.irem, 1) := by decide +kernel
theorem dL_lays_249 : decode cL_lays 249 = .ok (.ifCond .ne 16, 3) := by decide +kernel
theorem dL_lays_252 : decode cL_lays 252 = .ok (.iload 10, 2) := by decide +kernel
theorem dL_lays_254 : decode cL_lays 254 = .ok (.iconst 4, 1) := by decide +kernel
theorem dL_lays_255 : decode cL_lays 255 = .ok (.if_icmp .ne 10, 3) := by decide +kernel
theorem dL_lays_258 : decode cL_lays 258 = .ok (.iload_n 3, 1) := by decide +kernel
theorem dL_lays_259 : decode cL_lays 259 = .ok (.bipush 8, 2) := by decide +kernel
theorem dL_lays_261 : decode cL_lays 261 = .ok (.ishr, 1) := by decide +kernel
theorem dL_lays_262 : decode cL_lays 262 = .ok (.goto 103, 3) := by decide +kernel
theorem dL_lays_265 : decode cL_lays 265 = .ok (.iload 7, 2) := by decide +kernel
theorem dL_lays_267 : decode cL_lays 267 = .ok (.bipush 17, 2) := by decide +kernel
theorem dL_lays_269 : decode cL_lays 269 = .ok (.if_icmp .ne 24, 3) := by decide +kernel
theorem dL_lays_272 : decode cL_lays 272 = .ok (.iload 4, 2) := by decide +kernel
theorem dL_lays_274 : decode cL_lays 274 = .ok (.iconst 2, 1) := by decide +kernel
theorem dL_lays_275 : decode cL_lays 275 = .ok (.irem, 1) := by decide +kernel
theorem dL_lays_276 : decode cL_lays 276 = .ok (.ifCond .ne 17, 3) := by decide +kernel
theorem dL_lays_279 : decode cL_lays 279 = .ok (.iload 10, 2) := by decide +kernel
theorem dL_lays_281 : decode cL_lays 281 = .ok (.iconst 5, 1) := by decide +kernel
theorem dL_lays_282 : decode cL_lays 282 = .ok (.if_icmp .ne 11, 3) := by decide +kernel
theorem dL_lays_285 : decode cL_lays 285 = .ok (.iload_n 3, 1) := by decide +kernel
theorem dL_lays_286 : decode cL_lays 286 = .ok (.sipush 255, 3) := by decide +kernel
theorem dL_lays_289 : decode cL_lays 289 = .ok (.iand, 1) := by decide +kernel
theorem dL_lays_290 : decode cL_lays 290 = .ok (.goto 75, 3) := by decide +kernel
theorem dL_lays_293 : decode cL_lays 293 = .ok (.iload 7, 2) := by decide +kernel
theorem dL_lays_295 : decode cL_lays 295 = .ok (.bipush 17, 2) := by decide +kernel
theorem dL_lays_297 : decode cL_lays 297 = .ok (.if_icmp .ne 32, 3) := by decide +kernel
theorem dL_lays_300 : decode cL_lays 300 = .ok (.iload 10, 2) := by decide +kernel
theorem dL_lays_302 : decode cL_lays 302 = .ok (.iconst 2, 1) := by decide +kernel
theorem dL_lays_303 : decode cL_lays 303 = .ok (.irem, 1) := by decide +kernel
theorem dL_lays_304 : decode cL_lays 304 = .ok (.ifCond .ne 25, 3) := by decide +kernel
theorem dL_lays_307 : decode cL_lays 307 = .ok (.iload 10, 2) := by decide +kernel
theorem dL_lays_309 : decode cL_lays 309 = .ok (.iconst 4, 1) := by decide +kernel
theorem dL_lays_310 : decode cL_lays 310 = .ok (.if_icmp .ge 19, 3) := by decide +kernel
theorem dL_lays_313 : decode cL_lays 313 = .ok (.iload 4, 2) := by decide +kernel
theorem dL_lays_315 : decode cL_lays 315 = .ok (.iload 10, 2) := by decide +kernel
theorem dL_lays_317 : decode cL_lays 317 = .ok (.ishr, 1) := by decide +kernel
theorem dL_lays_318 : decode cL_lays 318 = .ok (.iconst 2, 1) := by decide +kernel
theorem dL_lays_319 : decode cL_lays 319 = .ok (.iand, 1) := by decide +kernel
theorem dL_lays_320 : decode cL_lays 320 = .ok (.ifCond .le 9, 3) := by decide +kernel
theorem dL_lays_323 : decode cL_lays 323 = .ok (.sipush 240, 3) := by decide +kernel
theorem dL_lays_326 : decode cL_lays 326 = .ok (.goto 39, 3) := by decide +kernel
theorem dL_lays_329 : decode cL_lays 329 = .ok (.iload 7, 2) := by decide +kernel
theorem dL_lays_331 : decode cL_lays 331 = .ok (.bipush 17, 2) := by decide +kernel
theorem dL_lays_333 : decode cL_lays 333 = .ok (.if_icmp .ne 30, 3) := by decide +kernel
theorem dL_lays_336 : decode cL_lays 336 = .ok (.iload 10, 2) := by decide +kernel
theorem dL_lays_338 : decode cL_lays 338 = .ok (.iconst 4, 1) := by decide +kernel
theorem dL_lays_339 : decode cL_lays 339 = .ok (.if_icmp .ge 24, 3) := by decide +kernel
theorem dL_lays_342 : decode cL_lays 342 = .ok (.iload 4, 2) := by decide +kernel
theorem dL_lays_344 : decode cL_lays 344 = .ok (.iconst 5, 1) := by decide +kernel
theorem dL_lays_345 : decode cL_lays 345 = .ok (.ishr, 1) := by decide +kernel
theorem dL_lays_346 : decode cL_lays 346 = .ok (.iconst 1, 1) := by decide +kernel
theorem dL_lays_347 : decode cL_lays 347 = .ok (.iand, 1) := by decide +kernel
theorem dL_lays_348 : decode cL_lays 348 = .ok (.ifCond .le 15, 3) := by decide +kernel
theorem dL_lays_351 : decode cL_lays 351 = .ok (.sipush 176, 3) := by decide +kernel
theorem dL_lays_354 : decode cL_lays 354 = .ok (.iload 11, 2) := by decide +kernel
theorem dL_lays_356 : decode cL_lays 356 = .ok (.bipush 15, 2) := by decide +kernel
theorem dL_lays_358 : decode cL_lays 358 = .ok (.iand, 1) := by decide +kernel
theorem dL_lays_359 : decode cL_lays 359 = .ok (.ior, 1) := by decide +kernel
theorem dL_lays_360 : decode cL_lays 360 = .ok (.goto 5, 3) := by decide +kernel
theorem dL_lays_363 : decode cL_lays 363 = .ok (.iload 11, 2) := by decide +kernel
theorem dL_lays_365 : decode cL_lays 365 = .ok (.istore 11, 2) := by decide +kernel
theorem dL_lays_367 : decode cL_lays 367 = .ok (.aload_n 0, 1) := by decide +kernel
theorem dL_lays_368 : decode cL_lays 368 = .ok (.iload 11, 2) := by decide +kernel
theorem dL_lays_370 : decode cL_lays 370 = .ok (.i2l, 1) := by decide +kernel
theorem dL_lays_371 : decode cL_lays 371 = .ok (.iconst 1, 1) := by decide +kernel
theorem dL_lays_372 : decode cL_lays 372 = .ok (.invokevirtual 30, 3) := by decide +kernel
theorem dL_lays_375 : decode cL_lays 375 = .ok (.istore 12, 2) := by decide +kernel
theorem dL_lays_377 : decode cL_lays 377 = .ok (.iinc 10 1, 3) := by decide +kernel
theorem dL_lays_380 : decode cL_lays 380 = .ok (.goto (-172), 3) := by decide +kernel
theorem dL_lays_383 : decode cL_lays 383 = .ok (.iload 9, 2) := by decide +kernel
theorem dL_lays_385 : decode cL_lays 385 = .ok (.ifCond .ge 8, 3) := by decide +kernel
theorem dL_lays_388 : decode cL_lays 388 = .ok (.iload 9, 2) := by decide +kernel
theorem dL_lays_390 : decode cL_lays 390 = .ok (.goto 7, 3) := by decide +kernel
theorem dL_lays_393 : decode cL_lays 393 = .ok (.bipush 40, 2) := by decide +kernel
theorem dL_lays_395 : decode cL_lays 395 = .ok (.iload_n 3, 1) := by decide +kernel
theorem dL_lays_396 : decode cL_lays 396 = .ok (.iadd, 1) := by decide +kernel
theorem dL_lays_397 : decode cL_lays 397 = .ok (.ireturn, 1) := by decide +kernel
theorem dL_first_0 : decode cL_first 0 = .ok (.iload_n 0, 1) := by decide +kernel
theorem dL_first_1 : decode cL_first 1 = .ok (.bipush 6, 2) := by decide +kernel
theorem dL_first_3 : decode cL_first 3 = .ok (.irem, 1) := by decide +kernel
theorem dL_first_4 : decode cL_first 4 = .ok (.ifCond .ne 7, 3) := by decide +kernel
theorem dL_first_7 : decode cL_first 7 = .ok (.lconst 0, 1) := by decide +kernel
theorem dL_first_8 : decode cL_first 8 = .ok (.goto 60, 3) := by decide +kernel
theorem dL_first_11 : decode cL_first 11 = .ok (.iload_n 0, 1) := by decide +kernel
theorem dL_first_12 : decode cL_first 12 = .ok (.bipush 6, 2) := by decide +kernel
theorem dL_first_14 : decode cL_first 14 = .ok (.irem, 1) := by decide +kernel
theorem dL_first_15 : decode cL_first 15 = .ok (.iconst 3, 1) := by decide +kernel
theorem dL_first_16 : decode cL_first 16 = .ok (.if_icmp .ge 9, 3) := by decide +kernel
theorem dL_first_19 : decode cL_first 19 = .ok (.ldc2_w 34, 3) := by decide +kernel
theorem dL_first_22 : decode cL_first 22 = .ok (.goto 46, 3) := by decide +kernel
theorem dL_first_25 : decode cL_first 25 = .ok (.iload_n 0, 1) := by decide +kernel
theorem dL_first_26 : decode cL_first 26 = .ok (.bipush 6, 2) := by decide +kernel
theorem dL_first_28 : decode cL_first 28 = .ok (.irem, 1) := by decide +kernel
theorem dL_first_29 : decode cL_first 29 = .ok (.iconst 3, 1) := by decide +kernel
theorem dL_first_30 : decode cL_first 30 = .ok (.if_icmp .ne 16, 3) := by decide +kernel
theorem dL_first_33 : decode cL_first 33 = .ok (.ldc2_w 36, 3) := by decide +kernel
theorem dL_first_36 : decode cL_first 36 = .ok (.iload_n 0, 1) := by decide +kernel
theorem dL_first_37 : decode cL_first 37 = .ok (.iconst 4, 1) := by decide +kernel
theorem dL_first_38 : decode cL_first 38 = .ok (.ishr, 1) := by decide +kernel
theorem dL_first_39 : decode cL_first 39 = .ok (.iconst 3, 1) := by decide +kernel
theorem dL_first_40 : decode cL_first 40 = .ok (.iand, 1) := by decide +kernel
theorem dL_first_41 : decode cL_first 41 = .ok (.i2l, 1) := by decide +kernel
theorem dL_first_42 : decode cL_first 42 = .ok (.ladd, 1) := by decide +kernel
theorem dL_first_43 : decode cL_first 43 = .ok (.goto 25, 3) := by decide +kernel
theorem dL_first_46 : decode cL_first 46 = .ok (.iload_n 0, 1) := by decide +kernel
theorem dL_first_47 : decode cL_first 47 = .ok (.bipush 6, 2) := by decide +kernel
theorem dL_first_49 : decode cL_first 49 = .ok (.irem, 1) := by decide +kernel
theorem dL_first_50 : decode cL_first 50 = .ok (.iconst 4, 1) := by decide +kernel
theorem dL_first_51 : decode cL_first 51 = .ok (.if_icmp .ne 9, 3) := by decide +kernel
theorem dL_first_54 : decode cL_first 54 = .ok (.ldc2_w 38, 3) := by decide +kernel
theorem dL_first_57 : decode cL_first 57 = .ok (.goto 11, 3) := by decide +kernel
theorem dL_first_60 : decode cL_first 60 = .ok (.iload_n 0, 1) := by decide +kernel
theorem dL_first_61 : decode cL_first 61 = .ok (.i2l, 1) := by decide +kernel
theorem dL_first_62 : decode cL_first 62 = .ok (.bipush 32, 2) := by decide +kernel
theorem dL_first_64 : decode cL_first 64 = .ok (.lshl, 1) := by decide +kernel
theorem dL_first_65 : decode cL_first 65 = .ok (.iload_n 0, 1) := by decide +kernel
theorem dL_first_66 : decode cL_first 66 = .ok (.i2l, 1) := by decide +kernel
theorem dL_first_67 : decode cL_first 67 = .ok (.lxor, 1) := by decide +kernel
theorem dL_first_68 : decode cL_first 68 = .ok (.lreturn, 1) := by decide +kernel
theorem dL_second_0 : decode cL_second 0 = .ok (.iload_n 0, 1) := by decide +kernel
theorem dL_second_1 : decode cL_second 1 = .ok (.bipush 6, 2) := by decide +kernel
theorem dL_second_3 : decode cL_second 3 = .ok (.irem, 1) := by decide +kernel
theorem dL_second_4 : decode cL_second 4 = .ok (.ifCond .ne 7, 3) := by decide +kernel
theorem dL_second_7 : decode cL_second 7 = .ok (.lconst 0, 1) := by decide +kernel
theorem dL_second_8 : decode cL_second 8 = .ok (.goto 83, 3) := by decide +kernel
theorem dL_second_11 : decode cL_second 11 = .ok (.iload_n 0, 1) := by decide +kernel
theorem dL_second_12 : decode cL_second 12 = .ok (.bipush 6, 2) := by decide +kernel
theorem dL_second_14 : decode cL_second 14 = .ok (.irem, 1) := by decide +kernel
theorem dL_second_15 : decode cL_second 15 = .ok (.iconst 1, 1) := by decide +kernel
theorem dL_second_16 : decode cL_second 16 = .ok (.if_icmp .ne 12, 3) := by decide +kernel
theorem dL_second_19 : decode cL_second 19 = .ok (.ldc2_w 40, 3) := by decide +kernel
theorem dL_second_22 : decode cL_second 22 = .ok (.iload_n 1, 1) := by decide +kernel
theorem dL_second_23 : decode cL_second 23 = .ok (.i2l, 1) := by decide +kernel
theorem dL_second_24 : decode cL_second 24 = .ok (.ladd, 1) := by decide +kernel
theorem dL_second_25 : decode cL_second 25 = .ok (.goto 66, 3) := by decide +kernel
theorem dL_second_28 : decode cL_second 28 = .ok (.iload_n 0, 1) := by decide +kernel
theorem dL_second_29 : decode cL_second 29 = .ok (.bipush 6, 2) := by decide +kernel
theorem dL_second_31 : decode cL_second 31 = .ok (.irem, 1) := by decide +kernel
theorem dL_second_32 : decode cL_second 32 = .ok (.iconst 2, 1) := by decide +kernel
theorem dL_second_33 : decode cL_second 33 = .ok (.if_icmp .ne 17, 3) := by decide +kernel
theorem dL_second_36 : decode cL_second 36 = .ok (.ldc2_w 42, 3) := by decide +kernel
theorem dL_second_39 : decode cL_second 39 = .ok (.iload_n 0, 1) := by decide +kernel
theorem dL_second_40 : decode cL_second 40 = .ok (.iconst 3, 1) := by decide +kernel
theorem dL_second_41 : decode cL_second 41 = .ok (.ishr, 1) := by decide +kernel
theorem dL_second_42 : decode cL_second 42 = .ok (.ldc 44, 2) := by decide +kernel
theorem dL_second_44 : decode cL_second 44 = .ok (.iand, 1) := by decide +kernel
theorem dL_second_45 : decode cL_second 45 = .ok (.i2l, 1) := by decide +kernel
theorem dL_second_46 : decode cL_second 46 = .ok (.lor, 1) := by decide +kernel
theorem dL_second_47 : decode cL_second 47 = .ok (.goto 44, 3) := by decide +kernel
theorem dL_second_50 : decode cL_second 50 = .ok (.iload_n 0, 1) := by decide +kernel
theorem dL_second_51 : decode cL_second 51 = .ok (.bipush 6, 2) := by decide +kernel
theorem dL_second_53 : decode cL_second 53 = .ok (.irem, 1) := by decide +kernel
theorem dL_second_54 : decode cL_second 54 = .ok (.iconst 3, 1) := by decide +kernel
theorem dL_second_55 : decode cL_second 55 = .ok (.if_icmp .ne 9, 3) := by decide +kernel
theorem dL_second_58 : decode cL_second 58 = .ok (.ldc2_w 45, 3) := by decide +kernel
theorem dL_second_61 : decode cL_second 61 = .ok (.goto 30, 3) := by decide +kernel
theorem dL_second_64 : decode cL_second 64 = .ok (.iload_n 0, 1) := by decide +kernel
theorem dL_second_65 : decode cL_second 65 = .ok (.bipush 6, 2) := by decide +kernel
theorem dL_second_67 : decode cL_second 67 = .ok (.irem, 1) := by decide +kernel
theorem dL_second_68 : decode cL_second 68 = .ok (.iconst 4, 1) := by decide +kernel
theorem dL_second_69 : decode cL_second 69 = .ok (.if_icmp .ne 14, 3) := by decide +kernel
theorem dL_second_72 : decode cL_second 72 = .ok (.iload_n 0, 1) := by decide +kernel
theorem dL_second_73 : decode cL_second 73 = .ok (.iconst 5, 1) := by decide +kernel
theorem dL_second_74 : decode cL_second 74 = .ok (.ishr, 1) := by decide +kernel
theorem dL_second_75 : decode cL_second 75 = .ok (.sipush 255, 3) := by decide +kernel
theorem dL_second_78 : decode cL_second 78 = .ok (.iand, 1) := by decide +kernel
theorem dL_second_79 : decode cL_second 79 = .ok (.i2l, 1) := by decide +kernel
theorem dL_second_80 : decode cL_second 80 = .ok (.goto 11, 3) := by decide +kernel
theorem dL_second_83 : decode cL_second 83 = .ok (.iload_n 0, 1) := by decide +kernel
theorem dL_second_84 : decode cL_second 84 = .ok (.i2l, 1) := by decide +kernel
theorem dL_second_85 : decode cL_second 85 = .ok (.bipush 31, 2) := by decide +kernel
theorem dL_second_87 : decode cL_second 87 = .ok (.lshl, 1) := by decide +kernel
theorem dL_second_88 : decode cL_second 88 = .ok (.iload_n 0, 1) := by decide +kernel
theorem dL_second_89 : decode cL_second 89 = .ok (.i2l, 1) := by decide +kernel
theorem dL_second_90 : decode cL_second 90 = .ok (.lxor, 1) := by decide +kernel
theorem dL_second_91 : decode cL_second 91 = .ok (.lreturn, 1) := by decide +kernel
theorem dL_knows_0 : decode cL_knows 0 = .ok (.aload_n 0, 1) := by decide +kernel
theorem dL_knows_1 : decode cL_knows 1 = .ok (.iconst 0, 1) := by decide +kernel
theorem dL_knows_2 : decode cL_knows 2 = .ok (.iload_n 1, 1) := by decide +kernel
theorem dL_knows_3 : decode cL_knows 3 = .ok (.iconst 1, 1) := by decide +kernel
theorem dL_knows_4 : decode cL_knows 4 = .ok (.iand, 1) := by decide +kernel
theorem dL_knows_5 : decode cL_knows 5 = .ok (.ifCond .ne 7, 3) := by decide +kernel
theorem dL_knows_8 : decode cL_knows 8 = .ok (.iconst 1, 1) := by decide +kernel
theorem dL_knows_9 : decode cL_knows 9 = .ok (.goto 4, 3) := by decide +kernel
theorem dL_knows_12 : decode cL_knows 12 = .ok (.iconst 0, 1) := by decide +kernel
theorem dL_knows_13 : decode cL_knows 13 = .ok (.iload_n 1, 1) := by decide +kernel
theorem dL_knows_14 : decode cL_knows 14 = .ok (.iconst 1, 1) := by decide +kernel
theorem dL_knows_15 : decode cL_knows 15 = .ok (.iand, 1) := by decide +kernel
theorem dL_knows_16 : decode cL_knows 16 = .ok (.ifCond .ne 9, 3) := by decide +kernel
theorem dL_knows_19 : decode cL_knows 19 = .ok (.ldc2_w 47, 3) := by decide +kernel
theorem dL_knows_22 : decode cL_knows 22 = .ok (.goto 6, 3) := by decide +kernel
theorem dL_knows_25 : decode cL_knows 25 = .ok (.ldc2_w 49, 3) := by decide +kernel
theorem dL_knows_28 : decode cL_knows 28 = .ok (.invokevirtual 51, 3) := by decide +kernel
theorem dL_knows_31 : decode cL_knows 31 = .ok (.iconst 1, 1) := by decide +kernel
theorem dL_knows_32 : decode cL_knows 32 = .ok (.if_icmp .ne 42, 3) := by decide +kernel
theorem dL_knows_35 : decode cL_knows 35 = .ok (.aload_n 0, 1) := by decide +kernel
theorem dL_knows_36 : decode cL_knows 36 = .ok (.iconst 1, 1) := by decide +kernel
theorem dL_knows_37 : decode cL_knows 37 = .ok (.iload_n 1, 1) := by decide +kernel
theorem dL_knows_38 : decode cL_knows 38 = .ok (.iconst 2, 1) := by decide +kernel
theorem dL_knows_39 : decode cL_knows 39 = .ok (.iand, 1) := by decide +kernel
theorem dL_knows_40 : decode cL_knows 40 = .ok (.ifCond .ne 7, 3) := by decide +kernel
theorem dL_knows_43 : decode cL_knows 43 = .ok (.iconst 1, 1) := by decide +kernel
theorem dL_knows_44 : decode cL_knows 44 = .ok (.goto 4, 3) := by decide +kernel
theorem dL_knows_47 : decode cL_knows 47 = .ok (.iconst 0, 1) := by decide +kernel
theorem dL_knows_48 : decode cL_knows 48 = .ok (.iload_n 1, 1) := by decide +kernel
theorem dL_knows_49 : decode cL_knows 49 = .ok (.iconst 2, 1) := by decide +kernel
theorem dL_knows_50 : decode cL_knows 50 = .ok (.iand, 1) := by decide +kernel
theorem dL_knows_51 : decode cL_knows 51 = .ok (.ifCond .ne 9, 3) := by decide +kernel
theorem dL_knows_54 : decode cL_knows 54 = .ok (.ldc2_w 47, 3) := by decide +kernel
theorem dL_knows_57 : decode cL_knows 57 = .ok (.goto 6, 3) := by decide +kernel
theorem dL_knows_60 : decode cL_knows 60 = .ok (.ldc2_w 55, 3) := by decide +kernel
theorem dL_knows_63 : decode cL_knows 63 = .ok (.invokevirtual 51, 3) := by decide +kernel
theorem dL_knows_66 : decode cL_knows 66 = .ok (.iconst 1, 1) := by decide +kernel
theorem dL_knows_67 : decode cL_knows 67 = .ok (.if_icmp .ne 7, 3) := by decide +kernel
theorem dL_knows_70 : decode cL_knows 70 = .ok (.iconst 1, 1) := by decide +kernel
theorem dL_knows_71 : decode cL_knows 71 = .ok (.goto 4, 3) := by decide +kernel
theorem dL_knows_74 : decode cL_knows 74 = .ok (.iconst 0, 1) := by decide +kernel
theorem dL_knows_75 : decode cL_knows 75 = .ok (.istore_n 2, 1) := by decide +kernel
theorem dL_knows_76 : decode cL_knows 76 = .ok (.iconst 0, 1) := by decide +kernel
theorem dL_knows_77 : decode cL_knows 77 = .ok (.istore_n 3, 1) := by decide +kernel
theorem dL_knows_78 : decode cL_knows 78 = .ok (.iload_n 3, 1) := by decide +kernel
theorem dL_knows_79 : decode cL_knows 79 = .ok (.iconst 4, 1) := by decide +kernel
theorem dL_knows_80 : decode cL_knows 80 = .ok (.if_icmp .ge 46, 3) := by decide +kernel
theorem dL_knows_83 : decode cL_knows 83 = .ok (.iload_n 2, 1) := by decide +kernel
theorem dL_knows_84 : decode cL_knows 84 = .ok (.ifCond .eq 34, 3) := by decide +kernel
theorem dL_knows_87 : decode cL_knows 87 = .ok (.iload_n 1, 1) := by decide +kernel
theorem dL_knows_88 : decode cL_knows 88 = .ok (.iconst 2, 1) := by decide +kernel
theorem dL_knows_89 : decode cL_knows 89 = .ok (.iload_n 3, 1) := by decide +kernel
theorem dL_knows_90 : decode cL_knows 90 = .ok (.iadd, 1) := by decide +kernel
theorem dL_knows_91 : decode cL_knows 91 = .ok (.ishr, 1) := by decide +kernel
theorem dL_knows_92 : decode cL_knows 92 = .ok (.iconst 1, 1) := by decide +kernel
theorem dL_knows_93 : decode cL_knows 93 = .ok (.iand, 1) := by decide +kernel
theorem dL_knows_94 : decode cL_knows 94 = .ok (.ifCond .eq 20, 3) := by decide +kernel
theorem dL_knows_97 : decode cL_knows 97 = .ok (.aload_n 0, 1) := by decide +kernel
theorem dL_knows_98 : decode cL_knows 98 = .ok (.iconst 5, 1) := by decide +kernel
theorem dL_knows_99 : decode cL_knows 99 = .ok (.iload_n 3, 1) := by decide +kernel
theorem dL_knows_100 : decode cL_knows 100 = .ok (.imul, 1) := by decide +kernel
theorem dL_knows_101 : decode cL_knows 101 = .ok (.iconst 1, 1) := by decide +kernel
theorem dL_knows_102 : decode cL_knows 102 = .ok (.ldc2_w 36, 3) := by decide +kernel
theorem dL_knows_105 : decode cL_knows 105 = .ok (.iload_n 3, 1) := by decide +kernel
theorem dL_knows_106 : decode cL_knows 106 = .ok (.i2l, 1) := by decide +kernel
theorem dL_knows_107 : decode cL_knows 107 = .ok (.ladd, 1) := by decide +kernel
theorem dL_knows_108 : decode cL_knows 108 = .ok (.invokevirtual 57, 3) := by decide +kernel
theorem dL_knows_111 : decode cL_knows 111 = .ok (.ifCond .ne 7, 3) := by decide +kernel
theorem dL_knows_114 : decode cL_knows 114 = .ok (.iconst 1, 1) := by decide +kernel
theorem dL_knows_115 : decode cL_knows 115 = .ok (.goto 4, 3) := by decide +kernel
theorem dL_knows_118 : decode cL_knows 118 = .ok (.iconst 0, 1) := by decide +kernel
theorem dL_knows_119 : decode cL_knows 119 = .ok (.istore_n 2, 1) := by decide +kernel
theorem dL_knows_120 : decode cL_knows 120 = .ok (.iinc 3 1, 3) := by decide +kernel
theorem dL_knows_123 : decode cL_knows 123 = .ok (.goto (-45), 3) := by decide +kernel
theorem dL_knows_126 : decode cL_knows 126 = .ok (.iload_n 2, 1) := by decide +kernel
theorem dL_knows_127 : decode cL_knows 127 = .ok (.ifCond .eq 26, 3) := by decide +kernel
theorem dL_knows_130 : decode cL_knows 130 = .ok (.iload_n 1, 1) := by decide +kernel
theorem dL_knows_131 : decode cL_knows 131 = .ok (.bipush 7, 2) := by decide +kernel
theorem dL_knows_133 : decode cL_knows 133 = .ok (.ishr, 1) := by decide +kernel
theorem dL_knows_134 : decode cL_knows 134 = .ok (.iconst 1, 1) := by decide +kernel
theorem dL_knows_135 : decode cL_knows 135 = .ok (.iand, 1) := by decide +kernel
theorem dL_knows_136 : decode cL_knows 136 = .ok (.ifCond .eq 13, 3) := by decide +kernel
theorem dL_knows_139 : decode cL_knows 139 = .ok (.aload_n 0, 1) := by decide +kernel
theorem dL_knows_140 : decode cL_knows 140 = .ok (.iconst 3, 1) := by decide +kernel
theorem dL_knows_141 : decode cL_knows 141 = .ok (.iconst 1, 1) := by decide +kernel
theorem dL_knows_142 : decode cL_knows 142 = .ok (.lconst 0, 1) := by decide +kernel
theorem dL_knows_143 : decode cL_knows 143 = .ok (.invokevirtual 57, 3) := by decide +kernel
theorem dL_knows_146 : decode cL_knows 146 = .ok (.ifCond .ne 7, 3) := by decide +kernel
theorem dL_knows_149 : decode cL_knows 149 = .ok (.iconst 1, 1) := by decide +kernel
theorem dL_knows_150 : decode cL_knows 150 = .ok (.goto 4, 3) := by decide +kernel
theorem dL_knows_153 : decode cL_knows 153 = .ok (.iconst 0, 1) := by decide +kernel
theorem dL_knows_154 : decode cL_knows 154 = .ok (.ireturn, 1) := by decide +kernel
theorem dL_law_0 : decode cL_law 0 = .ok (.new 25, 3) := by decide +kernel
theorem dL_law_3 : decode cL_law 3 = .ok (.dup, 1) := by decide +kernel
theorem dL_law_4 : decode cL_law 4 = .ok (.invokespecial 60, 3) := by decide +kernel
theorem dL_law_7 : decode cL_law 7 = .ok (.astore_n 1, 1) := by decide +kernel
theorem dL_law_8 : decode cL_law 8 = .ok (.new 25, 3) := by decide +kernel
theorem dL_law_11 : decode cL_law 11 = .ok (.dup, 1) := by decide +kernel
theorem dL_law_12 : decode cL_law 12 = .ok (.invokespecial 60, 3) := by decide +kernel
theorem dL_law_15 : decode cL_law 15 = .ok (.astore_n 2, 1) := by decide +kernel
theorem dL_law_16 : decode cL_law 16 = .ok (.aload_n 1, 1) := by decide +kernel
theorem dL_law_17 : decode cL_law 17 = .ok (.aload_n 0, 1) := by decide +kernel
theorem dL_law_18 : decode cL_law 18 = .ok (.bipush 50, 2) := by decide +kernel
theorem dL_law_20 : decode cL_law 20 = .ok (.invokestatic 9, 3) := by decide +kernel
theorem dL_law_23 : decode cL_law 23 = .ok (.invokestatic 61, 3) := by decide +kernel
theorem dL_law_26 : decode cL_law 26 = .ok (.ifCond .eq 20, 3) := by decide +kernel
theorem dL_law_29 : decode cL_law 29 = .ok (.aload_n 2, 1) := by decide +kernel
theorem dL_law_30 : decode cL_law 30 = .ok (.aload_n 0, 1) := by decide +kernel
theorem dL_law_31 : decode cL_law 31 = .ok (.bipush 50, 2) := by decide +kernel
theorem dL_law_33 : decode cL_law 33 = .ok (.invokestatic 9, 3) := by decide +kernel
theorem dL_law_36 : decode cL_law 36 = .ok (.invokestatic 61, 3) := by decide +kernel
theorem dL_law_39 : decode cL_law 39 = .ok (.ifCond .eq 7, 3) := by decide +kernel
theorem dL_law_42 : decode cL_law 42 = .ok (.iconst 1, 1) := by decide +kernel
theorem dL_law_43 : decode cL_law 43 = .ok (.goto 4, 3) := by decide +kernel
theorem dL_law_46 : decode cL_law 46 = .ok (.iconst 0, 1) := by decide +kernel
theorem dL_law_47 : decode cL_law 47 = .ok (.istore_n 3, 1) := by decide +kernel
theorem dL_law_48 : decode cL_law 48 = .ok (.aload_n 1, 1) := by decide +kernel
theorem dL_law_49 : decode cL_law 49 = .ok (.aload_n 0, 1) := by decide +kernel
theorem dL_law_50 : decode cL_law 50 = .ok (.sipush 160, 3) := by decide +kernel
theorem dL_law_53 : decode cL_law 53 = .ok (.invokestatic 65, 3) := by decide +kernel
theorem dL_law_56 : decode cL_law 56 = .ok (.istore 4, 2) := by decide +kernel
theorem dL_law_58 : decode cL_law 58 = .ok (.iload_n 3, 1) := by decide +kernel
theorem dL_law_59 : decode cL_law 59 = .ok (.ifCond .eq 20, 3) := by decide +kernel
theorem dL_law_62 : decode cL_law 62 = .ok (.aload_n 2, 1) := by decide +kernel
theorem dL_law_63 : decode cL_law 63 = .ok (.aload_n 0, 1) := by decide +kernel
theorem dL_law_64 : decode cL_law 64 = .ok (.sipush 160, 3) := by decide +kernel
theorem dL_law_67 : decode cL_law 67 = .ok (.invokestatic 65, 3) := by decide +kernel
theorem dL_law_70 : decode cL_law 70 = .ok (.iload 4, 2) := by decide +kernel
theorem dL_law_72 : decode cL_law 72 = .ok (.if_icmp .ne 7, 3) := by decide +kernel
theorem dL_law_75 : decode cL_law 75 = .ok (.iconst 1, 1) := by decide +kernel
theorem dL_law_76 : decode cL_law 76 = .ok (.goto 4, 3) := by decide +kernel
theorem dL_law_79 : decode cL_law 79 = .ok (.iconst 0, 1) := by decide +kernel
theorem dL_law_80 : decode cL_law 80 = .ok (.istore_n 3, 1) := by decide +kernel
theorem dL_law_81 : decode cL_law 81 = .ok (.bipush 56, 2) := by decide +kernel
theorem dL_law_83 : decode cL_law 83 = .ok (.aload_n 0, 1) := by decide +kernel
theorem dL_law_84 : decode cL_law 84 = .ok (.bipush 51, 2) := by decide +kernel
theorem dL_law_86 : decode cL_law 86 = .ok (.invokestatic 9, 3) := by decide +kernel
theorem dL_law_89 : decode cL_law 89 = .ok (.bipush 65, 2) := by decide +kernel
theorem dL_law_91 : decode cL_law 91 = .ok (.irem, 1) := by decide +kernel
theorem dL_law_92 : decode cL_law 92 = .ok (.iadd, 1) := by decide +kernel
theorem dL_law_93 : decode cL_law 93 = .ok (.istore 5, 2) := by decide +kernel
theorem dL_law_95 : decode cL_law 95 = .ok (.aload_n 1, 1) := by decide +kernel
theorem dL_law_96 : decode cL_law 96 = .ok (.iload 5, 2) := by decide +kernel
theorem dL_law_98 : decode cL_law 98 = .ok (.bipush 7, 2) := by decide +kernel
theorem dL_law_100 : decode cL_law 100 = .ok (.invokevirtual 69, 3) := by decide +kernel
theorem dL_law_103 : decode cL_law 103 = .ok (.istore 6, 2) := by decide +kernel
theorem dL_law_105 : decode cL_law 105 = .ok (.iload_n 3, 1) := by decide +kernel
theorem dL_law_106 : decode cL_law 106 = .ok (.ifCond .eq 25, 3) := by decide +kernel
theorem dL_law_109 : decode cL_law 109 = .ok (.iload 6, 2) := by decide +kernel
theorem dL_law_111 : decode cL_law 111 = .ok (.ifCond .le 20, 3) := by decide +kernel
theorem dL_law_114 : decode cL_law 114 = .ok (.aload_n 2, 1) := by decide +kernel
theorem dL_law_115 : decode cL_law 115 = .ok (.iload 5, 2) := by decide +kernel
theorem dL_law_117 : decode cL_law 117 = .ok (.bipush 7, 2) := by decide +kernel
theorem dL_law_119 : decode cL_law 119 = .ok (.invokevirtual 69, 3) := by decide +kernel
theorem dL_law_122 : decode cL_law 122 = .ok (.iload 6, 2) := by decide +kernel
theorem dL_law_124 : decode cL_law 124 = .ok (.if_icmp .ne 7, 3) := by decide +kernel
theorem dL_law_127 : decode cL_law 127 = .ok (.iconst 1, 1) := by decide +kernel
theorem dL_law_128 : decode cL_law 128 = .ok (.goto 4, 3) := by decide +kernel
theorem dL_law_131 : decode cL_law 131 = .ok (.iconst 0, 1) := by decide +kernel
theorem dL_law_132 : decode cL_law 132 = .ok (.istore_n 3, 1) := by decide +kernel
theorem dL_law_133 : decode cL_law 133 = .ok (.iconst 0, 1) := by decide +kernel
theorem dL_law_134 : decode cL_law 134 = .ok (.istore 7, 2) := by decide +kernel
theorem dL_law_136 : decode cL_law 136 = .ok (.iload 7, 2) := by decide +kernel
theorem dL_law_138 : decode cL_law 138 = .ok (.iload 6, 2) := by decide +kernel
theorem dL_law_140 : decode cL_law 140 = .ok (.if_icmp .ge 42, 3) := by decide +kernel
theorem dL_law_143 : decode cL_law 143 = .ok (.iload_n 3, 1) := by decide +kernel
theorem dL_law_144 : decode cL_law 144 = .ok (.ifCond .eq 30, 3) := by decide +kernel
theorem dL_law_147 : decode cL_law 147 = .ok (.aload_n 1, 1) := by decide +kernel
theorem dL_law_148 : decode cL_law 148 = .ok (.iload 7, 2) := by decide +kernel
theorem dL_law_150 : decode cL_law 150 = .ok (.invokevirtual 73, 3) := by decide +kernel
theorem dL_law_153 : decode cL_law 153 = .ok (.iload 7, 2) := by decide +kernel
theorem dL_law_155 : decode cL_law 155 = .ok (.iconst 1, 1) := by decide +kernel
theorem dL_law_156 : decode cL_law 156 = .ok (.iadd, 1) := by decide +kernel
theorem dL_law_157 : decode cL_law 157 = .ok (.iload 6, 2) := by decide +kernel
theorem dL_law_159 : decode cL_law 159 = .ok (.if_icmp .ne 7, 3) := by decide +kernel
theorem dL_law_162 : decode cL_law 162 = .ok (.iconst 2, 1) := by decide +kernel
theorem dL_law_163 : decode cL_law 163 = .ok (.goto 4, 3) := by decide +kernel
theorem dL_law_166 : decode cL_law 166 = .ok (.iconst 1, 1) := by decide +kernel
theorem dL_law_167 : decode cL_law 167 = .ok (.if_icmp .ne 7, 3) := by decide +kernel
theorem dL_law_170 : decode cL_law 170 = .ok (.iconst 1, 1) := by decide +kernel
theorem dL_law_171 : decode cL_law 171 = .ok (.goto 4, 3) := by decide +kernel
theorem dL_law_174 : decode cL_law 174 = .ok (.iconst 0, 1) := by decide +kernel
theorem dL_law_175 : decode cL_law 175 = .ok (.istore_n 3, 1) := by decide +kernel
theorem dL_law_176 : decode cL_law 176 = .ok (.iinc 7 1, 3) := by decide +kernel
theorem dL_law_179 : decode cL_law 179 = .ok (.goto (-43), 3) := by decide +kernel
theorem dL_law_182 : decode cL_law 182 = .ok (.iload 6, 2) := by decide +kernel
theorem dL_law_184 : decode cL_law 184 = .ok (.bipush 40, 2) := by decide +kernel
theorem dL_law_186 : decode cL_law 186 = .ok (.if_icmp .ge 13, 3) := by decide +kernel
theorem dL_law_189 : decode cL_law 189 = .ok (.iload 6, 2) := by decide +kernel
theorem dL_law_191 : decode cL_law 191 = .ok (.iconst 1, 1) := by decide +kernel
theorem dL_law_192 : decode cL_law 192 = .ok (.if_icmp .le 7, 3) := by decide +kernel
theorem dL_law_195 : decode cL_law 195 = .ok (.iconst 1, 1) := by decide +kernel
theorem dL_law_196 : decode cL_law 196 = .ok (.goto 4, 3) := by decide +kernel
theorem dL_law_199 : decode cL_law 199 = .ok (.iconst 0, 1) := by decide +kernel
theorem dL_law_200 : decode cL_law 200 = .ok (.istore 7, 2) := by decide +kernel
theorem dL_law_202 : decode cL_law 202 = .ok (.iload_n 3, 1) := by decide +kernel
theorem dL_law_203 : decode cL_law 203 = .ok (.ifCond .eq 71, 3) := by decide +kernel
theorem dL_law_206 : decode cL_law 206 = .ok (.iload 7, 2) := by decide +kernel
theorem dL_law_208 : decode cL_law 208 = .ok (.ifCond .eq 62, 3) := by decide +kernel
theorem dL_law_211 : decode cL_law 211 = .ok (.aload_n 2, 1) := by decide +kernel
theorem dL_law_212 : decode cL_law 212 = .ok (.iconst 0, 1) := by decide +kernel
theorem dL_law_213 : decode cL_law 213 = .ok (.invokevirtual 77, 3) := by decide +kernel
theorem dL_law_216 : decode cL_law 216 = .ok (.ifCond .lt 58, 3) := by decide +kernel
theorem dL_law_219 : decode cL_law 219 = .ok (.aload_n 2, 1) := by decide +kernel
theorem dL_law_220 : decode cL_law 220 = .ok (.ldc2_w 80, 3) := by decide +kernel
theorem dL_law_223 : decode cL_law 223 = .ok (.iconst 4, 1) := by decide +kernel
theorem dL_law_224 : decode cL_law 224 = .ok (.invokevirtual 30, 3) := by decide +kernel
theorem dL_law_227 : decode cL_law 227 = .ok (.iconst 4, 1) := by decide +kernel
theorem dL_law_228 : decode cL_law 228 = .ok (.if_icmp .ne 46, 3) := by decide +kernel
theorem dL_law_231 : decode cL_law 231 = .ok (.aload_n 2, 1) := by decide +kernel
theorem dL_law_232 : decode cL_law 232 = .ok (.ldc2_w 82, 3) := by decide +kernel
theorem dL_law_235 : decode cL_law 235 = .ok (.iconst 5, 1) := by decide +kernel
theorem dL_law_236 : decode cL_law 236 = .ok (.invokevirtual 30, 3) := by decide +kernel
theorem dL_law_239 : decode cL_law 239 = .ok (.bipush 9, 2) := by decide +kernel
theorem dL_law_241 : decode cL_law 241 = .ok (.if_icmp .ne 33, 3) := by decide +kernel
theorem dL_law_244 : decode cL_law 244 = .ok (.aload_n 2, 1) := by decide +kernel
theorem dL_law_245 : decode cL_law 245 = .ok (.ldc2_w 84, 3) := by decide +kernel
theorem dL_law_248 : decode cL_law 248 = .ok (.iconst 4, 1) := by decide +kernel
theorem dL_law_249 : decode cL_law 249 = .ok (.invokevirtual 30, 3) := by decide +kernel
theorem dL_law_252 : decode cL_law 252 = .ok (.bipush 13, 2) := by decide +kernel
theorem dL_law_254 : decode cL_law 254 = .ok (.if_icmp .ne 20, 3) := by decide +kernel
theorem dL_law_257 : decode cL_law 257 = .ok (.aload_n 2, 1) := by decide +kernel
theorem dL_law_258 : decode cL_law 258 = .ok (.iload 6, 2) := by decide +kernel
theorem dL_law_260 : decode cL_law 260 = .ok (.invokevirtual 86, 3) := by decide +kernel
theorem dL_law_263 : decode cL_law 263 = .ok (.iload 6, 2) := by decide +kernel
theorem dL_law_265 : decode cL_law 265 = .ok (.iconst 1, 1) := by decide +kernel
theorem dL_law_266 : decode cL_law 266 = .ok (.iadd, 1) := by decide +kernel
theorem dL_law_267 : decode cL_law 267 = .ok (.if_icmp .ne 7, 3) := by decide +kernel
theorem dL_law_270 : decode cL_law 270 = .ok (.iconst 1, 1) := by decide +kernel
theorem dL_law_271 : decode cL_law 271 = .ok (.goto 4, 3) := by decide +kernel
theorem dL_law_274 : decode cL_law 274 = .ok (.iconst 0, 1) := by decide +kernel
theorem dL_law_275 : decode cL_law 275 = .ok (.istore_n 3, 1) := by decide +kernel
theorem dL_law_276 : decode cL_law 276 = .ok (.bipush 64, 2) := by decide +kernel
theorem dL_law_278 : decode cL_law 278 = .ok (.newarray .int, 2) := by decide +kernel
theorem dL_law_280 : decode cL_law 280 = .ok (.astore 8, 2) := by decide +kernel
theorem dL_law_282 : decode cL_law 282 = .ok (.iload 6, 2) := by decide +kernel
theorem dL_law_284 : decode cL_law 284 = .ok (.istore 9, 2) := by decide +kernel
theorem dL_law_286 : decode cL_law 286 = .ok (.iconst 0, 1) := by decide +kernel
theorem dL_law_287 : decode cL_law 287 = .ok (.istore 10, 2) := by decide +kernel
theorem dL_law_289 : decode cL_law 289 = .ok (.iload 10, 2) := by decide +kernel
theorem dL_law_291 : decode cL_law 291 = .ok (.sipush 200, 3) := by decide +kernel
theorem dL_law_294 : decode cL_law 294 = .ok (.if_icmp .ge 170, 3) := by decide +kernel
theorem dL_law_297 : decode cL_law 297 = .ok (.iload 9, 2) := by decide +kernel
theorem dL_law_299 : decode cL_law 299 = .ok (.ifCond .le 165, 3) := by decide +kernel
theorem dL_law_302 : decode cL_law 302 = .ok (.iload_n 3, 1) := by decide +kernel
theorem dL_law_303 : decode cL_law 303 = .ok (.ifCond .eq 161, 3) := by decide +kernel
theorem dL_law_306 : decode cL_law 306 = .ok (.aload_n 0, 1) := by decide +kernel
theorem dL_law_307 : decode cL_law 307 = .ok (.bipush 52, 2) := by decide +kernel
theorem dL_law_309 : decode cL_law 309 = .ok (.iload 10, 2) := by decide +kernel
theorem dL_law_311 : decode cL_law 311 = .ok (.bipush 20, 2) := by decide +kernel
theorem dL_law_313 : decode cL_law 313 = .ok (.irem, 1) := by decide +kernel
theorem dL_law_314 : decode cL_law 314 = .ok (.iadd, 1) := by decide +kernel
theorem dL_law_315 : decode cL_law 315 = .ok (.invokestatic 9, 3) := by decide +kernel
theorem dL_law_318 : decode cL_law 318 = .ok (.bipush 97, 2) := by decide +kernel
theorem dL_law_320 : decode cL_law 320 = .ok (.irem, 1) := by decide +kernel
theorem dL_law_321 : decode cL_law 321 = .ok (.iload 10, 2) := by decide +kernel
theorem dL_law_323 : decode cL_law 323 = .ok (.iconst 1, 1) := by decide +kernel
theorem dL_law_324 : decode cL_law 324 = .ok (.iadd, 1) := by decide +kernel
theorem dL_law_325 : decode cL_law 325 = .ok (.imul, 1) := by decide +kernel
theorem dL_law_326 : decode cL_law 326 = .ok (.iload 6, 2) := by decide +kernel
theorem dL_law_328 : decode cL_law 328 = .ok (.irem, 1) := by decide +kernel
theorem dL_law_329 : decode cL_law 329 = .ok (.istore 11, 2) := by decide +kernel
theorem dL_law_331 : decode cL_law 331 = .ok (.iload 10, 2) := by decide +kernel
theorem dL_law_333 : decode cL_law 333 = .ok (.sipush 150, 3) := by decide +kernel
theorem dL_law_336 : decode cL_law 336 = .ok (.if_icmp .le 11, 3) := by decide +kernel
theorem dL_law_339 : decode cL_law 339 = .ok (.iload 10, 2) := by decide +kernel
theorem dL_law_341 : decode cL_law 341 = .ok (.iload 6, 2) := by decide +kernel
theorem dL_law_343 : decode cL_law 343 = .ok (.irem, 1) := by decide +kernel
theorem dL_law_344 : decode cL_law 344 = .ok (.goto 5, 3) := by decide +kernel
theorem dL_law_347 : decode cL_law 347 = .ok (.iload 11, 2) := by decide +kernel
theorem dL_law_349 : decode cL_law 349 = .ok (.istore 11, 2) := by decide +kernel
theorem dL_law_351 : decode cL_law 351 = .ok (.iload 7, 2) := by decide +kernel
theorem dL_law_353 : decode cL_law 353 = .ok (.ifCond .eq 41, 3) := by decide +kernel
theorem dL_law_356 : decode cL_law 356 = .ok (.iload 10, 2) := by decide +kernel
theorem dL_law_358 : decode cL_law 358 = .ok (.iconst 5, 1) := by decide +kernel
theorem dL_law_359 : decode cL_law 359 = .ok (.irem, 1) := by decide +kernel
theorem dL_law_360 : decode cL_law 360 = .ok (.iconst 3, 1) := by decide +kernel
theorem dL_law_361 : decode cL_law 361 = .ok (.if_icmp .ne 33, 3) := by decide +kernel
theorem dL_law_364 : decode cL_law 364 = .ok (.aload_n 2, 1) := by decide +kernel
theorem dL_law_365 : decode cL_law 365 = .ok (.iload 6, 2) := by decide +kernel
theorem dL_law_367 : decode cL_law 367 = .ok (.invokevirtual 73, 3) := by decide +kernel
theorem dL_law_370 : decode cL_law 370 = .ok (.istore 12, 2) := by decide +kernel
theorem dL_law_372 : decode cL_law 372 = .ok (.iload 12, 2) := by decide +kernel
theorem dL_law_374 : decode cL_law 374 = .ok (.iload 10, 2) := by decide +kernel
theorem dL_law_376 : decode cL_law 376 = .ok (.iconst 3, 1) := by decide +kernel
theorem dL_law_377 : decode cL_law 377 = .ok (.if_icmp .ne 7, 3) := by decide +kernel
theorem dL_law_380 : decode cL_law 380 = .ok (.iconst 1, 1) := by decide +kernel
theorem dL_law_381 : decode cL_law 381 = .ok (.goto 4, 3) := by decide +kernel
theorem dL_law_384 : decode cL_law 384 = .ok (.iconst 0, 1) := by decide +kernel
theorem dL_law_385 : decode cL_law 385 = .ok (.if_icmp .ne 7, 3) := by decide +kernel
theorem dL_law_388 : decode cL_law 388 = .ok (.iconst 1, 1) := by decide +kernel
theorem dL_law_389 : decode cL_law 389 = .ok (.goto 4, 3) := by decide +kernel
theorem dL_law_392 : decode cL_law 392 = .ok (.iconst 0, 1) := by decide +kernel
theorem dL_law_393 : decode cL_law 393 = .ok (.istore_n 3, 1) := by decide +kernel
theorem dL_law_394 : decode cL_law 394 = .ok (.aload_n 2, 1) := by decide +kernel
theorem dL_law_395 : decode cL_law 395 = .ok (.iload 11, 2) := by decide +kernel
theorem dL_law_397 : decode cL_law 397 = .ok (.invokevirtual 73, 3) := by decide +kernel
theorem dL_law_400 : decode cL_law 400 = .ok (.istore 12, 2) := by decide +kernel
theorem dL_law_402 : decode cL_law 402 = .ok (.iload 9, 2) := by decide +kernel
theorem dL_law_404 : decode cL_law 404 = .ok (.iconst 1, 1) := by decide +kernel
theorem dL_law_405 : decode cL_law 405 = .ok (.aload 8, 2) := by decide +kernel
theorem dL_law_407 : decode cL_law 407 = .ok (.iload 11, 2) := by decide +kernel
theorem dL_law_409 : decode cL_law 409 = .ok (.iaload, 1) := by decide +kernel
theorem dL_law_410 : decode cL_law 410 = .ok (.isub, 1) := by decide +kernel
theorem dL_law_411 : decode cL_law 411 = .ok (.isub, 1) := by decide +kernel
theorem dL_law_412 : decode cL_law 412 = .ok (.istore 9, 2) := by decide +kernel
theorem dL_law_414 : decode cL_law 414 = .ok (.iload_n 3, 1) := by decide +kernel
theorem dL_law_415 : decode cL_law 415 = .ok (.ifCond .eq 35, 3) := by decide +kernel
theorem dL_law_418 : decode cL_law 418 = .ok (.iload 12, 2) := by decide +kernel
theorem dL_law_420 : decode cL_law 420 = .ok (.iload 9, 2) := by decide +kernel
theorem dL_law_422 : decode cL_law 422 = .ok (.ifCond .ne 7, 3) := by decide +kernel
theorem dL_law_425 : decode cL_law 425 = .ok (.iconst 2, 1) := by decide +kernel
theorem dL_law_426 : decode cL_law 426 = .ok (.goto 17, 3) := by decide +kernel
theorem dL_law_429 : decode cL_law 429 = .ok (.aload 8, 2) := by decide +kernel
theorem dL_law_431 : decode cL_law 431 = .ok (.iload 11, 2) := by decide +kernel
theorem dL_law_433 : decode cL_law 433 = .ok (.iaload, 1) := by decide +kernel
theorem dL_law_434 : decode cL_law 434 = .ok (.iconst 1, 1) := by decide +kernel
theorem dL_law_435 : decode cL_law 435 = .ok (.if_icmp .ne 7, 3) := by decide +kernel
theorem dL_law_438 : decode cL_law 438 = .ok (.iconst 0, 1) := by decide +kernel
theorem dL_law_439 : decode cL_law 439 = .ok (.goto 4, 3) := by decide +kernel
theorem dL_law_442 : decode cL_law 442 = .ok (.iconst 1, 1) := by decide +kernel
theorem dL_law_443 : decode cL_law 443 = .ok (.if_icmp .ne 7, 3) := by decide +kernel
theorem dL_law_446 : decode cL_law 446 = .ok (.iconst 1, 1) := by decide +kernel
theorem dL_law_447 : decode cL_law 447 = .ok (.goto 4, 3) := by decide +kernel
theorem dL_law_450 : decode cL_law 450 = .ok (.iconst 0, 1) := by decide +kernel
theorem dL_law_451 : decode cL_law 451 = .ok (.istore_n 3, 1) := by decide +kernel
theorem dL_law_452 : decode cL_law 452 = .ok (.aload 8, 2) := by decide +kernel
theorem dL_law_454 : decode cL_law 454 = .ok (.iload 11, 2) := by decide +kernel
theorem dL_law_456 : decode cL_law 456 = .ok (.iconst 1, 1) := by decide +kernel
theorem dL_law_457 : decode cL_law 457 = .ok (.iastore, 1) := by decide +kernel
theorem dL_law_458 : decode cL_law 458 = .ok (.iinc 10 1, 3) := by decide +kernel
theorem dL_law_461 : decode cL_law 461 = .ok (.goto (-172), 3) := by decide +kernel
theorem dL_law_464 : decode cL_law 464 = .ok (.iload_n 3, 1) := by decide +kernel
theorem dL_law_465 : decode cL_law 465 = .ok (.ifCond .eq 50, 3) := by decide +kernel
theorem dL_law_468 : decode cL_law 468 = .ok (.iload 9, 2) := by decide +kernel
theorem dL_law_470 : decode cL_law 470 = .ok (.ifCond .ne 45, 3) := by decide +kernel
theorem dL_law_473 : decode cL_law 473 = .ok (.aload_n 1, 1) := by decide +kernel
theorem dL_law_474 : decode cL_law 474 = .ok (.iconst (-1), 1) := by decide +kernel
theorem dL_law_475 : decode cL_law 475 = .ok (.invokevirtual 89, 3) := by decide +kernel
theorem dL_law_478 : decode cL_law 478 = .ok (.iload 4, 2) := by decide +kernel
theorem dL_law_480 : decode cL_law 480 = .ok (.if_icmp .ne 35, 3) := by decide +kernel
theorem dL_law_483 : decode cL_law 483 = .ok (.aload_n 2, 1) := by decide +kernel
theorem dL_law_484 : decode cL_law 484 = .ok (.iconst (-1), 1) := by decide +kernel
theorem dL_law_485 : decode cL_law 485 = .ok (.invokevirtual 89, 3) := by decide +kernel
theorem dL_law_488 : decode cL_law 488 = .ok (.iload 4, 2) := by decide +kernel
theorem dL_law_490 : decode cL_law 490 = .ok (.if_icmp .ne 25, 3) := by decide +kernel
theorem dL_law_493 : decode cL_law 493 = .ok (.aload_n 1, 1) := by decide +kernel
theorem dL_law_494 : decode cL_law 494 = .ok (.iconst 4, 1) := by decide +kernel
theorem dL_law_495 : decode cL_law 495 = .ok (.invokevirtual 92, 3) := by decide +kernel
theorem dL_law_498 : decode cL_law 498 = .ok (.iconst 1, 1) := by decide +kernel
theorem dL_law_499 : decode cL_law 499 = .ok (.if_icmp .ne 16, 3) := by decide +kernel
theorem dL_law_502 : decode cL_law 502 = .ok (.aload_n 2, 1) := by decide +kernel
theorem dL_law_503 : decode cL_law 503 = .ok (.iconst 4, 1) := by decide +kernel
theorem dL_law_504 : decode cL_law 504 = .ok (.invokevirtual 92, 3) := by decide +kernel
theorem dL_law_507 : decode cL_law 507 = .ok (.iconst 1, 1) := by decide +kernel
theorem dL_law_508 : decode cL_law 508 = .ok (.if_icmp .ne 7, 3) := by decide +kernel
theorem dL_law_511 : decode cL_law 511 = .ok (.iconst 1, 1) := by decide +kernel
theorem dL_law_512 : decode cL_law 512 = .ok (.goto 4, 3) := by decide +kernel
theorem dL_law_515 : decode cL_law 515 = .ok (.iconst 0, 1) := by decide +kernel
theorem dL_law_516 : decode cL_law 516 = .ok (.istore_n 3, 1) := by decide +kernel
theorem dL_law_517 : decode cL_law 517 = .ok (.iconst 0, 1) := by decide +kernel
theorem dL_law_518 : decode cL_law 518 = .ok (.istore 10, 2) := by decide +kernel
theorem dL_law_520 : decode cL_law 520 = .ok (.iload 10, 2) := by decide +kernel
theorem dL_law_522 : decode cL_law 522 = .ok (.iload 4, 2) := by decide +kernel
theorem dL_law_524 : decode cL_law 524 = .ok (.if_icmp .ge 34, 3) := by decide +kernel
theorem dL_law_527 : decode cL_law 527 = .ok (.iload_n 3, 1) := by decide +kernel
theorem dL_law_528 : decode cL_law 528 = .ok (.ifCond .eq 30, 3) := by decide +kernel
theorem dL_law_531 : decode cL_law 531 = .ok (.aload_n 1, 1) := by decide +kernel
theorem dL_law_532 : decode cL_law 532 = .ok (.iload 10, 2) := by decide +kernel
theorem dL_law_534 : decode cL_law 534 = .ok (.invokevirtual 89, 3) := by decide +kernel
theorem dL_law_537 : decode cL_law 537 = .ok (.aload_n 2, 1) := by decide +kernel
theorem dL_law_538 : decode cL_law 538 = .ok (.iload 10, 2) := by decide +kernel
theorem dL_law_540 : decode cL_law 540 = .ok (.invokevirtual 89, 3) := by decide +kernel
theorem dL_law_543 : decode cL_law 543 = .ok (.if_icmp .ne 7, 3) := by decide +kernel
theorem dL_law_546 : decode cL_law 546 = .ok (.iconst 1, 1) := by decide +kernel
theorem dL_law_547 : decode cL_law 547 = .ok (.goto 4, 3) := by decide +kernel
theorem dL_law_550 : decode cL_law 550 = .ok (.iconst 0, 1) := by decide +kernel
theorem dL_law_551 : decode cL_law 551 = .ok (.istore_n 3, 1) := by decide +kernel
theorem dL_law_552 : decode cL_law 552 = .ok (.iinc 10 1, 3) := by decide +kernel
theorem dL_law_555 : decode cL_law 555 = .ok (.goto (-35), 3) := by decide +kernel
theorem dL_law_558 : decode cL_law 558 = .ok (.iload_n 3, 1) := by decide +kernel
theorem dL_law_559 : decode cL_law 559 = .ok (.ifCond .eq 49, 3) := by decide +kernel
theorem dL_law_562 : decode cL_law 562 = .ok (.aload_n 1, 1) := by decide +kernel
theorem dL_law_563 : decode cL_law 563 = .ok (.iconst 0, 1) := by decide +kernel
theorem dL_law_564 : decode cL_law 564 = .ok (.invokevirtual 92, 3) := by decide +kernel
theorem dL_law_567 : decode cL_law 567 = .ok (.ifCond .ne 41, 3) := by decide +kernel
theorem dL_law_570 : decode cL_law 570 = .ok (.aload_n 2, 1) := by decide +kernel
theorem dL_law_571 : decode cL_law 571 = .ok (.iconst 0, 1) := by decide +kernel
theorem dL_law_572 : decode cL_law 572 = .ok (.invokevirtual 92, 3) := by decide +kernel
theorem dL_law_575 : decode cL_law 575 = .ok (.iload 7, 2) := by decide +kernel
theorem dL_law_577 : decode cL_law 577 = .ok (.ifCond .eq 15, 3) := by decide +kernel
theorem dL_law_580 : decode cL_law 580 = .ok (.aload_n 2, 1) := by decide +kernel
theorem dL_law_581 : decode cL_law 581 = .ok (.iconst 1, 1) := by decide +kernel
theorem dL_law_582 : decode cL_law 582 = .ok (.invokevirtual 92, 3) := by decide +kernel
theorem dL_law_585 : decode cL_law 585 = .ok (.ifCond .le 7, 3) := by decide +kernel
theorem dL_law_588 : decode cL_law 588 = .ok (.iconst 1, 1) := by decide +kernel
theorem dL_law_589 : decode cL_law 589 = .ok (.goto 4, 3) := by decide +kernel
theorem dL_law_592 : decode cL_law 592 = .ok (.iconst 0, 1) := by decide +kernel
theorem dL_law_593 : decode cL_law 593 = .ok (.if_icmp .ne 15, 3) := by decide +kernel
theorem dL_law_596 : decode cL_law 596 = .ok (.aload_n 1, 1) := by decide +kernel
theorem dL_law_597 : decode cL_law 597 = .ok (.iconst 5, 1) := by decide +kernel
theorem dL_law_598 : decode cL_law 598 = .ok (.invokevirtual 92, 3) := by decide +kernel
theorem dL_law_601 : decode cL_law 601 = .ok (.ifCond .ne 7, 3) := by decide +kernel
theorem dL_law_604 : decode cL_law 604 = .ok (.iconst 1, 1) := by decide +kernel
theorem dL_law_605 : decode cL_law 605 = .ok (.goto 4, 3) := by decide +kernel
theorem dL_law_608 : decode cL_law 608 = .ok (.iconst 0, 1) := by decide +kernel
theorem dL_law_609 : decode cL_law 609 = .ok (.ireturn, 1) := by decide +kernel
