theorem dX7_init_0 : decode cX7_init 0 = .ok (.aload_n 0, 1) := by decide +kernel
theorem dX7_init_1 : decode cX7_init 1 = .ok (.invokespecial 3, 3) := by decide +kernel
theorem dX7_init_4 : decode cX7_init 4 = .ok (.aload_n 0, 1) := by decide +kernel
theorem dX7_init_5 : decode cX7_init 5 = .ok (.sipush 240, 3) := by decide +kernel
theorem dX7_init_8 : decode cX7_init 8 = .ok (.anewarray 9, 3) := by decide +kernel
theorem dX7_init_11 : decode cX7_init 11 = .ok (.putfield 11, 3) := by decide +kernel
theorem dX7_init_14 : decode cX7_init 14 = .ok (.aload_n 0, 1) := by decide +kernel
theorem dX7_init_15 : decode cX7_init 15 = .ok (.sipush 720, 3) := by decide +kernel
theorem dX7_init_18 : decode cX7_init 18 = .ok (.newarray .int, 2) := by decide +kernel
theorem dX7_init_20 : decode cX7_init 20 = .ok (.putfield 17, 3) := by decide +kernel
theorem dX7_init_23 : decode cX7_init 23 = .ok (.aload_n 0, 1) := by decide +kernel
theorem dX7_init_24 : decode cX7_init 24 = .ok (.sipush 240, 3) := by decide +kernel
theorem dX7_init_27 : decode cX7_init 27 = .ok (.newarray .int, 2) := by decide +kernel
theorem dX7_init_29 : decode cX7_init 29 = .ok (.putfield 21, 3) := by decide +kernel
theorem dX7_init_32 : decode cX7_init 32 = .ok (.aload_n 0, 1) := by decide +kernel
theorem dX7_init_33 : decode cX7_init 33 = .ok (.sipush 240, 3) := by decide +kernel
theorem dX7_init_36 : decode cX7_init 36 = .ok (.newarray .int, 2) := by decide +kernel
theorem dX7_init_38 : decode cX7_init 38 = .ok (.putfield 24, 3) := by decide +kernel
theorem dX7_init_41 : decode cX7_init 41 = .ok (.aload_n 0, 1) := by decide +kernel
theorem dX7_init_42 : decode cX7_init 42 = .ok (.iconst 3, 1) := by decide +kernel
theorem dX7_init_43 : decode cX7_init 43 = .ok (.newarray .int, 2) := by decide +kernel
theorem dX7_init_45 : decode cX7_init 45 = .ok (.putfield 27, 3) := by decide +kernel
theorem dX7_init_48 : decode cX7_init 48 = .ok (.return_, 1) := by decide +kernel
theorem dX7_compile_0 : decode cX7_compile 0 = .ok (.aload_n 0, 1) := by decide +kernel
theorem dX7_compile_1 : decode cX7_compile 1 = .ok (.iconst 0, 1) := by decide +kernel
theorem dX7_compile_2 : decode cX7_compile 2 = .ok (.putfield 30, 3) := by decide +kernel
theorem dX7_compile_5 : decode cX7_compile 5 = .ok (.aload_n 0, 1) := by decide +kernel
theorem dX7_compile_6 : decode cX7_compile 6 = .ok (.iconst 0, 1) := by decide +kernel
theorem dX7_compile_7 : decode cX7_compile 7 = .ok (.putfield 34, 3) := by decide +kernel
theorem dX7_compile_10 : decode cX7_compile 10 = .ok (.aload_n 0, 1) := by decide +kernel
theorem dX7_compile_11 : decode cX7_compile 11 = .ok (.iconst 0, 1) := by decide +kernel
theorem dX7_compile_12 : decode cX7_compile 12 = .ok (.putfield 37, 3) := by decide +kernel
theorem dX7_compile_15 : decode cX7_compile 15 = .ok (.aload_n 0, 1) := by decide +kernel
theorem dX7_compile_16 : decode cX7_compile 16 = .ok (.iconst 0, 1) := by decide +kernel
theorem dX7_compile_17 : decode cX7_compile 17 = .ok (.putfield 40, 3) := by decide +kernel
theorem dX7_compile_20 : decode cX7_compile 20 = .ok (.aload_n 0, 1) := by decide +kernel
theorem dX7_compile_21 : decode cX7_compile 21 = .ok (.iconst (-1), 1) := by decide +kernel
theorem dX7_compile_22 : decode cX7_compile 22 = .ok (.putfield 43, 3) := by decide +kernel
theorem dX7_compile_25 : decode cX7_compile 25 = .ok (.aload_n 0, 1) := by decide +kernel
theorem dX7_compile_26 : decode cX7_compile 26 = .ok (.aload_n 1, 1) := by decide +kernel
theorem dX7_compile_27 : decode cX7_compile 27 = .ok (.invokevirtual 46, 3) := by decide +kernel
theorem dX7_compile_30 : decode cX7_compile 30 = .ok (.iconst 0, 1) := by decide +kernel
theorem dX7_compile_31 : decode cX7_compile 31 = .ok (.istore_n 2, 1) := by decide +kernel
theorem dX7_compile_32 : decode cX7_compile 32 = .ok (.iload_n 2, 1) := by decide +kernel
theorem dX7_compile_33 : decode cX7_compile 33 = .ok (.sipush 240, 3) := by decide +kernel
theorem dX7_compile_36 : decode cX7_compile 36 = .ok (.if_icmp .ge 44, 3) := by decide +kernel
theorem dX7_compile_39 : decode cX7_compile 39 = .ok (.aload_n 0, 1) := by decide +kernel
theorem dX7_compile_40 : decode cX7_compile 40 = .ok (.getfield 40, 3) := by decide +kernel
theorem dX7_compile_43 : decode cX7_compile 43 = .ok (.ifCond .ne 37, 3) := by decide +kernel
theorem dX7_compile_46 : decode cX7_compile 46 = .ok (.aload_n 0, 1) := by decide +kernel
theorem dX7_compile_47 : decode cX7_compile 47 = .ok (.getfield 30, 3) := by decide +kernel
theorem dX7_compile_50 : decode cX7_compile 50 = .ok (.ifCond .gt 14, 3) := by decide +kernel
theorem dX7_compile_53 : decode cX7_compile 53 = .ok (.aload_n 0, 1) := by decide +kernel
theorem dX7_compile_54 : decode cX7_compile 54 = .ok (.getfield 37, 3) := by decide +kernel
theorem dX7_compile_57 : decode cX7_compile 57 = .ok (.aload_n 1, 1) := by decide +kernel
theorem dX7_compile_58 : decode cX7_compile 58 = .ok (.getfield 50, 3) := by decide +kernel
theorem dX7_compile_61 : decode cX7_compile 61 = .ok (.if_icmp .ge 19, 3) := by decide +kernel
theorem dX7_compile_64 : decode cX7_compile 64 = .ok (.aload_n 0, 1) := by decide +kernel
theorem dX7_compile_65 : decode cX7_compile 65 = .ok (.aload_n 1, 1) := by decide +kernel
theorem dX7_compile_66 : decode cX7_compile 66 = .ok (.invokevirtual 55, 3) := by decide +kernel
theorem dX7_compile_69 : decode cX7_compile 69 = .ok (.aload_n 0, 1) := by decide +kernel
theorem dX7_compile_70 : decode cX7_compile 70 = .ok (.aload_n 1, 1) := by decide +kernel
theorem dX7_compile_71 : decode cX7_compile 71 = .ok (.invokevirtual 46, 3) := by decide +kernel
theorem dX7_compile_74 : decode cX7_compile 74 = .ok (.iinc 2 1, 3) := by decide +kernel
theorem dX7_compile_77 : decode cX7_compile 77 = .ok (.goto (-45), 3) := by decide +kernel
theorem dX7_compile_80 : decode cX7_compile 80 = .ok (.return_, 1) := by decide +kernel
theorem dX7_blame_0 : decode cX7_blame 0 = .ok (.aload_n 0, 1) := by decide +kernel
theorem dX7_blame_1 : decode cX7_blame 1 = .ok (.getfield 40, 3) := by decide +kernel
theorem dX7_blame_4 : decode cX7_blame 4 = .ok (.ifCond .ne 13, 3) := by decide +kernel
theorem dX7_blame_7 : decode cX7_blame 7 = .ok (.aload_n 0, 1) := by decide +kernel
theorem dX7_blame_8 : decode cX7_blame 8 = .ok (.bipush 8, 2) := by decide +kernel
theorem dX7_blame_10 : decode cX7_blame 10 = .ok (.iload_n 1, 1) := by decide +kernel
theorem dX7_blame_11 : decode cX7_blame 11 = .ok (.imul, 1) := by decide +kernel
theorem dX7_blame_12 : decode cX7_blame 12 = .ok (.iload_n 2, 1) := by decide +kernel
theorem dX7_blame_13 : decode cX7_blame 13 = .ok (.iadd, 1) := by decide +kernel
theorem dX7_blame_14 : decode cX7_blame 14 = .ok (.putfield 40, 3) := by decide +kernel
theorem dX7_blame_17 : decode cX7_blame 17 = .ok (.return_, 1) := by decide +kernel
theorem dX7_skipBlanks_0 : decode cX7_skipBlanks 0 = .ok (.aload_n 0, 1) := by decide +kernel
theorem dX7_skipBlanks_1 : decode cX7_skipBlanks 1 = .ok (.getfield 37, 3) := by decide +kernel
theorem dX7_skipBlanks_4 : decode cX7_skipBlanks 4 = .ok (.aload_n 1, 1) := by decide +kernel
theorem dX7_skipBlanks_5 : decode cX7_skipBlanks 5 = .ok (.getfield 50, 3) := by decide +kernel
theorem dX7_skipBlanks_8 : decode cX7_skipBlanks 8 = .ok (.if_icmp .ge 29, 3) := by decide +kernel
theorem dX7_skipBlanks_11 : decode cX7_skipBlanks 11 = .ok (.aload_n 1, 1) := by decide +kernel
theorem dX7_skipBlanks_12 : decode cX7_skipBlanks 12 = .ok (.aload_n 0, 1) := by decide +kernel
theorem dX7_skipBlanks_13 : decode cX7_skipBlanks 13 = .ok (.getfield 37, 3) := by decide +kernel
theorem dX7_skipBlanks_16 : decode cX7_skipBlanks 16 = .ok (.invokevirtual 58, 3) := by decide +kernel
theorem dX7_skipBlanks_19 : decode cX7_skipBlanks 19 = .ok (.bipush 32, 2) := by decide +kernel
theorem dX7_skipBlanks_21 : decode cX7_skipBlanks 21 = .ok (.if_icmp .ne 16, 3) := by decide +kernel
theorem dX7_skipBlanks_24 : decode cX7_skipBlanks 24 = .ok (.aload_n 0, 1) := by decide +kernel
theorem dX7_skipBlanks_25 : decode cX7_skipBlanks 25 = .ok (.dup, 1) := by decide +kernel
theorem dX7_skipBlanks_26 : decode cX7_skipBlanks 26 = .ok (.getfield 37, 3) := by decide +kernel
theorem dX7_skipBlanks_29 : decode cX7_skipBlanks 29 = .ok (.iconst 1, 1) := by decide +kernel
theorem dX7_skipBlanks_30 : decode cX7_skipBlanks 30 = .ok (.iadd, 1) := by decide +kernel
theorem dX7_skipBlanks_31 : decode cX7_skipBlanks 31 = .ok (.putfield 37, 3) := by decide +kernel
theorem dX7_skipBlanks_34 : decode cX7_skipBlanks 34 = .ok (.goto (-34), 3) := by decide +kernel
theorem dX7_skipBlanks_37 : decode cX7_skipBlanks 37 = .ok (.return_, 1) := by decide +kernel
theorem dX7_takeDeed_0 : decode cX7_takeDeed 0 = .ok (.aload_n 0, 1) := by decide +kernel
theorem dX7_takeDeed_1 : decode cX7_takeDeed 1 = .ok (.getfield 30, 3) := by decide +kernel
theorem dX7_takeDeed_4 : decode cX7_takeDeed 4 = .ok (.ifCond .le 22, 3) := by decide +kernel
theorem dX7_takeDeed_7 : decode cX7_takeDeed 7 = .ok (.aload_n 1, 1) := by decide +kernel
theorem dX7_takeDeed_8 : decode cX7_takeDeed 8 = .ok (.aload_n 0, 1) := by decide +kernel
theorem dX7_takeDeed_9 : decode cX7_takeDeed 9 = .ok (.getfield 37, 3) := by decide +kernel
theorem dX7_takeDeed_12 : decode cX7_takeDeed 12 = .ok (.invokevirtual 58, 3) := by decide +kernel
theorem dX7_takeDeed_15 : decode cX7_takeDeed 15 = .ok (.bipush 93, 2) := by decide +kernel
theorem dX7_takeDeed_17 : decode cX7_takeDeed 17 = .ok (.if_icmp .ne 9, 3) := by decide +kernel
theorem dX7_takeDeed_20 : decode cX7_takeDeed 20 = .ok (.aload_n 0, 1) := by decide +kernel
theorem dX7_takeDeed_21 : decode cX7_takeDeed 21 = .ok (.aload_n 1, 1) := by decide +kernel
theorem dX7_takeDeed_22 : decode cX7_takeDeed 22 = .ok (.invokevirtual 62, 3) := by decide +kernel
theorem dX7_takeDeed_25 : decode cX7_takeDeed 25 = .ok (.return_, 1) := by decide +kernel
theorem dX7_takeDeed_26 : decode cX7_takeDeed 26 = .ok (.aload_n 0, 1) := by decide +kernel
theorem dX7_takeDeed_27 : decode cX7_takeDeed 27 = .ok (.getfield 37, 3) := by decide +kernel
theorem dX7_takeDeed_30 : decode cX7_takeDeed 30 = .ok (.istore_n 2, 1) := by decide +kernel
theorem dX7_takeDeed_31 : decode cX7_takeDeed 31 = .ok (.aload_n 0, 1) := by decide +kernel
theorem dX7_takeDeed_32 : decode cX7_takeDeed 32 = .ok (.aload_n 1, 1) := by decide +kernel
theorem dX7_takeDeed_33 : decode cX7_takeDeed 33 = .ok (.invokevirtual 65, 3) := by decide +kernel
theorem dX7_takeDeed_36 : decode cX7_takeDeed 36 = .ok (.astore_n 3, 1) := by decide +kernel
theorem dX7_takeDeed_37 : decode cX7_takeDeed 37 = .ok (.aload_n 3, 1) := by decide +kernel
theorem dX7_takeDeed_38 : decode cX7_takeDeed 38 = .ok (.ifnonnull 10, 3) := by decide +kernel
theorem dX7_takeDeed_41 : decode cX7_takeDeed 41 = .ok (.aload_n 0, 1) := by decide +kernel
theorem dX7_takeDeed_42 : decode cX7_takeDeed 42 = .ok (.iload_n 2, 1) := by decide +kernel
theorem dX7_takeDeed_43 : decode cX7_takeDeed 43 = .ok (.iconst 1, 1) := by decide +kernel
theorem dX7_takeDeed_44 : decode cX7_takeDeed 44 = .ok (.invokevirtual 69, 3) := by decide +kernel
theorem dX7_takeDeed_47 : decode cX7_takeDeed 47 = .ok (.return_, 1) := by decide +kernel
theorem dX7_takeDeed_48 : decode cX7_takeDeed 48 = .ok (.aload_n 3, 1) := by decide +kernel
theorem dX7_takeDeed_49 : decode cX7_takeDeed 49 = .ok (.getstatic 73, 3) := by decide +kernel
theorem dX7_takeDeed_52 : decode cX7_takeDeed 52 = .ok (.if_acmp .ne 18, 3) := by decide +kernel
theorem dX7_takeDeed_55 : decode cX7_takeDeed 55 = .ok (.aload_n 0, 1) := by decide +kernel
theorem dX7_takeDeed_56 : decode cX7_takeDeed 56 = .ok (.getfield 30, 3) := by decide +kernel
theorem dX7_takeDeed_59 : decode cX7_takeDeed 59 = .ok (.iconst 3, 1) := by decide +kernel
theorem dX7_takeDeed_60 : decode cX7_takeDeed 60 = .ok (.if_icmp .lt 10, 3) := by decide +kernel
theorem dX7_takeDeed_63 : decode cX7_takeDeed 63 = .ok (.aload_n 0, 1) := by decide +kernel
theorem dX7_takeDeed_64 : decode cX7_takeDeed 64 = .ok (.iload_n 2, 1) := by decide +kernel
theorem dX7_takeDeed_65 : decode cX7_takeDeed 65 = .ok (.iconst 3, 1) := by decide +kernel
theorem dX7_takeDeed_66 : decode cX7_takeDeed 66 = .ok (.invokevirtual 69, 3) := by decide +kernel
theorem dX7_takeDeed_69 : decode cX7_takeDeed 69 = .ok (.return_, 1) := by decide +kernel
theorem dX7_takeDeed_70 : decode cX7_takeDeed 70 = .ok (.aload_n 0, 1) := by decide +kernel
theorem dX7_takeDeed_71 : decode cX7_takeDeed 71 = .ok (.aload_n 3, 1) := by decide +kernel
theorem dX7_takeDeed_72 : decode cX7_takeDeed 72 = .ok (.invokevirtual 77, 3) := by decide +kernel
theorem dX7_takeDeed_75 : decode cX7_takeDeed 75 = .ok (.istore 4, 2) := by decide +kernel
theorem dX7_takeDeed_77 : decode cX7_takeDeed 77 = .ok (.iconst 0, 1) := by decide +kernel
theorem dX7_takeDeed_78 : decode cX7_takeDeed 78 = .ok (.istore 5, 2) := by decide +kernel
theorem dX7_takeDeed_80 : decode cX7_takeDeed 80 = .ok (.iload 5, 2) := by decide +kernel
theorem dX7_takeDeed_82 : decode cX7_takeDeed 82 = .ok (.aload_n 3, 1) := by decide +kernel
theorem dX7_takeDeed_83 : decode cX7_takeDeed 83 = .ok (.getfield 81, 3) := by decide +kernel
theorem dX7_takeDeed_86 : decode cX7_takeDeed 86 = .ok (.if_icmp .ge 47, 3) := by decide +kernel
theorem dX7_takeDeed_89 : decode cX7_takeDeed 89 = .ok (.iload 5, 2) := by decide +kernel
theorem dX7_takeDeed_91 : decode cX7_takeDeed 91 = .ok (.iconst 3, 1) := by decide +kernel
theorem dX7_takeDeed_92 : decode cX7_takeDeed 92 = .ok (.if_icmp .ge 41, 3) := by decide +kernel
theorem dX7_takeDeed_95 : decode cX7_takeDeed 95 = .ok (.aload_n 0, 1) := by decide +kernel
theorem dX7_takeDeed_96 : decode cX7_takeDeed 96 = .ok (.getfield 17, 3) := by decide +kernel
theorem dX7_takeDeed_99 : decode cX7_takeDeed 99 = .ok (.iload 4, 2) := by decide +kernel
theorem dX7_takeDeed_101 : decode cX7_takeDeed 101 = .ok (.iconst 3, 1) := by decide +kernel
theorem dX7_takeDeed_102 : decode cX7_takeDeed 102 = .ok (.imul, 1) := by decide +kernel
theorem dX7_takeDeed_103 : decode cX7_takeDeed 103 = .ok (.iload 5, 2) := by decide +kernel
theorem dX7_takeDeed_105 : decode cX7_takeDeed 105 = .ok (.iadd, 1) := by decide +kernel
theorem dX7_takeDeed_106 : decode cX7_takeDeed 106 = .ok (.aload_n 0, 1) := by decide +kernel
theorem dX7_takeDeed_107 : decode cX7_takeDeed 107 = .ok (.aload_n 1, 1) := by decide +kernel
theorem dX7_takeDeed_108 : decode cX7_takeDeed 108 = .ok (.aload_n 3, 1) := by decide +kernel
theorem dX7_takeDeed_109 : decode cX7_takeDeed 109 = .ok (.getstatic 73, 3) := by decide +kernel
theorem dX7_takeDeed_112 : decode cX7_takeDeed 112 = .ok (.if_acmp .ne 8, 3) := by decide +kernel
theorem dX7_takeDeed_115 : decode cX7_takeDeed 115 = .ok (.bipush 20, 2) := by decide +kernel
theorem dX7_takeDeed_117 : decode cX7_takeDeed 117 = .ok (.goto 6, 3) := by decide +kernel
theorem dX7_takeDeed_120 : decode cX7_takeDeed 120 = .ok (.sipush 9999, 3) := by decide +kernel
theorem dX7_takeDeed_123 : decode cX7_takeDeed 123 = .ok (.invokevirtual 83, 3) := by decide +kernel
theorem dX7_takeDeed_126 : decode cX7_takeDeed 126 = .ok (.iastore, 1) := by decide +kernel
theorem dX7_takeDeed_127 : decode cX7_takeDeed 127 = .ok (.iinc 5 1, 3) := by decide +kernel
theorem dX7_takeDeed_130 : decode cX7_takeDeed 130 = .ok (.goto (-50), 3) := by decide +kernel
theorem dX7_takeDeed_133 : decode cX7_takeDeed 133 = .ok (.aload_n 0, 1) := by decide +kernel
theorem dX7_takeDeed_134 : decode cX7_takeDeed 134 = .ok (.aload_n 1, 1) := by decide +kernel
theorem dX7_takeDeed_135 : decode cX7_takeDeed 135 = .ok (.aload_n 3, 1) := by decide +kernel
theorem dX7_takeDeed_136 : decode cX7_takeDeed 136 = .ok (.getstatic 73, 3) := by decide +kernel
theorem dX7_takeDeed_139 : decode cX7_takeDeed 139 = .ok (.if_acmp .ne 8, 3) := by decide +kernel
theorem dX7_takeDeed_142 : decode cX7_takeDeed 142 = .ok (.bipush 91, 2) := by decide +kernel
theorem dX7_takeDeed_144 : decode cX7_takeDeed 144 = .ok (.goto 5, 3) := by decide +kernel
theorem dX7_takeDeed_147 : decode cX7_takeDeed 147 = .ok (.bipush 59, 2) := by decide +kernel
theorem dX7_takeDeed_149 : decode cX7_takeDeed 149 = .ok (.invokevirtual 87, 3) := by decide +kernel
theorem dX7_takeDeed_152 : decode cX7_takeDeed 152 = .ok (.aload_n 3, 1) := by decide +kernel
theorem dX7_takeDeed_153 : decode cX7_takeDeed 153 = .ok (.getstatic 73, 3) := by decide +kernel
theorem dX7_takeDeed_156 : decode cX7_takeDeed 156 = .ok (.if_acmp .ne 24, 3) := by decide +kernel
theorem dX7_takeDeed_159 : decode cX7_takeDeed 159 = .ok (.aload_n 0, 1) := by decide +kernel
theorem dX7_takeDeed_160 : decode cX7_takeDeed 160 = .ok (.getfield 27, 3) := by decide +kernel
theorem dX7_takeDeed_163 : decode cX7_takeDeed 163 = .ok (.aload_n 0, 1) := by decide +kernel
theorem dX7_takeDeed_164 : decode cX7_takeDeed 164 = .ok (.getfield 30, 3) := by decide +kernel
theorem dX7_takeDeed_167 : decode cX7_takeDeed 167 = .ok (.iload 4, 2) := by decide +kernel
theorem dX7_takeDeed_169 : decode cX7_takeDeed 169 = .ok (.iastore, 1) := by decide +kernel
theorem dX7_takeDeed_170 : decode cX7_takeDeed 170 = .ok (.aload_n 0, 1) := by decide +kernel
theorem dX7_takeDeed_171 : decode cX7_takeDeed 171 = .ok (.dup, 1) := by decide +kernel
theorem dX7_takeDeed_172 : decode cX7_takeDeed 172 = .ok (.getfield 30, 3) := by decide +kernel
theorem dX7_takeDeed_175 : decode cX7_takeDeed 175 = .ok (.iconst 1, 1) := by decide +kernel
theorem dX7_takeDeed_176 : decode cX7_takeDeed 176 = .ok (.iadd, 1) := by decide +kernel
theorem dX7_takeDeed_177 : decode cX7_takeDeed 177 = .ok (.putfield 30, 3) := by decide +kernel
theorem dX7_takeDeed_180 : decode cX7_takeDeed 180 = .ok (.return_, 1) := by decide +kernel
theorem dX7_takeClose_0 : decode cX7_takeClose 0 = .ok (.aload_n 0, 1) := by decide +kernel
theorem dX7_takeClose_1 : decode cX7_takeClose 1 = .ok (.dup, 1) := by decide +kernel
theorem dX7_takeClose_2 : decode cX7_takeClose 2 = .ok (.getfield 37, 3) := by decide +kernel
theorem dX7_takeClose_5 : decode cX7_takeClose 5 = .ok (.iconst 1, 1) := by decide +kernel
theorem dX7_takeClose_6 : decode cX7_takeClose 6 = .ok (.iadd, 1) := by decide +kernel
theorem dX7_takeClose_7 : decode cX7_takeClose 7 = .ok (.putfield 37, 3) := by decide +kernel
theorem dX7_takeClose_10 : decode cX7_takeClose 10 = .ok (.aload_n 0, 1) := by decide +kernel
theorem dX7_takeClose_11 : decode cX7_takeClose 11 = .ok (.dup, 1) := by decide +kernel
theorem dX7_takeClose_12 : decode cX7_takeClose 12 = .ok (.getfield 30, 3) := by decide +kernel
theorem dX7_takeClose_15 : decode cX7_takeClose 15 = .ok (.iconst 1, 1) := by decide +kernel
theorem dX7_takeClose_16 : decode cX7_takeClose 16 = .ok (.isub, 1) := by decide +kernel
theorem dX7_takeClose_17 : decode cX7_takeClose 17 = .ok (.putfield 30, 3) := by decide +kernel
theorem dX7_takeClose_20 : decode cX7_takeClose 20 = .ok (.aload_n 0, 1) := by decide +kernel
theorem dX7_takeClose_21 : decode cX7_takeClose 21 = .ok (.getfield 27, 3) := by decide +kernel
theorem dX7_takeClose_24 : decode cX7_takeClose 24 = .ok (.aload_n 0, 1) := by decide +kernel
theorem dX7_takeClose_25 : decode cX7_takeClose 25 = .ok (.getfield 30, 3) := by decide +kernel
theorem dX7_takeClose_28 : decode cX7_takeClose 28 = .ok (.iaload, 1) := by decide +kernel
theorem dX7_takeClose_29 : decode cX7_takeClose 29 = .ok (.istore_n 2, 1) := by decide +kernel
theorem dX7_takeClose_30 : decode cX7_takeClose 30 = .ok (.aload_n 0, 1) := by decide +kernel
theorem dX7_takeClose_31 : decode cX7_takeClose 31 = .ok (.getfield 34, 3) := by decide +kernel
theorem dX7_takeClose_34 : decode cX7_takeClose 34 = .ok (.iload_n 2, 1) := by decide +kernel
theorem dX7_takeClose_35 : decode cX7_takeClose 35 = .ok (.iconst 1, 1) := by decide +kernel
theorem dX7_takeClose_36 : decode cX7_takeClose 36 = .ok (.iadd, 1) := by decide +kernel
theorem dX7_takeClose_37 : decode cX7_takeClose 37 = .ok (.if_icmp .eq 14, 3) := by decide +kernel
theorem dX7_takeClose_40 : decode cX7_takeClose 40 = .ok (.aload_n 0, 1) := by decide +kernel
theorem dX7_takeClose_41 : decode cX7_takeClose 41 = .ok (.getfield 17, 3) := by decide +kernel
theorem dX7_takeClose_44 : decode cX7_takeClose 44 = .ok (.iload_n 2, 1) := by decide +kernel
theorem dX7_takeClose_45 : decode cX7_takeClose 45 = .ok (.iconst 3, 1) := by decide +kernel
theorem dX7_takeClose_46 : decode cX7_takeClose 46 = .ok (.imul, 1) := by decide +kernel
theorem dX7_takeClose_47 : decode cX7_takeClose 47 = .ok (.iaload, 1) := by decide +kernel
theorem dX7_takeClose_48 : decode cX7_takeClose 48 = .ok (.ifCond .ne 11, 3) := by decide +kernel
theorem dX7_takeClose_51 : decode cX7_takeClose 51 = .ok (.aload_n 0, 1) := by decide +kernel
theorem dX7_takeClose_52 : decode cX7_takeClose 52 = .ok (.iload_n 2, 1) := by decide +kernel
theorem dX7_takeClose_53 : decode cX7_takeClose 53 = .ok (.putfield 34, 3) := by decide +kernel
theorem dX7_takeClose_56 : decode cX7_takeClose 56 = .ok (.goto 18, 3) := by decide +kernel
theorem dX7_takeClose_59 : decode cX7_takeClose 59 = .ok (.aload_n 0, 1) := by decide +kernel
theorem dX7_takeClose_60 : decode cX7_takeClose 60 = .ok (.getstatic 91, 3) := by decide +kernel
theorem dX7_takeClose_63 : decode cX7_takeClose 63 = .ok (.invokevirtual 77, 3) := by decide +kernel
theorem dX7_takeClose_66 : decode cX7_takeClose 66 = .ok (.istore_n 3, 1) := by decide +kernel
theorem dX7_takeClose_67 : decode cX7_takeClose 67 = .ok (.aload_n 0, 1) := by decide +kernel
theorem dX7_takeClose_68 : decode cX7_takeClose 68 = .ok (.getfield 21, 3) := by decide +kernel
theorem dX7_takeClose_71 : decode cX7_takeClose 71 = .ok (.iload_n 3, 1) := by decide +kernel
theorem dX7_takeClose_72 : decode cX7_takeClose 72 = .ok (.iload_n 2, 1) := by decide +kernel
theorem dX7_takeClose_73 : decode cX7_takeClose 73 = .ok (.iastore, 1) := by decide +kernel
theorem dX7_takeClose_74 : decode cX7_takeClose 74 = .ok (.aload_n 0, 1) := by decide +kernel
theorem dX7_takeClose_75 : decode cX7_takeClose 75 = .ok (.aload_n 1, 1) := by decide +kernel
theorem dX7_takeClose_76 : decode cX7_takeClose 76 = .ok (.bipush 59, 2) := by decide +kernel
theorem dX7_takeClose_78 : decode cX7_takeClose 78 = .ok (.invokevirtual 87, 3) := by decide +kernel
theorem dX7_takeClose_81 : decode cX7_takeClose 81 = .ok (.return_, 1) := by decide +kernel
theorem dX7_addLine_0 : decode cX7_addLine 0 = .ok (.aload_n 0, 1) := by decide +kernel
theorem dX7_addLine_1 : decode cX7_addLine 1 = .ok (.getfield 34, 3) := by decide +kernel
theorem dX7_addLine_4 : decode cX7_addLine 4 = .ok (.sipush 240, 3) := by decide +kernel
theorem dX7_addLine_7 : decode cX7_addLine 7 = .ok (.if_icmp .ge 10, 3) := by decide +kernel
theorem dX7_addLine_10 : decode cX7_addLine 10 = .ok (.aload_n 0, 1) := by decide +kernel
theorem dX7_addLine_11 : decode cX7_addLine 11 = .ok (.getfield 34, 3) := by decide +kernel
theorem dX7_addLine_14 : decode cX7_addLine 14 = .ok (.goto 6, 3) := by decide +kernel
theorem dX7_addLine_17 : decode cX7_addLine 17 = .ok (.sipush 239, 3) := by decide +kernel
theorem dX7_addLine_20 : decode cX7_addLine 20 = .ok (.istore_n 2, 1) := by decide +kernel
theorem dX7_addLine_21 : decode cX7_addLine 21 = .ok (.aload_n 0, 1) := by decide +kernel
theorem dX7_addLine_22 : decode cX7_addLine 22 = .ok (.getfield 11, 3) := by decide +kernel
theorem dX7_addLine_25 : decode cX7_addLine 25 = .ok (.iload_n 2, 1) := by decide +kernel
theorem dX7_addLine_26 : decode cX7_addLine 26 = .ok (.aload_n 1, 1) := by decide +kernel
theorem dX7_addLine_27 : decode cX7_addLine 27 = .ok (.aastore, 1) := by decide +kernel
theorem dX7_addLine_28 : decode cX7_addLine 28 = .ok (.aload_n 0, 1) := by decide +kernel
theorem dX7_addLine_29 : decode cX7_addLine 29 = .ok (.iload_n 2, 1) := by decide +kernel
theorem dX7_addLine_30 : decode cX7_addLine 30 = .ok (.iconst 1, 1) := by decide +kernel
theorem dX7_addLine_31 : decode cX7_addLine 31 = .ok (.iadd, 1) := by decide +kernel
theorem dX7_addLine_32 : decode cX7_addLine 32 = .ok (.putfield 34, 3) := by decide +kernel
theorem dX7_addLine_35 : decode cX7_addLine 35 = .ok (.iload_n 2, 1) := by decide +kernel
theorem dX7_addLine_36 : decode cX7_addLine 36 = .ok (.ireturn, 1) := by decide +kernel
theorem dX7_takeWord_0 : decode cX7_takeWord 0 = .ok (.aload_n 0, 1) := by decide +kernel
theorem dX7_takeWord_1 : decode cX7_takeWord 1 = .ok (.getfield 37, 3) := by decide +kernel
theorem dX7_takeWord_4 : decode cX7_takeWord 4 = .ok (.istore_n 2, 1) := by decide +kernel
theorem dX7_takeWord_5 : decode cX7_takeWord 5 = .ok (.aload_n 0, 1) := by decide +kernel
theorem dX7_takeWord_6 : decode cX7_takeWord 6 = .ok (.getfield 37, 3) := by decide +kernel
theorem dX7_takeWord_9 : decode cX7_takeWord 9 = .ok (.aload_n 1, 1) := by decide +kernel
theorem dX7_takeWord_10 : decode cX7_takeWord 10 = .ok (.getfield 50, 3) := by decide +kernel
theorem dX7_takeWord_13 : decode cX7_takeWord 13 = .ok (.if_icmp .ge 42, 3) := by decide +kernel
theorem dX7_takeWord_16 : decode cX7_takeWord 16 = .ok (.aload_n 1, 1) := by decide +kernel
theorem dX7_takeWord_17 : decode cX7_takeWord 17 = .ok (.aload_n 0, 1) := by decide +kernel
theorem dX7_takeWord_18 : decode cX7_takeWord 18 = .ok (.getfield 37, 3) := by decide +kernel
theorem dX7_takeWord_21 : decode cX7_takeWord 21 = .ok (.invokevirtual 58, 3) := by decide +kernel
theorem dX7_takeWord_24 : decode cX7_takeWord 24 = .ok (.bipush 97, 2) := by decide +kernel
theorem dX7_takeWord_26 : decode cX7_takeWord 26 = .ok (.if_icmp .lt 29, 3) := by decide +kernel
theorem dX7_takeWord_29 : decode cX7_takeWord 29 = .ok (.aload_n 1, 1) := by decide +kernel
theorem dX7_takeWord_30 : decode cX7_takeWord 30 = .ok (.aload_n 0, 1) := by decide +kernel
theorem dX7_takeWord_31 : decode cX7_takeWord 31 = .ok (.getfield 37, 3) := by decide +kernel
theorem dX7_takeWord_34 : decode cX7_takeWord 34 = .ok (.invokevirtual 58, 3) := by decide +kernel
theorem dX7_takeWord_37 : decode cX7_takeWord 37 = .ok (.bipush 122, 2) := by decide +kernel
theorem dX7_takeWord_39 : decode cX7_takeWord 39 = .ok (.if_icmp .gt 16, 3) := by decide +kernel
theorem dX7_takeWord_42 : decode cX7_takeWord 42 = .ok (.aload_n 0, 1) := by decide +kernel
theorem dX7_takeWord_43 : decode cX7_takeWord 43 = .ok (.dup, 1) := by decide +kernel
theorem dX7_takeWord_44 : decode cX7_takeWord 44 = .ok (.getfield 37, 3) := by decide +kernel
theorem dX7_takeWord_47 : decode cX7_takeWord 47 = .ok (.iconst 1, 1) := by decide +kernel
theorem dX7_takeWord_48 : decode cX7_takeWord 48 = .ok (.iadd, 1) := by decide +kernel
theorem dX7_takeWord_49 : decode cX7_takeWord 49 = .ok (.putfield 37, 3) := by decide +kernel
theorem dX7_takeWord_52 : decode cX7_takeWord 52 = .ok (.goto (-47), 3) := by decide +kernel
theorem dX7_takeWord_55 : decode cX7_takeWord 55 = .ok (.iconst 0, 1) := by decide +kernel
theorem dX7_takeWord_56 : decode cX7_takeWord 56 = .ok (.istore_n 3, 1) := by decide +kernel
theorem dX7_takeWord_57 : decode cX7_takeWord 57 = .ok (.iload_n 3, 1) := by decide +kernel
theorem dX7_takeWord_58 : decode cX7_takeWord 58 = .ok (.getstatic 94, 3) := by decide +kernel
theorem dX7_takeWord_61 : decode cX7_takeWord 61 = .ok (.arraylength, 1) := by decide +kernel
theorem dX7_takeWord_62 : decode cX7_takeWord 62 = .ok (.if_icmp .ge 32, 3) := by decide +kernel
theorem dX7_takeWord_65 : decode cX7_takeWord 65 = .ok (.aload_n 0, 1) := by decide +kernel
theorem dX7_takeWord_66 : decode cX7_takeWord 66 = .ok (.aload_n 1, 1) := by decide +kernel
theorem dX7_takeWord_67 : decode cX7_takeWord 67 = .ok (.iload_n 2, 1) := by decide +kernel
theorem dX7_takeWord_68 : decode cX7_takeWord 68 = .ok (.getstatic 94, 3) := by decide +kernel
theorem dX7_takeWord_71 : decode cX7_takeWord 71 = .ok (.iload_n 3, 1) := by decide +kernel
theorem dX7_takeWord_72 : decode cX7_takeWord 72 = .ok (.aaload, 1) := by decide +kernel
theorem dX7_takeWord_73 : decode cX7_takeWord 73 = .ok (.getfield 97, 3) := by decide +kernel
theorem dX7_takeWord_76 : decode cX7_takeWord 76 = .ok (.invokevirtual 101, 3) := by decide +kernel
theorem dX7_takeWord_79 : decode cX7_takeWord 79 = .ok (.ifCond .eq 9, 3) := by decide +kernel
theorem dX7_takeWord_82 : decode cX7_takeWord 82 = .ok (.getstatic 94, 3) := by decide +kernel
theorem dX7_takeWord_85 : decode cX7_takeWord 85 = .ok (.iload_n 3, 1) := by decide +kernel
theorem dX7_takeWord_86 : decode cX7_takeWord 86 = .ok (.aaload, 1) := by decide +kernel
theorem dX7_takeWord_87 : decode cX7_takeWord 87 = .ok (.areturn, 1) := by decide +kernel
theorem dX7_takeWord_88 : decode cX7_takeWord 88 = .ok (.iinc 3 1, 3) := by decide +kernel
theorem dX7_takeWord_91 : decode cX7_takeWord 91 = .ok (.goto (-34), 3) := by decide +kernel
theorem dX7_takeWord_94 : decode cX7_takeWord 94 = .ok (.aconst_null, 1) := by decide +kernel
theorem dX7_takeWord_95 : decode cX7_takeWord 95 = .ok (.areturn, 1) := by decide +kernel
theorem dX7_isSpelt_0 : decode cX7_isSpelt 0 = .ok (.aload_n 0, 1) := by decide +kernel
theorem dX7_isSpelt_1 : decode cX7_isSpelt 1 = .ok (.getfield 37, 3) := by decide +kernel
theorem dX7_isSpelt_4 : decode cX7_isSpelt 4 = .ok (.iload_n 2, 1) := by decide +kernel
theorem dX7_isSpelt_5 : decode cX7_isSpelt 5 = .ok (.isub, 1) := by decide +kernel
theorem dX7_isSpelt_6 : decode cX7_isSpelt 6 = .ok (.aload_n 3, 1) := by decide +kernel
theorem dX7_isSpelt_7 : decode cX7_isSpelt 7 = .ok (.invokevirtual 105, 3) := by decide +kernel
theorem dX7_isSpelt_10 : decode cX7_isSpelt 10 = .ok (.if_icmp .eq 5, 3) := by decide +kernel
theorem dX7_isSpelt_13 : decode cX7_isSpelt 13 = .ok (.iconst 0, 1) := by decide +kernel
theorem dX7_isSpelt_14 : decode cX7_isSpelt 14 = .ok (.ireturn, 1) := by decide +kernel
theorem dX7_isSpelt_15 : decode cX7_isSpelt 15 = .ok (.iconst 0, 1) := by decide +kernel
theorem dX7_isSpelt_16 : decode cX7_isSpelt 16 = .ok (.istore 4, 2) := by decide +kernel
theorem dX7_isSpelt_18 : decode cX7_isSpelt 18 = .ok (.iload 4, 2) := by decide +kernel
theorem dX7_isSpelt_20 : decode cX7_isSpelt 20 = .ok (.aload_n 3, 1) := by decide +kernel
theorem dX7_isSpelt_21 : decode cX7_isSpelt 21 = .ok (.invokevirtual 105, 3) := by decide +kernel
theorem dX7_isSpelt_24 : decode cX7_isSpelt 24 = .ok (.if_icmp .ge 28, 3) := by decide +kernel
theorem dX7_isSpelt_27 : decode cX7_isSpelt 27 = .ok (.aload_n 1, 1) := by decide +kernel
theorem dX7_isSpelt_28 : decode cX7_isSpelt 28 = .ok (.iload_n 2, 1) := by decide +kernel
theorem dX7_isSpelt_29 : decode cX7_isSpelt 29 = .ok (.iload 4, 2) := by decide +kernel
theorem dX7_isSpelt_31 : decode cX7_isSpelt 31 = .ok (.iadd, 1) := by decide +kernel
theorem dX7_isSpelt_32 : decode cX7_isSpelt 32 = .ok (.invokevirtual 58, 3) := by decide +kernel
theorem dX7_isSpelt_35 : decode cX7_isSpelt 35 = .ok (.aload_n 3, 1) := by decide +kernel
theorem dX7_isSpelt_36 : decode cX7_isSpelt 36 = .ok (.iload 4, 2) := by decide +kernel
theorem dX7_isSpelt_38 : decode cX7_isSpelt 38 = .ok (.invokevirtual 110, 3) := by decide +kernel
theorem dX7_isSpelt_41 : decode cX7_isSpelt 41 = .ok (.if_icmp .eq 5, 3) := by decide +kernel
theorem dX7_isSpelt_44 : decode cX7_isSpelt 44 = .ok (.iconst 0, 1) := by decide +kernel
theorem dX7_isSpelt_45 : decode cX7_isSpelt 45 = .ok (.ireturn, 1) := by decide +kernel
theorem dX7_isSpelt_46 : decode cX7_isSpelt 46 = .ok (.iinc 4 1, 3) := by decide +kernel
theorem dX7_isSpelt_49 : decode cX7_isSpelt 49 = .ok (.goto (-31), 3) := by decide +kernel
theorem dX7_isSpelt_52 : decode cX7_isSpelt 52 = .ok (.iconst 1, 1) := by decide +kernel
theorem dX7_isSpelt_53 : decode cX7_isSpelt 53 = .ok (.ireturn, 1) := by decide +kernel
theorem dX7_takeNumber_0 : decode cX7_takeNumber 0 = .ok (.aload_n 0, 1) := by decide +kernel
theorem dX7_takeNumber_1 : decode cX7_takeNumber 1 = .ok (.aload_n 1, 1) := by decide +kernel
theorem dX7_takeNumber_2 : decode cX7_takeNumber 2 = .ok (.invokevirtual 46, 3) := by decide +kernel
theorem dX7_takeNumber_5 : decode cX7_takeNumber 5 = .ok (.aload_n 0, 1) := by decide +kernel
theorem dX7_takeNumber_6 : decode cX7_takeNumber 6 = .ok (.getfield 37, 3) := by decide +kernel
theorem dX7_takeNumber_9 : decode cX7_takeNumber 9 = .ok (.istore_n 3, 1) := by decide +kernel
theorem dX7_takeNumber_10 : decode cX7_takeNumber 10 = .ok (.iconst 0, 1) := by decide +kernel
theorem dX7_takeNumber_11 : decode cX7_takeNumber 11 = .ok (.istore 4, 2) := by decide +kernel
theorem dX7_takeNumber_13 : decode cX7_takeNumber 13 = .ok (.aload_n 0, 1) := by decide +kernel
theorem dX7_takeNumber_14 : decode cX7_takeNumber 14 = .ok (.getfield 37, 3) := by decide +kernel
theorem dX7_takeNumber_17 : decode cX7_takeNumber 17 = .ok (.aload_n 1, 1) := by decide +kernel
theorem dX7_takeNumber_18 : decode cX7_takeNumber 18 = .ok (.getfield 50, 3) := by decide +kernel
theorem dX7_takeNumber_21 : decode cX7_takeNumber 21 = .ok (.if_icmp .ge 61, 3) := by decide +kernel
theorem dX7_takeNumber_24 : decode cX7_takeNumber 24 = .ok (.aload_n 1, 1) := by decide +kernel
theorem dX7_takeNumber_25 : decode cX7_takeNumber 25 = .ok (.aload_n 0, 1) := by decide +kernel
theorem dX7_takeNumber_26 : decode cX7_takeNumber 26 = .ok (.getfield 37, 3) := by decide +kernel
theorem dX7_takeNumber_29 : decode cX7_takeNumber 29 = .ok (.invokevirtual 58, 3) := by decide +kernel
theorem dX7_takeNumber_32 : decode cX7_takeNumber 32 = .ok (.bipush 48, 2) := by decide +kernel
theorem dX7_takeNumber_34 : decode cX7_takeNumber 34 = .ok (.if_icmp .lt 48, 3) := by decide +kernel
theorem dX7_takeNumber_37 : decode cX7_takeNumber 37 = .ok (.aload_n 1, 1) := by decide +kernel
theorem dX7_takeNumber_38 : decode cX7_takeNumber 38 = .ok (.aload_n 0, 1) := by decide +kernel
theorem dX7_takeNumber_39 : decode cX7_takeNumber 39 = .ok (.getfield 37, 3) := by decide +kernel
theorem dX7_takeNumber_42 : decode cX7_takeNumber 42 = .ok (.invokevirtual 58, 3) := by decide +kernel
theorem dX7_takeNumber_45 : decode cX7_takeNumber 45 = .ok (.bipush 57, 2) := by decide +kernel
theorem dX7_takeNumber_47 : decode cX7_takeNumber 47 = .ok (.if_icmp .gt 35, 3) := by decide +kernel
theorem dX7_takeNumber_50 : decode cX7_takeNumber 50 = .ok (.bipush 10, 2) := by decide +kernel
theorem dX7_takeNumber_52 : decode cX7_takeNumber 52 = .ok (.iload 4, 2) := by decide +kernel
theorem dX7_takeNumber_54 : decode cX7_takeNumber 54 = .ok (.imul, 1) := by decide +kernel
theorem dX7_takeNumber_55 : decode cX7_takeNumber 55 = .ok (.aload_n 1, 1) := by decide +kernel
theorem dX7_takeNumber_56 : decode cX7_takeNumber 56 = .ok (.aload_n 0, 1) := by decide +kernel
theorem dX7_takeNumber_57 : decode cX7_takeNumber 57 = .ok (.getfield 37, 3) := by decide +kernel
theorem dX7_takeNumber_60 : decode cX7_takeNumber 60 = .ok (.invokevirtual 58, 3) := by decide +kernel
theorem dX7_takeNumber_63 : decode cX7_takeNumber 63 = .ok (.iadd, 1) := by decide +kernel
theorem dX7_takeNumber_64 : decode cX7_takeNumber 64 = .ok (.bipush 48, 2) := by decide +kernel
theorem dX7_takeNumber_66 : decode cX7_takeNumber 66 = .ok (.isub, 1) := by decide +kernel
theorem dX7_takeNumber_67 : decode cX7_takeNumber 67 = .ok (.istore 4, 2) := by decide +kernel
theorem dX7_takeNumber_69 : decode cX7_takeNumber 69 = .ok (.aload_n 0, 1) := by decide +kernel
theorem dX7_takeNumber_70 : decode cX7_takeNumber 70 = .ok (.dup, 1) := by decide +kernel
theorem dX7_takeNumber_71 : decode cX7_takeNumber 71 = .ok (.getfield 37, 3) := by decide +kernel
theorem dX7_takeNumber_74 : decode cX7_takeNumber 74 = .ok (.iconst 1, 1) := by decide +kernel
theorem dX7_takeNumber_75 : decode cX7_takeNumber 75 = .ok (.iadd, 1) := by decide +kernel
theorem dX7_takeNumber_76 : decode cX7_takeNumber 76 = .ok (.putfield 37, 3) := by decide +kernel
theorem dX7_takeNumber_79 : decode cX7_takeNumber 79 = .ok (.goto (-66), 3) := by decide +kernel
theorem dX7_takeNumber_82 : decode cX7_takeNumber 82 = .ok (.aload_n 0, 1) := by decide +kernel
theorem dX7_takeNumber_83 : decode cX7_takeNumber 83 = .ok (.getfield 37, 3) := by decide +kernel
theorem dX7_takeNumber_86 : decode cX7_takeNumber 86 = .ok (.iload_n 3, 1) := by decide +kernel
theorem dX7_takeNumber_87 : decode cX7_takeNumber 87 = .ok (.if_icmp .ne 12, 3) := by decide +kernel
theorem dX7_takeNumber_90 : decode cX7_takeNumber 90 = .ok (.aload_n 0, 1) := by decide +kernel
theorem dX7_takeNumber_91 : decode cX7_takeNumber 91 = .ok (.iload_n 3, 1) := by decide +kernel
theorem dX7_takeNumber_92 : decode cX7_takeNumber 92 = .ok (.iconst 1, 1) := by decide +kernel
theorem dX7_takeNumber_93 : decode cX7_takeNumber 93 = .ok (.invokevirtual 69, 3) := by decide +kernel
theorem dX7_takeNumber_96 : decode cX7_takeNumber 96 = .ok (.goto 25, 3) := by decide +kernel
theorem dX7_takeNumber_99 : decode cX7_takeNumber 99 = .ok (.aload_n 0, 1) := by decide +kernel
theorem dX7_takeNumber_100 : decode cX7_takeNumber 100 = .ok (.getfield 37, 3) := by decide +kernel
theorem dX7_takeNumber_103 : decode cX7_takeNumber 103 = .ok (.iload_n 3, 1) := by decide +kernel
theorem dX7_takeNumber_104 : decode cX7_takeNumber 104 = .ok (.isub, 1) := by decide +kernel
theorem dX7_takeNumber_105 : decode cX7_takeNumber 105 = .ok (.iconst 4, 1) := by decide +kernel
theorem dX7_takeNumber_106 : decode cX7_takeNumber 106 = .ok (.if_icmp .gt 9, 3) := by decide +kernel
theorem dX7_takeNumber_109 : decode cX7_takeNumber 109 = .ok (.iload 4, 2) := by decide +kernel
theorem dX7_takeNumber_111 : decode cX7_takeNumber 111 = .ok (.iload_n 2, 1) := by decide +kernel
theorem dX7_takeNumber_112 : decode cX7_takeNumber 112 = .ok (.if_icmp .le 9, 3) := by decide +kernel
theorem dX7_takeNumber_115 : decode cX7_takeNumber 115 = .ok (.aload_n 0, 1) := by decide +kernel
theorem dX7_takeNumber_116 : decode cX7_takeNumber 116 = .ok (.iload_n 3, 1) := by decide +kernel
theorem dX7_takeNumber_117 : decode cX7_takeNumber 117 = .ok (.iconst 2, 1) := by decide +kernel
theorem dX7_takeNumber_118 : decode cX7_takeNumber 118 = .ok (.invokevirtual 69, 3) := by decide +kernel
theorem dX7_takeNumber_121 : decode cX7_takeNumber 121 = .ok (.iload 4, 2) := by decide +kernel
theorem dX7_takeNumber_123 : decode cX7_takeNumber 123 = .ok (.ireturn, 1) := by decide +kernel
theorem dX7_takeSign_0 : decode cX7_takeSign 0 = .ok (.aload_n 0, 1) := by decide +kernel
theorem dX7_takeSign_1 : decode cX7_takeSign 1 = .ok (.aload_n 1, 1) := by decide +kernel
theorem dX7_takeSign_2 : decode cX7_takeSign 2 = .ok (.invokevirtual 46, 3) := by decide +kernel
theorem dX7_takeSign_5 : decode cX7_takeSign 5 = .ok (.aload_n 1, 1) := by decide +kernel
theorem dX7_takeSign_6 : decode cX7_takeSign 6 = .ok (.aload_n 0, 1) := by decide +kernel
theorem dX7_takeSign_7 : decode cX7_takeSign 7 = .ok (.getfield 37, 3) := by decide +kernel
theorem dX7_takeSign_10 : decode cX7_takeSign 10 = .ok (.invokevirtual 58, 3) := by decide +kernel
theorem dX7_takeSign_13 : decode cX7_takeSign 13 = .ok (.iload_n 2, 1) := by decide +kernel
theorem dX7_takeSign_14 : decode cX7_takeSign 14 = .ok (.if_icmp .ne 16, 3) := by decide +kernel
theorem dX7_takeSign_17 : decode cX7_takeSign 17 = .ok (.aload_n 0, 1) := by decide +kernel
theorem dX7_takeSign_18 : decode cX7_takeSign 18 = .ok (.dup, 1) := by decide +kernel
theorem dX7_takeSign_19 : decode cX7_takeSign 19 = .ok (.getfield 37, 3) := by decide +kernel
theorem dX7_takeSign_22 : decode cX7_takeSign 22 = .ok (.iconst 1, 1) := by decide +kernel
theorem dX7_takeSign_23 : decode cX7_takeSign 23 = .ok (.iadd, 1) := by decide +kernel
theorem dX7_takeSign_24 : decode cX7_takeSign 24 = .ok (.putfield 37, 3) := by decide +kernel
theorem dX7_takeSign_27 : decode cX7_takeSign 27 = .ok (.goto 12, 3) := by decide +kernel
theorem dX7_takeSign_30 : decode cX7_takeSign 30 = .ok (.aload_n 0, 1) := by decide +kernel
theorem dX7_takeSign_31 : decode cX7_takeSign 31 = .ok (.aload_n 0, 1) := by decide +kernel
theorem dX7_takeSign_32 : decode cX7_takeSign 32 = .ok (.getfield 37, 3) := by decide +kernel
theorem dX7_takeSign_35 : decode cX7_takeSign 35 = .ok (.iconst 1, 1) := by decide +kernel
theorem dX7_takeSign_36 : decode cX7_takeSign 36 = .ok (.invokevirtual 69, 3) := by decide +kernel
theorem dX7_takeSign_39 : decode cX7_takeSign 39 = .ok (.return_, 1) := by decide +kernel
theorem dX7_nextDeed_0 : decode cX7_nextDeed 0 = .ok (.iconst 0, 1) := by decide +kernel
theorem dX7_nextDeed_1 : decode cX7_nextDeed 1 = .ok (.istore_n 1, 1) := by decide +kernel
theorem dX7_nextDeed_2 : decode cX7_nextDeed 2 = .ok (.iload_n 1, 1) := by decide +kernel
theorem dX7_nextDeed_3 : decode cX7_nextDeed 3 = .ok (.sipush 240, 3) := by decide +kernel
theorem dX7_nextDeed_6 : decode cX7_nextDeed 6 = .ok (.if_icmp .ge 109, 3) := by decide +kernel
theorem dX7_nextDeed_9 : decode cX7_nextDeed 9 = .ok (.aload_n 0, 1) := by decide +kernel
theorem dX7_nextDeed_10 : decode cX7_nextDeed 10 = .ok (.dup, 1) := by decide +kernel
theorem dX7_nextDeed_11 : decode cX7_nextDeed 11 = .ok (.getfield 43, 3) := by decide +kernel
theorem dX7_nextDeed_14 : decode cX7_nextDeed 14 = .ok (.iconst 1, 1) := by decide +kernel
theorem dX7_nextDeed_15 : decode cX7_nextDeed 15 = .ok (.iadd, 1) := by decide +kernel
theorem dX7_nextDeed_16 : decode cX7_nextDeed 16 = .ok (.putfield 43, 3) := by decide +kernel
theorem dX7_nextDeed_19 : decode cX7_nextDeed 19 = .ok (.aload_n 0, 1) := by decide +kernel
theorem dX7_nextDeed_20 : decode cX7_nextDeed 20 = .ok (.getfield 43, 3) := by decide +kernel
theorem dX7_nextDeed_23 : decode cX7_nextDeed 23 = .ok (.ifCond .lt 14, 3) := by decide +kernel
theorem dX7_nextDeed_26 : decode cX7_nextDeed 26 = .ok (.aload_n 0, 1) := by decide +kernel
theorem dX7_nextDeed_27 : decode cX7_nextDeed 27 = .ok (.getfield 43, 3) := by decide +kernel
theorem dX7_nextDeed_30 : decode cX7_nextDeed 30 = .ok (.aload_n 0, 1) := by decide +kernel
theorem dX7_nextDeed_31 : decode cX7_nextDeed 31 = .ok (.getfield 34, 3) := by decide +kernel
theorem dX7_nextDeed_34 : decode cX7_nextDeed 34 = .ok (.if_icmp .lt 5, 3) := by decide +kernel
theorem dX7_nextDeed_37 : decode cX7_nextDeed 37 = .ok (.aconst_null, 1) := by decide +kernel
theorem dX7_nextDeed_38 : decode cX7_nextDeed 38 = .ok (.areturn, 1) := by decide +kernel
theorem dX7_nextDeed_39 : decode cX7_nextDeed 39 = .ok (.aload_n 0, 1) := by decide +kernel
theorem dX7_nextDeed_40 : decode cX7_nextDeed 40 = .ok (.getfield 11, 3) := by decide +kernel
theorem dX7_nextDeed_43 : decode cX7_nextDeed 43 = .ok (.aload_n 0, 1) := by decide +kernel
theorem dX7_nextDeed_44 : decode cX7_nextDeed 44 = .ok (.getfield 43, 3) := by decide +kernel
theorem dX7_nextDeed_47 : decode cX7_nextDeed 47 = .ok (.aaload, 1) := by decide +kernel
theorem dX7_nextDeed_48 : decode cX7_nextDeed 48 = .ok (.getstatic 73, 3) := by decide +kernel
theorem dX7_nextDeed_51 : decode cX7_nextDeed 51 = .ok (.if_acmp .ne 26, 3) := by decide +kernel
theorem dX7_nextDeed_54 : decode cX7_nextDeed 54 = .ok (.aload_n 0, 1) := by decide +kernel
theorem dX7_nextDeed_55 : decode cX7_nextDeed 55 = .ok (.getfield 24, 3) := by decide +kernel
theorem dX7_nextDeed_58 : decode cX7_nextDeed 58 = .ok (.aload_n 0, 1) := by decide +kernel
theorem dX7_nextDeed_59 : decode cX7_nextDeed 59 = .ok (.getfield 43, 3) := by decide +kernel
theorem dX7_nextDeed_62 : decode cX7_nextDeed 62 = .ok (.aload_n 0, 1) := by decide +kernel
theorem dX7_nextDeed_63 : decode cX7_nextDeed 63 = .ok (.getfield 17, 3) := by decide +kernel
theorem dX7_nextDeed_66 : decode cX7_nextDeed 66 = .ok (.aload_n 0, 1) := by decide +kernel
theorem dX7_nextDeed_67 : decode cX7_nextDeed 67 = .ok (.getfield 43, 3) := by decide +kernel
theorem dX7_nextDeed_70 : decode cX7_nextDeed 70 = .ok (.iconst 3, 1) := by decide +kernel
theorem dX7_nextDeed_71 : decode cX7_nextDeed 71 = .ok (.imul, 1) := by decide +kernel
theorem dX7_nextDeed_72 : decode cX7_nextDeed 72 = .ok (.iaload, 1) := by decide +kernel
theorem dX7_nextDeed_73 : decode cX7_nextDeed 73 = .ok (.iastore, 1) := by decide +kernel
theorem dX7_nextDeed_74 : decode cX7_nextDeed 74 = .ok (.goto 35, 3) := by decide +kernel
theorem dX7_nextDeed_77 : decode cX7_nextDeed 77 = .ok (.aload_n 0, 1) := by decide +kernel
theorem dX7_nextDeed_78 : decode cX7_nextDeed 78 = .ok (.getfield 11, 3) := by decide +kernel
theorem dX7_nextDeed_81 : decode cX7_nextDeed 81 = .ok (.aload_n 0, 1) := by decide +kernel
theorem dX7_nextDeed_82 : decode cX7_nextDeed 82 = .ok (.getfield 43, 3) := by decide +kernel
theorem dX7_nextDeed_85 : decode cX7_nextDeed 85 = .ok (.aaload, 1) := by decide +kernel
theorem dX7_nextDeed_86 : decode cX7_nextDeed 86 = .ok (.getstatic 91, 3) := by decide +kernel
theorem dX7_nextDeed_89 : decode cX7_nextDeed 89 = .ok (.if_acmp .ne 10, 3) := by decide +kernel
theorem dX7_nextDeed_92 : decode cX7_nextDeed 92 = .ok (.aload_n 0, 1) := by decide +kernel
theorem dX7_nextDeed_93 : decode cX7_nextDeed 93 = .ok (.invokevirtual 114, 3) := by decide +kernel
theorem dX7_nextDeed_96 : decode cX7_nextDeed 96 = .ok (.goto 13, 3) := by decide +kernel
theorem dX7_nextDeed_99 : decode cX7_nextDeed 99 = .ok (.aload_n 0, 1) := by decide +kernel
theorem dX7_nextDeed_100 : decode cX7_nextDeed 100 = .ok (.getfield 11, 3) := by decide +kernel
theorem dX7_nextDeed_103 : decode cX7_nextDeed 103 = .ok (.aload_n 0, 1) := by decide +kernel
theorem dX7_nextDeed_104 : decode cX7_nextDeed 104 = .ok (.getfield 43, 3) := by decide +kernel
theorem dX7_nextDeed_107 : decode cX7_nextDeed 107 = .ok (.aaload, 1) := by decide +kernel
theorem dX7_nextDeed_108 : decode cX7_nextDeed 108 = .ok (.areturn, 1) := by decide +kernel
theorem dX7_nextDeed_109 : decode cX7_nextDeed 109 = .ok (.iinc 1 1, 3) := by decide +kernel
theorem dX7_nextDeed_112 : decode cX7_nextDeed 112 = .ok (.goto (-110), 3) := by decide +kernel
theorem dX7_nextDeed_115 : decode cX7_nextDeed 115 = .ok (.aconst_null, 1) := by decide +kernel
theorem dX7_nextDeed_116 : decode cX7_nextDeed 116 = .ok (.areturn, 1) := by decide +kernel
theorem dX7_endRound_0 : decode cX7_endRound 0 = .ok (.aload_n 0, 1) := by decide +kernel
theorem dX7_endRound_1 : decode cX7_endRound 1 = .ok (.getfield 21, 3) := by decide +kernel
theorem dX7_endRound_4 : decode cX7_endRound 4 = .ok (.aload_n 0, 1) := by decide +kernel
theorem dX7_endRound_5 : decode cX7_endRound 5 = .ok (.getfield 43, 3) := by decide +kernel
theorem dX7_endRound_8 : decode cX7_endRound 8 = .ok (.iaload, 1) := by decide +kernel
theorem dX7_endRound_9 : decode cX7_endRound 9 = .ok (.istore_n 1, 1) := by decide +kernel
theorem dX7_endRound_10 : decode cX7_endRound 10 = .ok (.aload_n 0, 1) := by decide +kernel
theorem dX7_endRound_11 : decode cX7_endRound 11 = .ok (.getfield 24, 3) := by decide +kernel
theorem dX7_endRound_14 : decode cX7_endRound 14 = .ok (.iload_n 1, 1) := by decide +kernel
theorem dX7_endRound_15 : decode cX7_endRound 15 = .ok (.dup2, 1) := by decide +kernel
theorem dX7_endRound_16 : decode cX7_endRound 16 = .ok (.iaload, 1) := by decide +kernel
theorem dX7_endRound_17 : decode cX7_endRound 17 = .ok (.iconst 1, 1) := by decide +kernel
theorem dX7_endRound_18 : decode cX7_endRound 18 = .ok (.isub, 1) := by decide +kernel
theorem dX7_endRound_19 : decode cX7_endRound 19 = .ok (.iastore, 1) := by decide +kernel
theorem dX7_endRound_20 : decode cX7_endRound 20 = .ok (.aload_n 0, 1) := by decide +kernel
theorem dX7_endRound_21 : decode cX7_endRound 21 = .ok (.getfield 24, 3) := by decide +kernel
theorem dX7_endRound_24 : decode cX7_endRound 24 = .ok (.iload_n 1, 1) := by decide +kernel
theorem dX7_endRound_25 : decode cX7_endRound 25 = .ok (.iaload, 1) := by decide +kernel
theorem dX7_endRound_26 : decode cX7_endRound 26 = .ok (.ifCond .le 8, 3) := by decide +kernel
theorem dX7_endRound_29 : decode cX7_endRound 29 = .ok (.aload_n 0, 1) := by decide +kernel
theorem dX7_endRound_30 : decode cX7_endRound 30 = .ok (.iload_n 1, 1) := by decide +kernel
theorem dX7_endRound_31 : decode cX7_endRound 31 = .ok (.putfield 43, 3) := by decide +kernel
theorem dX7_endRound_34 : decode cX7_endRound 34 = .ok (.return_, 1) := by decide +kernel
theorem dX7_number_0 : decode cX7_number 0 = .ok (.aload_n 0, 1) := by decide +kernel
theorem dX7_number_1 : decode cX7_number 1 = .ok (.getfield 43, 3) := by decide +kernel
theorem dX7_number_4 : decode cX7_number 4 = .ok (.iconst 3, 1) := by decide +kernel
theorem dX7_number_5 : decode cX7_number 5 = .ok (.imul, 1) := by decide +kernel
theorem dX7_number_6 : decode cX7_number 6 = .ok (.iload_n 1, 1) := by decide +kernel
theorem dX7_number_7 : decode cX7_number 7 = .ok (.iadd, 1) := by decide +kernel
theorem dX7_number_8 : decode cX7_number 8 = .ok (.istore_n 2, 1) := by decide +kernel
theorem dX7_number_9 : decode cX7_number 9 = .ok (.iload_n 2, 1) := by decide +kernel
theorem dX7_number_10 : decode cX7_number 10 = .ok (.ifCond .lt 12, 3) := by decide +kernel
theorem dX7_number_13 : decode cX7_number 13 = .ok (.iload_n 2, 1) := by decide +kernel
theorem dX7_number_14 : decode cX7_number 14 = .ok (.aload_n 0, 1) := by decide +kernel
theorem dX7_number_15 : decode cX7_number 15 = .ok (.getfield 17, 3) := by decide +kernel
theorem dX7_number_18 : decode cX7_number 18 = .ok (.arraylength, 1) := by decide +kernel
theorem dX7_number_19 : decode cX7_number 19 = .ok (.if_icmp .lt 7, 3) := by decide +kernel
theorem dX7_number_22 : decode cX7_number 22 = .ok (.iconst 0, 1) := by decide +kernel
theorem dX7_number_23 : decode cX7_number 23 = .ok (.goto 9, 3) := by decide +kernel
theorem dX7_number_26 : decode cX7_number 26 = .ok (.aload_n 0, 1) := by decide +kernel
theorem dX7_number_27 : decode cX7_number 27 = .ok (.getfield 17, 3) := by decide +kernel
theorem dX7_number_30 : decode cX7_number 30 = .ok (.iload_n 2, 1) := by decide +kernel
theorem dX7_number_31 : decode cX7_number 31 = .ok (.iaload, 1) := by decide +kernel
theorem dX7_number_32 : decode cX7_number 32 = .ok (.ireturn, 1) := by decide +kernel
theorem dX10_init_0 : decode cX10_init 0 = .ok (.aload_n 0, 1) := by decide +kernel
theorem dX10_init_1 : decode cX10_init 1 = .ok (.invokespecial 1, 3) := by decide +kernel
theorem dX10_init_4 : decode cX10_init 4 = .ok (.aload_n 0, 1) := by decide +kernel
theorem dX10_init_5 : decode cX10_init 5 = .ok (.new 7, 3) := by decide +kernel
theorem dX10_init_8 : decode cX10_init 8 = .ok (.dup, 1) := by decide +kernel
theorem dX10_init_9 : decode cX10_init 9 = .ok (.invokespecial 9, 3) := by decide +kernel
theorem dX10_init_12 : decode cX10_init 12 = .ok (.putfield 10, 3) := by decide +kernel
theorem dX10_init_15 : decode cX10_init 15 = .ok (.aload_n 0, 1) := by decide +kernel
theorem dX10_init_16 : decode cX10_init 16 = .ok (.new 7, 3) := by decide +kernel
theorem dX10_init_19 : decode cX10_init 19 = .ok (.dup, 1) := by decide +kernel
theorem dX10_init_20 : decode cX10_init 20 = .ok (.invokespecial 9, 3) := by decide +kernel
theorem dX10_init_23 : decode cX10_init 23 = .ok (.putfield 16, 3) := by decide +kernel
theorem dX10_init_26 : decode cX10_init 26 = .ok (.aload_n 0, 1) := by decide +kernel
theorem dX10_init_27 : decode cX10_init 27 = .ok (.iconst 2, 1) := by decide +kernel
theorem dX10_init_28 : decode cX10_init 28 = .ok (.anewarray 7, 3) := by decide +kernel
theorem dX10_init_31 : decode cX10_init 31 = .ok (.putfield 19, 3) := by decide +kernel
theorem dX10_init_34 : decode cX10_init 34 = .ok (.aload_n 0, 1) := by decide +kernel
theorem dX10_init_35 : decode cX10_init 35 = .ok (.iconst 2, 1) := by decide +kernel
theorem dX10_init_36 : decode cX10_init 36 = .ok (.newarray .boolean, 2) := by decide +kernel
theorem dX10_init_38 : decode cX10_init 38 = .ok (.putfield 23, 3) := by decide +kernel
theorem dX10_init_41 : decode cX10_init 41 = .ok (.aload_n 0, 1) := by decide +kernel
theorem dX10_init_42 : decode cX10_init 42 = .ok (.new 27, 3) := by decide +kernel
theorem dX10_init_45 : decode cX10_init 45 = .ok (.dup, 1) := by decide +kernel
theorem dX10_init_46 : decode cX10_init 46 = .ok (.invokespecial 29, 3) := by decide +kernel
theorem dX10_init_49 : decode cX10_init 49 = .ok (.putfield 30, 3) := by decide +kernel
theorem dX10_init_52 : decode cX10_init 52 = .ok (.aload_n 0, 1) := by decide +kernel
theorem dX10_init_53 : decode cX10_init 53 = .ok (.new 27, 3) := by decide +kernel
theorem dX10_init_56 : decode cX10_init 56 = .ok (.dup, 1) := by decide +kernel
theorem dX10_init_57 : decode cX10_init 57 = .ok (.invokespecial 29, 3) := by decide +kernel
theorem dX10_init_60 : decode cX10_init 60 = .ok (.putfield 34, 3) := by decide +kernel
theorem dX10_init_63 : decode cX10_init 63 = .ok (.aload_n 0, 1) := by decide +kernel
theorem dX10_init_64 : decode cX10_init 64 = .ok (.new 37, 3) := by decide +kernel
theorem dX10_init_67 : decode cX10_init 67 = .ok (.dup, 1) := by decide +kernel
theorem dX10_init_68 : decode cX10_init 68 = .ok (.invokespecial 39, 3) := by decide +kernel
theorem dX10_init_71 : decode cX10_init 71 = .ok (.putfield 40, 3) := by decide +kernel
theorem dX10_init_74 : decode cX10_init 74 = .ok (.aload_n 0, 1) := by decide +kernel
theorem dX10_init_75 : decode cX10_init 75 = .ok (.new 44, 3) := by decide +kernel
theorem dX10_init_78 : decode cX10_init 78 = .ok (.dup, 1) := by decide +kernel
theorem dX10_init_79 : decode cX10_init 79 = .ok (.invokespecial 46, 3) := by decide +kernel
theorem dX10_init_82 : decode cX10_init 82 = .ok (.putfield 47, 3) := by decide +kernel
theorem dX10_init_85 : decode cX10_init 85 = .ok (.iconst 0, 1) := by decide +kernel
theorem dX10_init_86 : decode cX10_init 86 = .ok (.istore_n 1, 1) := by decide +kernel
theorem dX10_init_87 : decode cX10_init 87 = .ok (.iload_n 1, 1) := by decide +kernel
theorem dX10_init_88 : decode cX10_init 88 = .ok (.iconst 2, 1) := by decide +kernel
theorem dX10_init_89 : decode cX10_init 89 = .ok (.if_icmp .ge 22, 3) := by decide +kernel
theorem dX10_init_92 : decode cX10_init 92 = .ok (.aload_n 0, 1) := by decide +kernel
theorem dX10_init_93 : decode cX10_init 93 = .ok (.getfield 19, 3) := by decide +kernel
theorem dX10_init_96 : decode cX10_init 96 = .ok (.iload_n 1, 1) := by decide +kernel
theorem dX10_init_97 : decode cX10_init 97 = .ok (.new 7, 3) := by decide +kernel
theorem dX10_init_100 : decode cX10_init 100 = .ok (.dup, 1) := by decide +kernel
theorem dX10_init_101 : decode cX10_init 101 = .ok (.invokespecial 9, 3) := by decide +kernel
theorem dX10_init_104 : decode cX10_init 104 = .ok (.aastore, 1) := by decide +kernel
theorem dX10_init_105 : decode cX10_init 105 = .ok (.iinc 1 1, 3) := by decide +kernel
theorem dX10_init_108 : decode cX10_init 108 = .ok (.goto (-21), 3) := by decide +kernel
theorem dX10_init_111 : decode cX10_init 111 = .ok (.return_, 1) := by decide +kernel
theorem dX10_make_0 : decode cX10_make 0 = .ok (.iload_n 1, 1) := by decide +kernel
theorem dX10_make_1 : decode cX10_make 1 = .ok (.iconst 3, 1) := by decide +kernel
theorem dX10_make_2 : decode cX10_make 2 = .ok (.if_icmp .lt 20, 3) := by decide +kernel
theorem dX10_make_5 : decode cX10_make 5 = .ok (.iload_n 1, 1) := by decide +kernel
theorem dX10_make_6 : decode cX10_make 6 = .ok (.bipush 7, 2) := by decide +kernel
theorem dX10_make_8 : decode cX10_make 8 = .ok (.if_icmp .ge 14, 3) := by decide +kernel
theorem dX10_make_11 : decode cX10_make 11 = .ok (.iload_n 2, 1) := by decide +kernel
theorem dX10_make_12 : decode cX10_make 12 = .ok (.iconst 4, 1) := by decide +kernel
theorem dX10_make_13 : decode cX10_make 13 = .ok (.if_icmp .lt 9, 3) := by decide +kernel
theorem dX10_make_16 : decode cX10_make 16 = .ok (.iload_n 2, 1) := by decide +kernel
theorem dX10_make_17 : decode cX10_make 17 = .ok (.bipush 40, 2) := by decide +kernel
theorem dX10_make_19 : decode cX10_make 19 = .ok (.if_icmp .le 5, 3) := by decide +kernel
theorem dX10_make_22 : decode cX10_make 22 = .ok (.iconst (-1), 1) := by decide +kernel
theorem dX10_make_23 : decode cX10_make 23 = .ok (.ireturn, 1) := by decide +kernel
theorem dX10_make_24 : decode cX10_make 24 = .ok (.aload_n 0, 1) := by decide +kernel
theorem dX10_make_25 : decode cX10_make 25 = .ok (.getfield 10, 3) := by decide +kernel
theorem dX10_make_28 : decode cX10_make 28 = .ok (.iload_n 1, 1) := by decide +kernel
theorem dX10_make_29 : decode cX10_make 29 = .ok (.iload_n 2, 1) := by decide +kernel
theorem dX10_make_30 : decode cX10_make 30 = .ok (.invokevirtual 51, 3) := by decide +kernel
theorem dX10_make_33 : decode cX10_make 33 = .ok (.aload_n 0, 1) := by decide +kernel
theorem dX10_make_34 : decode cX10_make 34 = .ok (.getfield 30, 3) := by decide +kernel
theorem dX10_make_37 : decode cX10_make 37 = .ok (.invokevirtual 55, 3) := by decide +kernel
theorem dX10_make_40 : decode cX10_make 40 = .ok (.iconst 0, 1) := by decide +kernel
theorem dX10_make_41 : decode cX10_make 41 = .ok (.istore_n 3, 1) := by decide +kernel
theorem dX10_make_42 : decode cX10_make 42 = .ok (.iload_n 3, 1) := by decide +kernel
theorem dX10_make_43 : decode cX10_make 43 = .ok (.iconst 2, 1) := by decide +kernel
theorem dX10_make_44 : decode cX10_make 44 = .ok (.if_icmp .ge 16, 3) := by decide +kernel
theorem dX10_make_47 : decode cX10_make 47 = .ok (.aload_n 0, 1) := by decide +kernel
theorem dX10_make_48 : decode cX10_make 48 = .ok (.getfield 23, 3) := by decide +kernel
theorem dX10_make_51 : decode cX10_make 51 = .ok (.iload_n 3, 1) := by decide +kernel
theorem dX10_make_52 : decode cX10_make 52 = .ok (.iconst 0, 1) := by decide +kernel
theorem dX10_make_53 : decode cX10_make 53 = .ok (.bastore, 1) := by decide +kernel
theorem dX10_make_54 : decode cX10_make 54 = .ok (.iinc 3 1, 3) := by decide +kernel
theorem dX10_make_57 : decode cX10_make 57 = .ok (.goto (-15), 3) := by decide +kernel
theorem dX10_make_60 : decode cX10_make 60 = .ok (.aload_n 0, 1) := by decide +kernel
theorem dX10_make_61 : decode cX10_make 61 = .ok (.getfield 10, 3) := by decide +kernel
theorem dX10_make_64 : decode cX10_make 64 = .ok (.invokevirtual 58, 3) := by decide +kernel
theorem dX10_make_67 : decode cX10_make 67 = .ok (.ireturn, 1) := by decide +kernel
theorem dX10_set_0 : decode cX10_set 0 = .ok (.iload_n 1, 1) := by decide +kernel
theorem dX10_set_1 : decode cX10_set 1 = .ok (.tableswitch 54 0 2 #[27, 36, 45], 27) := by decide +kernel
theorem dX10_set_28 : decode cX10_set 28 = .ok (.aload_n 0, 1) := by decide +kernel
theorem dX10_set_29 : decode cX10_set 29 = .ok (.getfield 10, 3) := by decide +kernel
theorem dX10_set_32 : decode cX10_set 32 = .ok (.iload_n 2, 1) := by decide +kernel
theorem dX10_set_33 : decode cX10_set 33 = .ok (.invokevirtual 62, 3) := by decide +kernel
theorem dX10_set_36 : decode cX10_set 36 = .ok (.ireturn, 1) := by decide +kernel
theorem dX10_set_37 : decode cX10_set 37 = .ok (.aload_n 0, 1) := by decide +kernel
theorem dX10_set_38 : decode cX10_set 38 = .ok (.getfield 10, 3) := by decide +kernel
theorem dX10_set_41 : decode cX10_set 41 = .ok (.iload_n 2, 1) := by decide +kernel
theorem dX10_set_42 : decode cX10_set 42 = .ok (.invokevirtual 66, 3) := by decide +kernel
theorem dX10_set_45 : decode cX10_set 45 = .ok (.ireturn, 1) := by decide +kernel
theorem dX10_set_46 : decode cX10_set 46 = .ok (.aload_n 0, 1) := by decide +kernel
theorem dX10_set_47 : decode cX10_set 47 = .ok (.getfield 10, 3) := by decide +kernel
theorem dX10_set_50 : decode cX10_set 50 = .ok (.iload_n 2, 1) := by decide +kernel
theorem dX10_set_51 : decode cX10_set 51 = .ok (.invokevirtual 69, 3) := by decide +kernel
theorem dX10_set_54 : decode cX10_set 54 = .ok (.ireturn, 1) := by decide +kernel
theorem dX10_set_55 : decode cX10_set 55 = .ok (.iconst (-1), 1) := by decide +kernel
theorem dX10_set_56 : decode cX10_set 56 = .ok (.ireturn, 1) := by decide +kernel
theorem dX10_grow_0 : decode cX10_grow 0 = .ok (.aload_n 0, 1) := by decide +kernel
theorem dX10_grow_1 : decode cX10_grow 1 = .ok (.getfield 10, 3) := by decide +kernel
theorem dX10_grow_4 : decode cX10_grow 4 = .ok (.invokevirtual 72, 3) := by decide +kernel
theorem dX10_grow_7 : decode cX10_grow 7 = .ok (.ireturn, 1) := by decide +kernel
theorem dX10_steps_0 : decode cX10_steps 0 = .ok (.aload_n 0, 1) := by decide +kernel
theorem dX10_steps_1 : decode cX10_steps 1 = .ok (.getfield 10, 3) := by decide +kernel
theorem dX10_steps_4 : decode cX10_steps 4 = .ok (.iload_n 1, 1) := by decide +kernel
theorem dX10_steps_5 : decode cX10_steps 5 = .ok (.invokevirtual 75, 3) := by decide +kernel
theorem dX10_steps_8 : decode cX10_steps 8 = .ok (.ireturn, 1) := by decide +kernel
theorem dX10_crash_0 : decode cX10_crash 0 = .ok (.aload_n 0, 1) := by decide +kernel
theorem dX10_crash_1 : decode cX10_crash 1 = .ok (.getfield 10, 3) := by decide +kernel
theorem dX10_crash_4 : decode cX10_crash 4 = .ok (.invokevirtual 78, 3) := by decide +kernel
theorem dX10_crash_7 : decode cX10_crash 7 = .ok (.ireturn, 1) := by decide +kernel
theorem dX10_read_0 : decode cX10_read 0 = .ok (.aload_n 0, 1) := by decide +kernel
theorem dX10_read_1 : decode cX10_read 1 = .ok (.getfield 10, 3) := by decide +kernel
theorem dX10_read_4 : decode cX10_read 4 = .ok (.iload_n 1, 1) := by decide +kernel
theorem dX10_read_5 : decode cX10_read 5 = .ok (.invokevirtual 82, 3) := by decide +kernel
theorem dX10_read_8 : decode cX10_read 8 = .ok (.ifCond .eq 14, 3) := by decide +kernel
theorem dX10_read_11 : decode cX10_read 11 = .ok (.aload_n 0, 1) := by decide +kernel
theorem dX10_read_12 : decode cX10_read 12 = .ok (.getfield 10, 3) := by decide +kernel
theorem dX10_read_15 : decode cX10_read 15 = .ok (.iload_n 1, 1) := by decide +kernel
theorem dX10_read_16 : decode cX10_read 16 = .ok (.invokevirtual 86, 3) := by decide +kernel
theorem dX10_read_19 : decode cX10_read 19 = .ok (.ifCond .ne 11, 3) := by decide +kernel
theorem dX10_read_22 : decode cX10_read 22 = .ok (.new 89, 3) := by decide +kernel
theorem dX10_read_25 : decode cX10_read 25 = .ok (.dup, 1) := by decide +kernel
theorem dX10_read_26 : decode cX10_read 26 = .ok (.invokespecial 91, 3) := by decide +kernel
theorem dX10_read_29 : decode cX10_read 29 = .ok (.athrow, 1) := by decide +kernel
theorem dX10_read_30 : decode cX10_read 30 = .ok (.aload_n 0, 1) := by decide +kernel
theorem dX10_read_31 : decode cX10_read 31 = .ok (.getfield 10, 3) := by decide +kernel
theorem dX10_read_34 : decode cX10_read 34 = .ok (.iload_n 1, 1) := by decide +kernel
theorem dX10_read_35 : decode cX10_read 35 = .ok (.invokevirtual 92, 3) := by decide +kernel
theorem dX10_read_38 : decode cX10_read 38 = .ok (.ireturn, 1) := by decide +kernel
theorem dX10_write_0 : decode cX10_write 0 = .ok (.aload_n 0, 1) := by decide +kernel
theorem dX10_write_1 : decode cX10_write 1 = .ok (.getfield 10, 3) := by decide +kernel
theorem dX10_write_4 : decode cX10_write 4 = .ok (.iload_n 1, 1) := by decide +kernel
theorem dX10_write_5 : decode cX10_write 5 = .ok (.iload_n 2, 1) := by decide +kernel
theorem dX10_write_6 : decode cX10_write 6 = .ok (.invokevirtual 95, 3) := by decide +kernel
theorem dX10_write_9 : decode cX10_write 9 = .ok (.ireturn, 1) := by decide +kernel
theorem dX10_fill_0 : decode cX10_fill 0 = .ok (.aload_n 0, 1) := by decide +kernel
theorem dX10_fill_1 : decode cX10_fill 1 = .ok (.getfield 10, 3) := by decide +kernel
theorem dX10_fill_4 : decode cX10_fill 4 = .ok (.iload_n 1, 1) := by decide +kernel
theorem dX10_fill_5 : decode cX10_fill 5 = .ok (.iload_n 2, 1) := by decide +kernel
theorem dX10_fill_6 : decode cX10_fill 6 = .ok (.iload_n 3, 1) := by decide +kernel
theorem dX10_fill_7 : decode cX10_fill 7 = .ok (.invokevirtual 99, 3) := by decide +kernel
theorem dX10_fill_10 : decode cX10_fill 10 = .ok (.ireturn, 1) := by decide +kernel
theorem dX10_lose_0 : decode cX10_lose 0 = .ok (.aload_n 0, 1) := by decide +kernel
theorem dX10_lose_1 : decode cX10_lose 1 = .ok (.getfield 10, 3) := by decide +kernel
theorem dX10_lose_4 : decode cX10_lose 4 = .ok (.getfield 103, 3) := by decide +kernel
theorem dX10_lose_7 : decode cX10_lose 7 = .ok (.iload_n 1, 1) := by decide +kernel
theorem dX10_lose_8 : decode cX10_lose 8 = .ok (.invokevirtual 107, 3) := by decide +kernel
theorem dX10_lose_11 : decode cX10_lose 11 = .ok (.ireturn, 1) := by decide +kernel
theorem dX10_replace_0 : decode cX10_replace 0 = .ok (.aload_n 0, 1) := by decide +kernel
theorem dX10_replace_1 : decode cX10_replace 1 = .ok (.getfield 10, 3) := by decide +kernel
theorem dX10_replace_4 : decode cX10_replace 4 = .ok (.invokevirtual 112, 3) := by decide +kernel
theorem dX10_replace_7 : decode cX10_replace 7 = .ok (.ireturn, 1) := by decide +kernel
theorem dX10_bad_0 : decode cX10_bad 0 = .ok (.aload_n 0, 1) := by decide +kernel
theorem dX10_bad_1 : decode cX10_bad 1 = .ok (.getfield 10, 3) := by decide +kernel
theorem dX10_bad_4 : decode cX10_bad 4 = .ok (.getfield 103, 3) := by decide +kernel
theorem dX10_bad_7 : decode cX10_bad 7 = .ok (.iload_n 1, 1) := by decide +kernel
theorem dX10_bad_8 : decode cX10_bad 8 = .ok (.iload_n 2, 1) := by decide +kernel
theorem dX10_bad_9 : decode cX10_bad 9 = .ok (.invokevirtual 115, 3) := by decide +kernel
theorem dX10_bad_12 : decode cX10_bad 12 = .ok (.ireturn, 1) := by decide +kernel
theorem dX10_ask_0 : decode cX10_ask 0 = .ok (.aload_n 0, 1) := by decide +kernel
theorem dX10_ask_1 : decode cX10_ask 1 = .ok (.getfield 10, 3) := by decide +kernel
theorem dX10_ask_4 : decode cX10_ask 4 = .ok (.iload_n 2, 1) := by decide +kernel
theorem dX10_ask_5 : decode cX10_ask 5 = .ok (.invokevirtual 82, 3) := by decide +kernel
theorem dX10_ask_8 : decode cX10_ask 8 = .ok (.ifCond .eq 21, 3) := by decide +kernel
theorem dX10_ask_11 : decode cX10_ask 11 = .ok (.aload_n 0, 1) := by decide +kernel
theorem dX10_ask_12 : decode cX10_ask 12 = .ok (.getfield 10, 3) := by decide +kernel
theorem dX10_ask_15 : decode cX10_ask 15 = .ok (.getfield 119, 3) := by decide +kernel
theorem dX10_ask_18 : decode cX10_ask 18 = .ok (.iload_n 1, 1) := by decide +kernel
theorem dX10_ask_19 : decode cX10_ask 19 = .ok (.iload_n 2, 1) := by decide +kernel
theorem dX10_ask_20 : decode cX10_ask 20 = .ok (.iload_n 3, 1) := by decide +kernel
theorem dX10_ask_21 : decode cX10_ask 21 = .ok (.iload 4, 2) := by decide +kernel
theorem dX10_ask_23 : decode cX10_ask 23 = .ok (.invokevirtual 123, 3) := by decide +kernel
theorem dX10_ask_26 : decode cX10_ask 26 = .ok (.goto 4, 3) := by decide +kernel
theorem dX10_ask_29 : decode cX10_ask 29 = .ok (.iconst (-1), 1) := by decide +kernel
theorem dX10_ask_30 : decode cX10_ask 30 = .ok (.ireturn, 1) := by decide +kernel
theorem dX10_tick_0 : decode cX10_tick 0 = .ok (.aload_n 0, 1) := by decide +kernel
theorem dX10_tick_1 : decode cX10_tick 1 = .ok (.getfield 10, 3) := by decide +kernel
theorem dX10_tick_4 : decode cX10_tick 4 = .ok (.iload_n 1, 1) := by decide +kernel
theorem dX10_tick_5 : decode cX10_tick 5 = .ok (.aload_n 0, 1) := by decide +kernel
theorem dX10_tick_6 : decode cX10_tick 6 = .ok (.getfield 30, 3) := by decide +kernel
theorem dX10_tick_9 : decode cX10_tick 9 = .ok (.invokevirtual 129, 3) := by decide +kernel
theorem dX10_tick_12 : decode cX10_tick 12 = .ok (.ireturn, 1) := by decide +kernel
theorem dX10_served_0 : decode cX10_served 0 = .ok (.aload_n 0, 1) := by decide +kernel
theorem dX10_served_1 : decode cX10_served 1 = .ok (.getfield 30, 3) := by decide +kernel
theorem dX10_served_4 : decode cX10_served 4 = .ok (.iload_n 1, 1) := by decide +kernel
theorem dX10_served_5 : decode cX10_served 5 = .ok (.invokevirtual 133, 3) := by decide +kernel
theorem dX10_served_8 : decode cX10_served 8 = .ok (.istore_n 3, 1) := by decide +kernel
theorem dX10_served_9 : decode cX10_served 9 = .ok (.iload_n 3, 1) := by decide +kernel
theorem dX10_served_10 : decode cX10_served 10 = .ok (.iconst (-1), 1) := by decide +kernel
theorem dX10_served_11 : decode cX10_served 11 = .ok (.if_icmp .eq 12, 3) := by decide +kernel
theorem dX10_served_14 : decode cX10_served 14 = .ok (.iload_n 2, 1) := by decide +kernel
theorem dX10_served_15 : decode cX10_served 15 = .ok (.ifCond .lt 8, 3) := by decide +kernel
theorem dX10_served_18 : decode cX10_served 18 = .ok (.iload_n 2, 1) := by decide +kernel
theorem dX10_served_19 : decode cX10_served 19 = .ok (.iconst 2, 1) := by decide +kernel
theorem dX10_served_20 : decode cX10_served 20 = .ok (.if_icmp .le 11, 3) := by decide +kernel
theorem dX10_served_23 : decode cX10_served 23 = .ok (.new 89, 3) := by decide +kernel
theorem dX10_served_26 : decode cX10_served 26 = .ok (.dup, 1) := by decide +kernel
theorem dX10_served_27 : decode cX10_served 27 = .ok (.invokespecial 91, 3) := by decide +kernel
theorem dX10_served_30 : decode cX10_served 30 = .ok (.athrow, 1) := by decide +kernel
theorem dX10_served_31 : decode cX10_served 31 = .ok (.aload_n 0, 1) := by decide +kernel
theorem dX10_served_32 : decode cX10_served 32 = .ok (.getfield 30, 3) := by decide +kernel
theorem dX10_served_35 : decode cX10_served 35 = .ok (.iload_n 3, 1) := by decide +kernel
theorem dX10_served_36 : decode cX10_served 36 = .ok (.iload_n 2, 1) := by decide +kernel
theorem dX10_served_37 : decode cX10_served 37 = .ok (.invokevirtual 136, 3) := by decide +kernel
theorem dX10_served_40 : decode cX10_served 40 = .ok (.ireturn, 1) := by decide +kernel
theorem dX10_request_0 : decode cX10_request 0 = .ok (.iload_n 1, 1) := by decide +kernel
theorem dX10_request_1 : decode cX10_request 1 = .ok (.iconst (-1), 1) := by decide +kernel
theorem dX10_request_2 : decode cX10_request 2 = .ok (.if_icmp .ne 16, 3) := by decide +kernel
theorem dX10_request_5 : decode cX10_request 5 = .ok (.aload_n 0, 1) := by decide +kernel
theorem dX10_request_6 : decode cX10_request 6 = .ok (.getfield 10, 3) := by decide +kernel
theorem dX10_request_9 : decode cX10_request 9 = .ok (.getfield 119, 3) := by decide +kernel
theorem dX10_request_12 : decode cX10_request 12 = .ok (.getfield 139, 3) := by decide +kernel
theorem dX10_request_15 : decode cX10_request 15 = .ok (.goto 15, 3) := by decide +kernel
theorem dX10_request_18 : decode cX10_request 18 = .ok (.aload_n 0, 1) := by decide +kernel
theorem dX10_request_19 : decode cX10_request 19 = .ok (.getfield 10, 3) := by decide +kernel
theorem dX10_request_22 : decode cX10_request 22 = .ok (.getfield 119, 3) := by decide +kernel
theorem dX10_request_25 : decode cX10_request 25 = .ok (.iload_n 1, 1) := by decide +kernel
theorem dX10_request_26 : decode cX10_request 26 = .ok (.iload_n 2, 1) := by decide +kernel
theorem dX10_request_27 : decode cX10_request 27 = .ok (.invokevirtual 143, 3) := by decide +kernel
theorem dX10_request_30 : decode cX10_request 30 = .ok (.ireturn, 1) := by decide +kernel
theorem dX10_poke_0 : decode cX10_poke 0 = .ok (.aload_n 0, 1) := by decide +kernel
theorem dX10_poke_1 : decode cX10_poke 1 = .ok (.getfield 10, 3) := by decide +kernel
theorem dX10_poke_4 : decode cX10_poke 4 = .ok (.getfield 103, 3) := by decide +kernel
theorem dX10_poke_7 : decode cX10_poke 7 = .ok (.iload_n 1, 1) := by decide +kernel
theorem dX10_poke_8 : decode cX10_poke 8 = .ok (.iload_n 2, 1) := by decide +kernel
theorem dX10_poke_9 : decode cX10_poke 9 = .ok (.iload_n 3, 1) := by decide +kernel
theorem dX10_poke_10 : decode cX10_poke 10 = .ok (.invokevirtual 144, 3) := by decide +kernel
theorem dX10_poke_13 : decode cX10_poke 13 = .ok (.ireturn, 1) := by decide +kernel
theorem dX10_scrub_0 : decode cX10_scrub 0 = .ok (.aload_n 0, 1) := by decide +kernel
theorem dX10_scrub_1 : decode cX10_scrub 1 = .ok (.getfield 10, 3) := by decide +kernel
theorem dX10_scrub_4 : decode cX10_scrub 4 = .ok (.iload_n 1, 1) := by decide +kernel
theorem dX10_scrub_5 : decode cX10_scrub 5 = .ok (.invokevirtual 148, 3) := by decide +kernel
theorem dX10_scrub_8 : decode cX10_scrub 8 = .ok (.ireturn, 1) := by decide +kernel
theorem dX10_repair_0 : decode cX10_repair 0 = .ok (.aload_n 0, 1) := by decide +kernel
theorem dX10_repair_1 : decode cX10_repair 1 = .ok (.getfield 10, 3) := by decide +kernel
theorem dX10_repair_4 : decode cX10_repair 4 = .ok (.invokevirtual 151, 3) := by decide +kernel
theorem dX10_repair_7 : decode cX10_repair 7 = .ok (.ireturn, 1) := by decide +kernel
theorem dX10_forecast_0 : decode cX10_forecast 0 = .ok (.aload_n 0, 1) := by decide +kernel
theorem dX10_forecast_1 : decode cX10_forecast 1 = .ok (.getfield 10, 3) := by decide +kernel
theorem dX10_forecast_4 : decode cX10_forecast 4 = .ok (.getfield 154, 3) := by decide +kernel
theorem dX10_forecast_7 : decode cX10_forecast 7 = .ok (.ifCond .eq 14, 3) := by decide +kernel
theorem dX10_forecast_10 : decode cX10_forecast 10 = .ok (.iload_n 1, 1) := by decide +kernel
theorem dX10_forecast_11 : decode cX10_forecast 11 = .ok (.iconst 1, 1) := by decide +kernel
theorem dX10_forecast_12 : decode cX10_forecast 12 = .ok (.if_icmp .lt 9, 3) := by decide +kernel
theorem dX10_forecast_15 : decode cX10_forecast 15 = .ok (.iload_n 1, 1) := by decide +kernel
theorem dX10_forecast_16 : decode cX10_forecast 16 = .ok (.bipush 60, 2) := by decide +kernel
theorem dX10_forecast_18 : decode cX10_forecast 18 = .ok (.if_icmp .le 5, 3) := by decide +kernel
theorem dX10_forecast_21 : decode cX10_forecast 21 = .ok (.iconst (-1), 1) := by decide +kernel
theorem dX10_forecast_22 : decode cX10_forecast 22 = .ok (.ireturn, 1) := by decide +kernel
theorem dX10_forecast_23 : decode cX10_forecast 23 = .ok (.aload_n 0, 1) := by decide +kernel
theorem dX10_forecast_24 : decode cX10_forecast 24 = .ok (.getfield 16, 3) := by decide +kernel
theorem dX10_forecast_27 : decode cX10_forecast 27 = .ok (.aload_n 0, 1) := by decide +kernel
theorem dX10_forecast_28 : decode cX10_forecast 28 = .ok (.getfield 10, 3) := by decide +kernel
theorem dX10_forecast_31 : decode cX10_forecast 31 = .ok (.invokevirtual 158, 3) := by decide +kernel
theorem dX10_forecast_34 : decode cX10_forecast 34 = .ok (.iconst 1, 1) := by decide +kernel
theorem dX10_forecast_35 : decode cX10_forecast 35 = .ok (.istore_n 2, 1) := by decide +kernel
theorem dX10_forecast_36 : decode cX10_forecast 36 = .ok (.iload_n 2, 1) := by decide +kernel
theorem dX10_forecast_37 : decode cX10_forecast 37 = .ok (.sipush 400, 3) := by decide +kernel
theorem dX10_forecast_40 : decode cX10_forecast 40 = .ok (.if_icmp .gt 34, 3) := by decide +kernel
theorem dX10_forecast_43 : decode cX10_forecast 43 = .ok (.aload_n 0, 1) := by decide +kernel
theorem dX10_forecast_44 : decode cX10_forecast 44 = .ok (.getfield 16, 3) := by decide +kernel
theorem dX10_forecast_47 : decode cX10_forecast 47 = .ok (.iload_n 1, 1) := by decide +kernel
theorem dX10_forecast_48 : decode cX10_forecast 48 = .ok (.aload_n 0, 1) := by decide +kernel
theorem dX10_forecast_49 : decode cX10_forecast 49 = .ok (.getfield 34, 3) := by decide +kernel
theorem dX10_forecast_52 : decode cX10_forecast 52 = .ok (.invokevirtual 129, 3) := by decide +kernel
theorem dX10_forecast_55 : decode cX10_forecast 55 = .ok (.pop, 1) := by decide +kernel
theorem dX10_forecast_56 : decode cX10_forecast 56 = .ok (.aload_n 0, 1) := by decide +kernel
theorem dX10_forecast_57 : decode cX10_forecast 57 = .ok (.getfield 16, 3) := by decide +kernel
theorem dX10_forecast_60 : decode cX10_forecast 60 = .ok (.getfield 154, 3) := by decide +kernel
theorem dX10_forecast_63 : decode cX10_forecast 63 = .ok (.ifCond .ne 5, 3) := by decide +kernel
theorem dX10_forecast_66 : decode cX10_forecast 66 = .ok (.iload_n 2, 1) := by decide +kernel
theorem dX10_forecast_67 : decode cX10_forecast 67 = .ok (.ireturn, 1) := by decide +kernel
theorem dX10_forecast_68 : decode cX10_forecast 68 = .ok (.iinc 2 1, 3) := by decide +kernel
theorem dX10_forecast_71 : decode cX10_forecast 71 = .ok (.goto (-35), 3) := by decide +kernel
theorem dX10_forecast_74 : decode cX10_forecast 74 = .ok (.bipush (-3), 2) := by decide +kernel
theorem dX10_forecast_76 : decode cX10_forecast 76 = .ok (.ireturn, 1) := by decide +kernel
theorem dX10_image_0 : decode cX10_image 0 = .ok (.iload_n 1, 1) := by decide +kernel
theorem dX10_image_1 : decode cX10_image 1 = .ok (.ifCond .lt 8, 3) := by decide +kernel
theorem dX10_image_4 : decode cX10_image 4 = .ok (.iload_n 1, 1) := by decide +kernel
theorem dX10_image_5 : decode cX10_image 5 = .ok (.iconst 2, 1) := by decide +kernel
theorem dX10_image_6 : decode cX10_image 6 = .ok (.if_icmp .lt 5, 3) := by decide +kernel
theorem dX10_image_9 : decode cX10_image 9 = .ok (.iconst 0, 1) := by decide +kernel
theorem dX10_image_10 : decode cX10_image 10 = .ok (.ireturn, 1) := by decide +kernel
theorem dX10_image_11 : decode cX10_image 11 = .ok (.aload_n 0, 1) := by decide +kernel
theorem dX10_image_12 : decode cX10_image 12 = .ok (.getfield 19, 3) := by decide +kernel
theorem dX10_image_15 : decode cX10_image 15 = .ok (.iload_n 1, 1) := by decide +kernel
theorem dX10_image_16 : decode cX10_image 16 = .ok (.aaload, 1) := by decide +kernel
theorem dX10_image_17 : decode cX10_image 17 = .ok (.aload_n 0, 1) := by decide +kernel
theorem dX10_image_18 : decode cX10_image 18 = .ok (.getfield 10, 3) := by decide +kernel
theorem dX10_image_21 : decode cX10_image 21 = .ok (.invokevirtual 158, 3) := by decide +kernel
theorem dX10_image_24 : decode cX10_image 24 = .ok (.aload_n 0, 1) := by decide +kernel
theorem dX10_image_25 : decode cX10_image 25 = .ok (.getfield 23, 3) := by decide +kernel
theorem dX10_image_28 : decode cX10_image 28 = .ok (.iload_n 1, 1) := by decide +kernel
theorem dX10_image_29 : decode cX10_image 29 = .ok (.iconst 1, 1) := by decide +kernel
theorem dX10_image_30 : decode cX10_image 30 = .ok (.bastore, 1) := by decide +kernel
theorem dX10_image_31 : decode cX10_image 31 = .ok (.iconst 1, 1) := by decide +kernel
theorem dX10_image_32 : decode cX10_image 32 = .ok (.ireturn, 1) := by decide +kernel
theorem dX10_back_0 : decode cX10_back 0 = .ok (.iload_n 1, 1) := by decide +kernel
theorem dX10_back_1 : decode cX10_back 1 = .ok (.ifCond .lt 17, 3) := by decide +kernel
theorem dX10_back_4 : decode cX10_back 4 = .ok (.iload_n 1, 1) := by decide +kernel
theorem dX10_back_5 : decode cX10_back 5 = .ok (.iconst 2, 1) := by decide +kernel
theorem dX10_back_6 : decode cX10_back 6 = .ok (.if_icmp .ge 12, 3) := by decide +kernel
theorem dX10_back_9 : decode cX10_back 9 = .ok (.aload_n 0, 1) := by decide +kernel
theorem dX10_back_10 : decode cX10_back 10 = .ok (.getfield 23, 3) := by decide +kernel
theorem dX10_back_13 : decode cX10_back 13 = .ok (.iload_n 1, 1) := by decide +kernel
theorem dX10_back_14 : decode cX10_back 14 = .ok (.baload, 1) := by decide +kernel
theorem dX10_back_15 : decode cX10_back 15 = .ok (.ifCond .ne 5, 3) := by decide +kernel
theorem dX10_back_18 : decode cX10_back 18 = .ok (.iconst 0, 1) := by decide +kernel
theorem dX10_back_19 : decode cX10_back 19 = .ok (.ireturn, 1) := by decide +kernel
theorem dX10_back_20 : decode cX10_back 20 = .ok (.aload_n 0, 1) := by decide +kernel
theorem dX10_back_21 : decode cX10_back 21 = .ok (.getfield 10, 3) := by decide +kernel
theorem dX10_back_24 : decode cX10_back 24 = .ok (.aload_n 0, 1) := by decide +kernel
theorem dX10_back_25 : decode cX10_back 25 = .ok (.getfield 19, 3) := by decide +kernel
theorem dX10_back_28 : decode cX10_back 28 = .ok (.iload_n 1, 1) := by decide +kernel
theorem dX10_back_29 : decode cX10_back 29 = .ok (.aaload, 1) := by decide +kernel
theorem dX10_back_30 : decode cX10_back 30 = .ok (.invokevirtual 158, 3) := by decide +kernel
theorem dX10_back_33 : decode cX10_back 33 = .ok (.iconst 1, 1) := by decide +kernel
theorem dX10_back_34 : decode cX10_back 34 = .ok (.ireturn, 1) := by decide +kernel
theorem dX10_feed_0 : decode cX10_feed 0 = .ok (.aload_n 0, 1) := by decide +kernel
theorem dX10_feed_1 : decode cX10_feed 1 = .ok (.getfield 40, 3) := by decide +kernel
theorem dX10_feed_4 : decode cX10_feed 4 = .ok (.getfield 162, 3) := by decide +kernel
theorem dX10_feed_7 : decode cX10_feed 7 = .ok (.bipush 24, 2) := by decide +kernel
theorem dX10_feed_9 : decode cX10_feed 9 = .ok (.iadd, 1) := by decide +kernel
theorem dX10_feed_10 : decode cX10_feed 10 = .ok (.sipush 264, 3) := by decide +kernel
theorem dX10_feed_13 : decode cX10_feed 13 = .ok (.if_icmp .le 5, 3) := by decide +kernel
theorem dX10_feed_16 : decode cX10_feed 16 = .ok (.iconst (-1), 1) := by decide +kernel
theorem dX10_feed_17 : decode cX10_feed 17 = .ok (.ireturn, 1) := by decide +kernel
theorem dX10_feed_18 : decode cX10_feed 18 = .ok (.aload_n 0, 1) := by decide +kernel
theorem dX10_feed_19 : decode cX10_feed 19 = .ok (.getfield 40, 3) := by decide +kernel
theorem dX10_feed_22 : decode cX10_feed 22 = .ok (.lload_n 1, 1) := by decide +kernel
theorem dX10_feed_23 : decode cX10_feed 23 = .ok (.invokevirtual 165, 3) := by decide +kernel
theorem dX10_feed_26 : decode cX10_feed 26 = .ok (.aload_n 0, 1) := by decide +kernel
theorem dX10_feed_27 : decode cX10_feed 27 = .ok (.getfield 40, 3) := by decide +kernel
theorem dX10_feed_30 : decode cX10_feed 30 = .ok (.lload_n 3, 1) := by decide +kernel
theorem dX10_feed_31 : decode cX10_feed 31 = .ok (.invokevirtual 165, 3) := by decide +kernel
theorem dX10_feed_34 : decode cX10_feed 34 = .ok (.aload_n 0, 1) := by decide +kernel
theorem dX10_feed_35 : decode cX10_feed 35 = .ok (.getfield 40, 3) := by decide +kernel
theorem dX10_feed_38 : decode cX10_feed 38 = .ok (.lload 5, 2) := by decide +kernel
theorem dX10_feed_40 : decode cX10_feed 40 = .ok (.invokevirtual 165, 3) := by decide +kernel
theorem dX10_feed_43 : decode cX10_feed 43 = .ok (.aload_n 0, 1) := by decide +kernel
theorem dX10_feed_44 : decode cX10_feed 44 = .ok (.getfield 40, 3) := by decide +kernel
theorem dX10_feed_47 : decode cX10_feed 47 = .ok (.getfield 162, 3) := by decide +kernel
theorem dX10_feed_50 : decode cX10_feed 50 = .ok (.ireturn, 1) := by decide +kernel
theorem dX10_end_0 : decode cX10_end 0 = .ok (.iload_n 1, 1) := by decide +kernel
theorem dX10_end_1 : decode cX10_end 1 = .ok (.ifCond .lt 14, 3) := by decide +kernel
theorem dX10_end_4 : decode cX10_end 4 = .ok (.iload_n 1, 1) := by decide +kernel
theorem dX10_end_5 : decode cX10_end 5 = .ok (.aload_n 0, 1) := by decide +kernel
theorem dX10_end_6 : decode cX10_end 6 = .ok (.getfield 40, 3) := by decide +kernel
theorem dX10_end_9 : decode cX10_end 9 = .ok (.getfield 162, 3) := by decide +kernel
theorem dX10_end_12 : decode cX10_end 12 = .ok (.if_icmp .le 5, 3) := by decide +kernel
theorem dX10_end_15 : decode cX10_end 15 = .ok (.iconst (-1), 1) := by decide +kernel
theorem dX10_end_16 : decode cX10_end 16 = .ok (.ireturn, 1) := by decide +kernel
theorem dX10_end_17 : decode cX10_end 17 = .ok (.aload_n 0, 1) := by decide +kernel
theorem dX10_end_18 : decode cX10_end 18 = .ok (.getfield 40, 3) := by decide +kernel
theorem dX10_end_21 : decode cX10_end 21 = .ok (.iload_n 1, 1) := by decide +kernel
theorem dX10_end_22 : decode cX10_end 22 = .ok (.putfield 162, 3) := by decide +kernel
theorem dX10_end_25 : decode cX10_end 25 = .ok (.iload_n 1, 1) := by decide +kernel
theorem dX10_end_26 : decode cX10_end 26 = .ok (.ireturn, 1) := by decide +kernel
theorem dX10_script_0 : decode cX10_script 0 = .ok (.aload_n 0, 1) := by decide +kernel
theorem dX10_script_1 : decode cX10_script 1 = .ok (.getfield 40, 3) := by decide +kernel
theorem dX10_script_4 : decode cX10_script 4 = .ok (.getfield 162, 3) := by decide +kernel
theorem dX10_script_7 : decode cX10_script 7 = .ok (.sipush 240, 3) := by decide +kernel
theorem dX10_script_10 : decode cX10_script 10 = .ok (.if_icmp .le 5, 3) := by decide +kernel
theorem dX10_script_13 : decode cX10_script 13 = .ok (.iconst (-1), 1) := by decide +kernel
theorem dX10_script_14 : decode cX10_script 14 = .ok (.ireturn, 1) := by decide +kernel
theorem dX10_script_15 : decode cX10_script 15 = .ok (.aload_n 0, 1) := by decide +kernel
theorem dX10_script_16 : decode cX10_script 16 = .ok (.getfield 47, 3) := by decide +kernel
theorem dX10_script_19 : decode cX10_script 19 = .ok (.aload_n 0, 1) := by decide +kernel
theorem dX10_script_20 : decode cX10_script 20 = .ok (.getfield 40, 3) := by decide +kernel
theorem dX10_script_23 : decode cX10_script 23 = .ok (.invokevirtual 169, 3) := by decide +kernel
theorem dX10_script_26 : decode cX10_script 26 = .ok (.aload_n 0, 1) := by decide +kernel
theorem dX10_script_27 : decode cX10_script 27 = .ok (.getfield 40, 3) := by decide +kernel
theorem dX10_script_30 : decode cX10_script 30 = .ok (.iconst 0, 1) := by decide +kernel
theorem dX10_script_31 : decode cX10_script 31 = .ok (.putfield 162, 3) := by decide +kernel
theorem dX10_script_34 : decode cX10_script 34 = .ok (.aload_n 0, 1) := by decide +kernel
theorem dX10_script_35 : decode cX10_script 35 = .ok (.getfield 47, 3) := by decide +kernel
theorem dX10_script_38 : decode cX10_script 38 = .ok (.getfield 173, 3) := by decide +kernel
theorem dX10_script_41 : decode cX10_script 41 = .ok (.ifCond .eq 14, 3) := by decide +kernel
theorem dX10_script_44 : decode cX10_script 44 = .ok (.bipush (-2), 2) := by decide +kernel
theorem dX10_script_46 : decode cX10_script 46 = .ok (.aload_n 0, 1) := by decide +kernel
theorem dX10_script_47 : decode cX10_script 47 = .ok (.getfield 47, 3) := by decide +kernel
theorem dX10_script_50 : decode cX10_script 50 = .ok (.getfield 173, 3) := by decide +kernel
theorem dX10_script_53 : decode cX10_script 53 = .ok (.isub, 1) := by decide +kernel
theorem dX10_script_54 : decode cX10_script 54 = .ok (.ireturn, 1) := by decide +kernel
theorem dX10_script_55 : decode cX10_script 55 = .ok (.iconst 0, 1) := by decide +kernel
theorem dX10_script_56 : decode cX10_script 56 = .ok (.istore_n 1, 1) := by decide +kernel
theorem dX10_script_57 : decode cX10_script 57 = .ok (.iload_n 1, 1) := by decide +kernel
theorem dX10_script_58 : decode cX10_script 58 = .ok (.sipush 200, 3) := by decide +kernel
theorem dX10_script_61 : decode cX10_script 61 = .ok (.if_icmp .ge 55, 3) := by decide +kernel
theorem dX10_script_64 : decode cX10_script 64 = .ok (.aload_n 0, 1) := by decide +kernel
theorem dX10_script_65 : decode cX10_script 65 = .ok (.getfield 47, 3) := by decide +kernel
theorem dX10_script_68 : decode cX10_script 68 = .ok (.invokevirtual 176, 3) := by decide +kernel
theorem dX10_script_71 : decode cX10_script 71 = .ok (.astore_n 2, 1) := by decide +kernel
theorem dX10_script_72 : decode cX10_script 72 = .ok (.aload_n 2, 1) := by decide +kernel
theorem dX10_script_73 : decode cX10_script 73 = .ok (.ifnull 35, 3) := by decide +kernel
theorem dX10_script_76 : decode cX10_script 76 = .ok (.aload_n 0, 1) := by decide +kernel
theorem dX10_script_77 : decode cX10_script 77 = .ok (.aload_n 2, 1) := by decide +kernel
theorem dX10_script_78 : decode cX10_script 78 = .ok (.aload_n 0, 1) := by decide +kernel
theorem dX10_script_79 : decode cX10_script 79 = .ok (.getfield 47, 3) := by decide +kernel
theorem dX10_script_82 : decode cX10_script 82 = .ok (.iconst 0, 1) := by decide +kernel
theorem dX10_script_83 : decode cX10_script 83 = .ok (.invokevirtual 180, 3) := by decide +kernel
theorem dX10_script_86 : decode cX10_script 86 = .ok (.aload_n 0, 1) := by decide +kernel
theorem dX10_script_87 : decode cX10_script 87 = .ok (.getfield 47, 3) := by decide +kernel
theorem dX10_script_90 : decode cX10_script 90 = .ok (.iconst 1, 1) := by decide +kernel
theorem dX10_script_91 : decode cX10_script 91 = .ok (.invokevirtual 180, 3) := by decide +kernel
theorem dX10_script_94 : decode cX10_script 94 = .ok (.aload_n 0, 1) := by decide +kernel
theorem dX10_script_95 : decode cX10_script 95 = .ok (.getfield 47, 3) := by decide +kernel
theorem dX10_script_98 : decode cX10_script 98 = .ok (.iconst 2, 1) := by decide +kernel
theorem dX10_script_99 : decode cX10_script 99 = .ok (.invokevirtual 180, 3) := by decide +kernel
theorem dX10_script_102 : decode cX10_script 102 = .ok (.invokevirtual 183, 3) := by decide +kernel
theorem dX10_script_105 : decode cX10_script 105 = .ok (.ifCond .ne 5, 3) := by decide +kernel
theorem dX10_script_108 : decode cX10_script 108 = .ok (.iload_n 1, 1) := by decide +kernel
theorem dX10_script_109 : decode cX10_script 109 = .ok (.ireturn, 1) := by decide +kernel
theorem dX10_script_110 : decode cX10_script 110 = .ok (.iinc 1 1, 3) := by decide +kernel
theorem dX10_script_113 : decode cX10_script 113 = .ok (.goto (-56), 3) := by decide +kernel
theorem dX10_script_116 : decode cX10_script 116 = .ok (.sipush 200, 3) := by decide +kernel
theorem dX10_script_119 : decode cX10_script 119 = .ok (.ireturn, 1) := by decide +kernel
theorem dX10_laid_0 : decode cX10_laid 0 = .ok (.aload_n 0, 1) := by decide +kernel
theorem dX10_laid_1 : decode cX10_laid 1 = .ok (.getfield 10, 3) := by decide +kernel
theorem dX10_laid_4 : decode cX10_laid 4 = .ok (.getfield 103, 3) := by decide +kernel
theorem dX10_laid_7 : decode cX10_laid 7 = .ok (.iload_n 1, 1) := by decide +kernel
theorem dX10_laid_8 : decode cX10_laid 8 = .ok (.invokevirtual 187, 3) := by decide +kernel
theorem dX10_laid_11 : decode cX10_laid 11 = .ok (.ifCond .eq 18, 3) := by decide +kernel
theorem dX10_laid_14 : decode cX10_laid 14 = .ok (.aload_n 0, 1) := by decide +kernel
theorem dX10_laid_15 : decode cX10_laid 15 = .ok (.getfield 10, 3) := by decide +kernel
theorem dX10_laid_18 : decode cX10_laid 18 = .ok (.getfield 103, 3) := by decide +kernel
theorem dX10_laid_21 : decode cX10_laid 21 = .ok (.getfield 190, 3) := by decide +kernel
theorem dX10_laid_24 : decode cX10_laid 24 = .ok (.iload_n 1, 1) := by decide +kernel
theorem dX10_laid_25 : decode cX10_laid 25 = .ok (.iaload, 1) := by decide +kernel
theorem dX10_laid_26 : decode cX10_laid 26 = .ok (.goto 4, 3) := by decide +kernel
theorem dX10_laid_29 : decode cX10_laid 29 = .ok (.iconst (-1), 1) := by decide +kernel
theorem dX10_laid_30 : decode cX10_laid 30 = .ok (.ireturn, 1) := by decide +kernel
theorem dX10_of_0 : decode cX10_of 0 = .ok (.aload_n 0, 1) := by decide +kernel
theorem dX10_of_1 : decode cX10_of 1 = .ok (.getfield 10, 3) := by decide +kernel
theorem dX10_of_4 : decode cX10_of 4 = .ok (.iload_n 1, 1) := by decide +kernel
theorem dX10_of_5 : decode cX10_of 5 = .ok (.invokevirtual 82, 3) := by decide +kernel
theorem dX10_of_8 : decode cX10_of 8 = .ok (.ifCond .eq 15, 3) := by decide +kernel
theorem dX10_of_11 : decode cX10_of 11 = .ok (.aload_n 0, 1) := by decide +kernel
theorem dX10_of_12 : decode cX10_of 12 = .ok (.getfield 10, 3) := by decide +kernel
theorem dX10_of_15 : decode cX10_of 15 = .ok (.iload_n 1, 1) := by decide +kernel
theorem dX10_of_16 : decode cX10_of 16 = .ok (.iload_n 2, 1) := by decide +kernel
theorem dX10_of_17 : decode cX10_of 17 = .ok (.invokevirtual 194, 3) := by decide +kernel
theorem dX10_of_20 : decode cX10_of 20 = .ok (.goto 4, 3) := by decide +kernel
theorem dX10_of_23 : decode cX10_of 23 = .ok (.iconst (-1), 1) := by decide +kernel
theorem dX10_of_24 : decode cX10_of 24 = .ok (.ireturn, 1) := by decide +kernel
theorem dX10_word_0 : decode cX10_word 0 = .ok (.aload_n 0, 1) := by decide +kernel
theorem dX10_word_1 : decode cX10_word 1 = .ok (.getfield 10, 3) := by decide +kernel
theorem dX10_word_4 : decode cX10_word 4 = .ok (.getfield 103, 3) := by decide +kernel
theorem dX10_word_7 : decode cX10_word 7 = .ok (.iload_n 1, 1) := by decide +kernel
theorem dX10_word_8 : decode cX10_word 8 = .ok (.iload_n 2, 1) := by decide +kernel
theorem dX10_word_9 : decode cX10_word 9 = .ok (.invokevirtual 197, 3) := by decide +kernel
theorem dX10_word_12 : decode cX10_word 12 = .ok (.ifCond .ne 11, 3) := by decide +kernel
theorem dX10_word_15 : decode cX10_word 15 = .ok (.new 89, 3) := by decide +kernel
theorem dX10_word_18 : decode cX10_word 18 = .ok (.dup, 1) := by decide +kernel
theorem dX10_word_19 : decode cX10_word 19 = .ok (.invokespecial 91, 3) := by decide +kernel
theorem dX10_word_22 : decode cX10_word 22 = .ok (.athrow, 1) := by decide +kernel
theorem dX10_word_23 : decode cX10_word 23 = .ok (.aload_n 0, 1) := by decide +kernel
theorem dX10_word_24 : decode cX10_word 24 = .ok (.getfield 10, 3) := by decide +kernel
theorem dX10_word_27 : decode cX10_word 27 = .ok (.getfield 103, 3) := by decide +kernel
theorem dX10_word_30 : decode cX10_word 30 = .ok (.getfield 200, 3) := by decide +kernel
theorem dX10_word_33 : decode cX10_word 33 = .ok (.iload_n 1, 1) := by decide +kernel
theorem dX10_word_34 : decode cX10_word 34 = .ok (.bipush 40, 2) := by decide +kernel
theorem dX10_word_36 : decode cX10_word 36 = .ok (.imul, 1) := by decide +kernel
theorem dX10_word_37 : decode cX10_word 37 = .ok (.iload_n 2, 1) := by decide +kernel
theorem dX10_word_38 : decode cX10_word 38 = .ok (.iadd, 1) := by decide +kernel
theorem dX10_word_39 : decode cX10_word 39 = .ok (.iaload, 1) := by decide +kernel
theorem dX10_word_40 : decode cX10_word 40 = .ok (.ireturn, 1) := by decide +kernel
theorem dX10_badAt_0 : decode cX10_badAt 0 = .ok (.iload_n 1, 1) := by decide +kernel
theorem dX10_badAt_1 : decode cX10_badAt 1 = .ok (.iconst (-1), 1) := by decide +kernel
theorem dX10_badAt_2 : decode cX10_badAt 2 = .ok (.if_icmp .ne 16, 3) := by decide +kernel
theorem dX10_badAt_5 : decode cX10_badAt 5 = .ok (.aload_n 0, 1) := by decide +kernel
theorem dX10_badAt_6 : decode cX10_badAt 6 = .ok (.getfield 10, 3) := by decide +kernel
theorem dX10_badAt_9 : decode cX10_badAt 9 = .ok (.getfield 103, 3) := by decide +kernel
theorem dX10_badAt_12 : decode cX10_badAt 12 = .ok (.invokevirtual 203, 3) := by decide +kernel
theorem dX10_badAt_15 : decode cX10_badAt 15 = .ok (.goto 14, 3) := by decide +kernel
theorem dX10_badAt_18 : decode cX10_badAt 18 = .ok (.aload_n 0, 1) := by decide +kernel
theorem dX10_badAt_19 : decode cX10_badAt 19 = .ok (.getfield 10, 3) := by decide +kernel
theorem dX10_badAt_22 : decode cX10_badAt 22 = .ok (.getfield 103, 3) := by decide +kernel
theorem dX10_badAt_25 : decode cX10_badAt 25 = .ok (.iload_n 1, 1) := by decide +kernel
theorem dX10_badAt_26 : decode cX10_badAt 26 = .ok (.invokevirtual 206, 3) := by decide +kernel
theorem dX10_badAt_29 : decode cX10_badAt 29 = .ok (.ireturn, 1) := by decide +kernel
theorem dX10_spoilt_0 : decode cX10_spoilt 0 = .ok (.aload_n 0, 1) := by decide +kernel
theorem dX10_spoilt_1 : decode cX10_spoilt 1 = .ok (.getfield 10, 3) := by decide +kernel
theorem dX10_spoilt_4 : decode cX10_spoilt 4 = .ok (.getfield 154, 3) := by decide +kernel
theorem dX10_spoilt_7 : decode cX10_spoilt 7 = .ok (.ifCond .ne 5, 3) := by decide +kernel
theorem dX10_spoilt_10 : decode cX10_spoilt 10 = .ok (.iconst (-1), 1) := by decide +kernel
theorem dX10_spoilt_11 : decode cX10_spoilt 11 = .ok (.ireturn, 1) := by decide +kernel
theorem dX10_spoilt_12 : decode cX10_spoilt 12 = .ok (.aload_n 0, 1) := by decide +kernel
theorem dX10_spoilt_13 : decode cX10_spoilt 13 = .ok (.getfield 16, 3) := by decide +kernel
theorem dX10_spoilt_16 : decode cX10_spoilt 16 = .ok (.aload_n 0, 1) := by decide +kernel
theorem dX10_spoilt_17 : decode cX10_spoilt 17 = .ok (.getfield 10, 3) := by decide +kernel
theorem dX10_spoilt_20 : decode cX10_spoilt 20 = .ok (.invokevirtual 158, 3) := by decide +kernel
theorem dX10_spoilt_23 : decode cX10_spoilt 23 = .ok (.aload_n 0, 1) := by decide +kernel
theorem dX10_spoilt_24 : decode cX10_spoilt 24 = .ok (.getfield 16, 3) := by decide +kernel
theorem dX10_spoilt_27 : decode cX10_spoilt 27 = .ok (.invokevirtual 78, 3) := by decide +kernel
theorem dX10_spoilt_30 : decode cX10_spoilt 30 = .ok (.pop, 1) := by decide +kernel
theorem dX10_spoilt_31 : decode cX10_spoilt 31 = .ok (.aload_n 0, 1) := by decide +kernel
theorem dX10_spoilt_32 : decode cX10_spoilt 32 = .ok (.getfield 10, 3) := by decide +kernel
theorem dX10_spoilt_35 : decode cX10_spoilt 35 = .ok (.aload_n 0, 1) := by decide +kernel
theorem dX10_spoilt_36 : decode cX10_spoilt 36 = .ok (.getfield 16, 3) := by decide +kernel
theorem dX10_spoilt_39 : decode cX10_spoilt 39 = .ok (.invokevirtual 209, 3) := by decide +kernel
theorem dX10_spoilt_42 : decode cX10_spoilt 42 = .ok (.ireturn, 1) := by decide +kernel
theorem dX10_exposed_0 : decode cX10_exposed 0 = .ok (.aload_n 0, 1) := by decide +kernel
theorem dX10_exposed_1 : decode cX10_exposed 1 = .ok (.getfield 10, 3) := by decide +kernel
theorem dX10_exposed_4 : decode cX10_exposed 4 = .ok (.getfield 103, 3) := by decide +kernel
theorem dX10_exposed_7 : decode cX10_exposed 7 = .ok (.iload_n 1, 1) := by decide +kernel
theorem dX10_exposed_8 : decode cX10_exposed 8 = .ok (.invokevirtual 187, 3) := by decide +kernel
theorem dX10_exposed_11 : decode cX10_exposed 11 = .ok (.ifCond .ne 5, 3) := by decide +kernel
theorem dX10_exposed_14 : decode cX10_exposed 14 = .ok (.iconst (-1), 1) := by decide +kernel
theorem dX10_exposed_15 : decode cX10_exposed 15 = .ok (.ireturn, 1) := by decide +kernel
theorem dX10_exposed_16 : decode cX10_exposed 16 = .ok (.aload_n 0, 1) := by decide +kernel
theorem dX10_exposed_17 : decode cX10_exposed 17 = .ok (.getfield 10, 3) := by decide +kernel
theorem dX10_exposed_20 : decode cX10_exposed 20 = .ok (.getfield 103, 3) := by decide +kernel
theorem dX10_exposed_23 : decode cX10_exposed 23 = .ok (.getfield 213, 3) := by decide +kernel
theorem dX10_exposed_26 : decode cX10_exposed 26 = .ok (.iconst (-1), 1) := by decide +kernel
theorem dX10_exposed_27 : decode cX10_exposed 27 = .ok (.if_icmp .eq 5, 3) := by decide +kernel
theorem dX10_exposed_30 : decode cX10_exposed 30 = .ok (.iconst 0, 1) := by decide +kernel
theorem dX10_exposed_31 : decode cX10_exposed 31 = .ok (.ireturn, 1) := by decide +kernel
theorem dX10_exposed_32 : decode cX10_exposed 32 = .ok (.aload_n 0, 1) := by decide +kernel
theorem dX10_exposed_33 : decode cX10_exposed 33 = .ok (.getfield 16, 3) := by decide +kernel
theorem dX10_exposed_36 : decode cX10_exposed 36 = .ok (.aload_n 0, 1) := by decide +kernel
theorem dX10_exposed_37 : decode cX10_exposed 37 = .ok (.getfield 10, 3) := by decide +kernel
theorem dX10_exposed_40 : decode cX10_exposed 40 = .ok (.invokevirtual 158, 3) := by decide +kernel
theorem dX10_exposed_43 : decode cX10_exposed 43 = .ok (.aload_n 0, 1) := by decide +kernel
theorem dX10_exposed_44 : decode cX10_exposed 44 = .ok (.getfield 16, 3) := by decide +kernel
theorem dX10_exposed_47 : decode cX10_exposed 47 = .ok (.getfield 103, 3) := by decide +kernel
theorem dX10_exposed_50 : decode cX10_exposed 50 = .ok (.iload_n 1, 1) := by decide +kernel
theorem dX10_exposed_51 : decode cX10_exposed 51 = .ok (.putfield 213, 3) := by decide +kernel
theorem dX10_exposed_54 : decode cX10_exposed 54 = .ok (.aload_n 0, 1) := by decide +kernel
theorem dX10_exposed_55 : decode cX10_exposed 55 = .ok (.getfield 10, 3) := by decide +kernel
theorem dX10_exposed_58 : decode cX10_exposed 58 = .ok (.aload_n 0, 1) := by decide +kernel
theorem dX10_exposed_59 : decode cX10_exposed 59 = .ok (.getfield 16, 3) := by decide +kernel
theorem dX10_exposed_62 : decode cX10_exposed 62 = .ok (.invokevirtual 209, 3) := by decide +kernel
theorem dX10_exposed_65 : decode cX10_exposed 65 = .ok (.ireturn, 1) := by decide +kernel
theorem dX10_batch_0 : decode cX10_batch 0 = .ok (.aload_n 0, 1) := by decide +kernel
theorem dX10_batch_1 : decode cX10_batch 1 = .ok (.getfield 10, 3) := by decide +kernel
theorem dX10_batch_4 : decode cX10_batch 4 = .ok (.getfield 154, 3) := by decide +kernel
theorem dX10_batch_7 : decode cX10_batch 7 = .ok (.ifCond .eq 14, 3) := by decide +kernel
theorem dX10_batch_10 : decode cX10_batch 10 = .ok (.aload_n 0, 1) := by decide +kernel
theorem dX10_batch_11 : decode cX10_batch 11 = .ok (.getfield 10, 3) := by decide +kernel
theorem dX10_batch_14 : decode cX10_batch 14 = .ok (.iload_n 1, 1) := by decide +kernel
theorem dX10_batch_15 : decode cX10_batch 15 = .ok (.invokevirtual 216, 3) := by decide +kernel
theorem dX10_batch_18 : decode cX10_batch 18 = .ok (.goto 4, 3) := by decide +kernel
theorem dX10_batch_21 : decode cX10_batch 21 = .ok (.iconst (-1), 1) := by decide +kernel
theorem dX10_batch_22 : decode cX10_batch 22 = .ok (.ireturn, 1) := by decide +kernel
theorem dX10_count_0 : decode cX10_count 0 = .ok (.iload_n 1, 1) := by decide +kernel
theorem dX10_count_1 : decode cX10_count 1 = .ok (.bipush 16, 2) := by decide +kernel
theorem dX10_count_3 : decode cX10_count 3 = .ok (.if_icmp .ne 13, 3) := by decide +kernel
theorem dX10_count_6 : decode cX10_count 6 = .ok (.aload_n 0, 1) := by decide +kernel
theorem dX10_count_7 : decode cX10_count 7 = .ok (.getfield 40, 3) := by decide +kernel
theorem dX10_count_10 : decode cX10_count 10 = .ok (.getfield 162, 3) := by decide +kernel
theorem dX10_count_13 : decode cX10_count 13 = .ok (.goto 11, 3) := by decide +kernel
theorem dX10_count_16 : decode cX10_count 16 = .ok (.aload_n 0, 1) := by decide +kernel
theorem dX10_count_17 : decode cX10_count 17 = .ok (.getfield 10, 3) := by decide +kernel
theorem dX10_count_20 : decode cX10_count 20 = .ok (.iload_n 1, 1) := by decide +kernel
theorem dX10_count_21 : decode cX10_count 21 = .ok (.invokevirtual 219, 3) := by decide +kernel
theorem dX10_count_24 : decode cX10_count 24 = .ok (.ireturn, 1) := by decide +kernel
theorem dX10_perform_0 : decode cX10_perform 0 = .ok (.getstatic 222, 3) := by decide +kernel
theorem dX10_perform_3 : decode cX10_perform 3 = .ok (.aload_n 1, 1) := by decide +kernel
theorem dX10_perform_4 : decode cX10_perform 4 = .ok (.invokevirtual 227, 3) := by decide +kernel
theorem dX10_perform_7 : decode cX10_perform 7 = .ok (.iaload, 1) := by decide +kernel
theorem dX10_perform_8 : decode cX10_perform 8 = .ok (.tableswitch 240 1 12 #[64, 81, 89, 106, 123, 141, 163, 175, 194, 215, 228, 234], 64) := by decide +kernel
theorem dX10_perform_72 : decode cX10_perform 72 = .ok (.aload_n 0, 1) := by decide +kernel
theorem dX10_perform_73 : decode cX10_perform 73 = .ok (.getfield 10, 3) := by decide +kernel
theorem dX10_perform_76 : decode cX10_perform 76 = .ok (.invokevirtual 72, 3) := by decide +kernel
theorem dX10_perform_79 : decode cX10_perform 79 = .ok (.iconst (-1), 1) := by decide +kernel
theorem dX10_perform_80 : decode cX10_perform 80 = .ok (.if_icmp .eq 7, 3) := by decide +kernel
theorem dX10_perform_83 : decode cX10_perform 83 = .ok (.iconst 1, 1) := by decide +kernel
theorem dX10_perform_84 : decode cX10_perform 84 = .ok (.goto 4, 3) := by decide +kernel
theorem dX10_perform_87 : decode cX10_perform 87 = .ok (.iconst 0, 1) := by decide +kernel
theorem dX10_perform_88 : decode cX10_perform 88 = .ok (.ireturn, 1) := by decide +kernel
theorem dX10_perform_89 : decode cX10_perform 89 = .ok (.aload_n 0, 1) := by decide +kernel
theorem dX10_perform_90 : decode cX10_perform 90 = .ok (.getfield 10, 3) := by decide +kernel
theorem dX10_perform_93 : decode cX10_perform 93 = .ok (.invokevirtual 78, 3) := by decide +kernel
theorem dX10_perform_96 : decode cX10_perform 96 = .ok (.ireturn, 1) := by decide +kernel
theorem dX10_perform_97 : decode cX10_perform 97 = .ok (.aload_n 0, 1) := by decide +kernel
theorem dX10_perform_98 : decode cX10_perform 98 = .ok (.getfield 10, 3) := by decide +kernel
theorem dX10_perform_101 : decode cX10_perform 101 = .ok (.invokevirtual 112, 3) := by decide +kernel
theorem dX10_perform_104 : decode cX10_perform 104 = .ok (.iconst (-1), 1) := by decide +kernel
theorem dX10_perform_105 : decode cX10_perform 105 = .ok (.if_icmp .eq 7, 3) := by decide +kernel
theorem dX10_perform_108 : decode cX10_perform 108 = .ok (.iconst 1, 1) := by decide +kernel
theorem dX10_perform_109 : decode cX10_perform 109 = .ok (.goto 4, 3) := by decide +kernel
theorem dX10_perform_112 : decode cX10_perform 112 = .ok (.iconst 0, 1) := by decide +kernel
theorem dX10_perform_113 : decode cX10_perform 113 = .ok (.ireturn, 1) := by decide +kernel
theorem dX10_perform_114 : decode cX10_perform 114 = .ok (.aload_n 0, 1) := by decide +kernel
theorem dX10_perform_115 : decode cX10_perform 115 = .ok (.getfield 10, 3) := by decide +kernel
theorem dX10_perform_118 : decode cX10_perform 118 = .ok (.invokevirtual 151, 3) := by decide +kernel
theorem dX10_perform_121 : decode cX10_perform 121 = .ok (.iconst (-1), 1) := by decide +kernel
theorem dX10_perform_122 : decode cX10_perform 122 = .ok (.if_icmp .eq 7, 3) := by decide +kernel
theorem dX10_perform_125 : decode cX10_perform 125 = .ok (.iconst 1, 1) := by decide +kernel
theorem dX10_perform_126 : decode cX10_perform 126 = .ok (.goto 4, 3) := by decide +kernel
theorem dX10_perform_129 : decode cX10_perform 129 = .ok (.iconst 0, 1) := by decide +kernel
theorem dX10_perform_130 : decode cX10_perform 130 = .ok (.ireturn, 1) := by decide +kernel
theorem dX10_perform_131 : decode cX10_perform 131 = .ok (.aload_n 0, 1) := by decide +kernel
theorem dX10_perform_132 : decode cX10_perform 132 = .ok (.getfield 10, 3) := by decide +kernel
theorem dX10_perform_135 : decode cX10_perform 135 = .ok (.iload_n 2, 1) := by decide +kernel
theorem dX10_perform_136 : decode cX10_perform 136 = .ok (.invokevirtual 75, 3) := by decide +kernel
theorem dX10_perform_139 : decode cX10_perform 139 = .ok (.iconst (-1), 1) := by decide +kernel
theorem dX10_perform_140 : decode cX10_perform 140 = .ok (.if_icmp .eq 7, 3) := by decide +kernel
theorem dX10_perform_143 : decode cX10_perform 143 = .ok (.iconst 1, 1) := by decide +kernel
theorem dX10_perform_144 : decode cX10_perform 144 = .ok (.goto 4, 3) := by decide +kernel
theorem dX10_perform_147 : decode cX10_perform 147 = .ok (.iconst 0, 1) := by decide +kernel
theorem dX10_perform_148 : decode cX10_perform 148 = .ok (.ireturn, 1) := by decide +kernel
theorem dX10_perform_149 : decode cX10_perform 149 = .ok (.aload_n 0, 1) := by decide +kernel
theorem dX10_perform_150 : decode cX10_perform 150 = .ok (.getfield 10, 3) := by decide +kernel
theorem dX10_perform_153 : decode cX10_perform 153 = .ok (.iload_n 2, 1) := by decide +kernel
theorem dX10_perform_154 : decode cX10_perform 154 = .ok (.aload_n 0, 1) := by decide +kernel
theorem dX10_perform_155 : decode cX10_perform 155 = .ok (.getfield 30, 3) := by decide +kernel
theorem dX10_perform_158 : decode cX10_perform 158 = .ok (.invokevirtual 129, 3) := by decide +kernel
theorem dX10_perform_161 : decode cX10_perform 161 = .ok (.iconst (-1), 1) := by decide +kernel
theorem dX10_perform_162 : decode cX10_perform 162 = .ok (.if_icmp .eq 7, 3) := by decide +kernel
theorem dX10_perform_165 : decode cX10_perform 165 = .ok (.iconst 1, 1) := by decide +kernel
theorem dX10_perform_166 : decode cX10_perform 166 = .ok (.goto 4, 3) := by decide +kernel
theorem dX10_perform_169 : decode cX10_perform 169 = .ok (.iconst 0, 1) := by decide +kernel
theorem dX10_perform_170 : decode cX10_perform 170 = .ok (.ireturn, 1) := by decide +kernel
theorem dX10_perform_171 : decode cX10_perform 171 = .ok (.aload_n 0, 1) := by decide +kernel
theorem dX10_perform_172 : decode cX10_perform 172 = .ok (.getfield 10, 3) := by decide +kernel
theorem dX10_perform_175 : decode cX10_perform 175 = .ok (.getfield 103, 3) := by decide +kernel
theorem dX10_perform_178 : decode cX10_perform 178 = .ok (.iload_n 2, 1) := by decide +kernel
theorem dX10_perform_179 : decode cX10_perform 179 = .ok (.invokevirtual 107, 3) := by decide +kernel
theorem dX10_perform_182 : decode cX10_perform 182 = .ok (.ireturn, 1) := by decide +kernel
theorem dX10_perform_183 : decode cX10_perform 183 = .ok (.aload_n 0, 1) := by decide +kernel
theorem dX10_perform_184 : decode cX10_perform 184 = .ok (.getfield 10, 3) := by decide +kernel
theorem dX10_perform_187 : decode cX10_perform 187 = .ok (.iload_n 2, 1) := by decide +kernel
theorem dX10_perform_188 : decode cX10_perform 188 = .ok (.iload_n 3, 1) := by decide +kernel
theorem dX10_perform_189 : decode cX10_perform 189 = .ok (.invokevirtual 95, 3) := by decide +kernel
theorem dX10_perform_192 : decode cX10_perform 192 = .ok (.iconst 1, 1) := by decide +kernel
theorem dX10_perform_193 : decode cX10_perform 193 = .ok (.if_icmp .ne 7, 3) := by decide +kernel
theorem dX10_perform_196 : decode cX10_perform 196 = .ok (.iconst 1, 1) := by decide +kernel
theorem dX10_perform_197 : decode cX10_perform 197 = .ok (.goto 4, 3) := by decide +kernel
theorem dX10_perform_200 : decode cX10_perform 200 = .ok (.iconst 0, 1) := by decide +kernel
theorem dX10_perform_201 : decode cX10_perform 201 = .ok (.ireturn, 1) := by decide +kernel
theorem dX10_perform_202 : decode cX10_perform 202 = .ok (.aload_n 0, 1) := by decide +kernel
theorem dX10_perform_203 : decode cX10_perform 203 = .ok (.getfield 10, 3) := by decide +kernel
theorem dX10_perform_206 : decode cX10_perform 206 = .ok (.iload_n 2, 1) := by decide +kernel
theorem dX10_perform_207 : decode cX10_perform 207 = .ok (.iload_n 3, 1) := by decide +kernel
theorem dX10_perform_208 : decode cX10_perform 208 = .ok (.iload 4, 2) := by decide +kernel
theorem dX10_perform_210 : decode cX10_perform 210 = .ok (.invokevirtual 99, 3) := by decide +kernel
theorem dX10_perform_213 : decode cX10_perform 213 = .ok (.iconst (-1), 1) := by decide +kernel
theorem dX10_perform_214 : decode cX10_perform 214 = .ok (.if_icmp .eq 7, 3) := by decide +kernel
theorem dX10_perform_217 : decode cX10_perform 217 = .ok (.iconst 1, 1) := by decide +kernel
theorem dX10_perform_218 : decode cX10_perform 218 = .ok (.goto 4, 3) := by decide +kernel
theorem dX10_perform_221 : decode cX10_perform 221 = .ok (.iconst 0, 1) := by decide +kernel
theorem dX10_perform_222 : decode cX10_perform 222 = .ok (.ireturn, 1) := by decide +kernel
theorem dX10_perform_223 : decode cX10_perform 223 = .ok (.aload_n 0, 1) := by decide +kernel
theorem dX10_perform_224 : decode cX10_perform 224 = .ok (.getfield 10, 3) := by decide +kernel
theorem dX10_perform_227 : decode cX10_perform 227 = .ok (.getfield 103, 3) := by decide +kernel
theorem dX10_perform_230 : decode cX10_perform 230 = .ok (.iload_n 2, 1) := by decide +kernel
theorem dX10_perform_231 : decode cX10_perform 231 = .ok (.iload_n 3, 1) := by decide +kernel
theorem dX10_perform_232 : decode cX10_perform 232 = .ok (.invokevirtual 115, 3) := by decide +kernel
theorem dX10_perform_235 : decode cX10_perform 235 = .ok (.ireturn, 1) := by decide +kernel
theorem dX10_perform_236 : decode cX10_perform 236 = .ok (.aload_n 0, 1) := by decide +kernel
theorem dX10_perform_237 : decode cX10_perform 237 = .ok (.iload_n 2, 1) := by decide +kernel
theorem dX10_perform_238 : decode cX10_perform 238 = .ok (.invokevirtual 232, 3) := by decide +kernel
theorem dX10_perform_241 : decode cX10_perform 241 = .ok (.ireturn, 1) := by decide +kernel
theorem dX10_perform_242 : decode cX10_perform 242 = .ok (.aload_n 0, 1) := by decide +kernel
theorem dX10_perform_243 : decode cX10_perform 243 = .ok (.iload_n 2, 1) := by decide +kernel
theorem dX10_perform_244 : decode cX10_perform 244 = .ok (.invokevirtual 235, 3) := by decide +kernel
theorem dX10_perform_247 : decode cX10_perform 247 = .ok (.ireturn, 1) := by decide +kernel
theorem dX10_perform_248 : decode cX10_perform 248 = .ok (.iconst 0, 1) := by decide +kernel
theorem dX10_perform_249 : decode cX10_perform 249 = .ok (.ireturn, 1) := by decide +kernel
theorem dJx29ce0_ordinal_8abf5_0 : decode cJx29ce0_ordinal_8abf5 0 = .ok (.aload_n 0, 1) := by decide +kernel
theorem dJx29ce0_ordinal_8abf5_1 : decode cJx29ce0_ordinal_8abf5 1 = .ok (.getfield 7, 3) := by decide +kernel
theorem dJx29ce0_ordinal_8abf5_4 : decode cJx29ce0_ordinal_8abf5 4 = .ok (.ireturn, 1) := by decide +kernel
theorem dJ9_max_7cf53_0 : decode cJ9_max_7cf53 0 = .ok (.iload_n 0, 1) := by decide +kernel
theorem dJ9_max_7cf53_1 : decode cJ9_max_7cf53 1 = .ok (.iload_n 1, 1) := by decide +kernel
theorem dJ9_max_7cf53_2 : decode cJ9_max_7cf53 2 = .ok (.if_icmp .lt 7, 3) := by decide +kernel
theorem dJ9_max_7cf53_5 : decode cJ9_max_7cf53 5 = .ok (.iload_n 0, 1) := by decide +kernel
theorem dJ9_max_7cf53_6 : decode cJ9_max_7cf53 6 = .ok (.goto 4, 3) := by decide +kernel
theorem dJ9_max_7cf53_9 : decode cJ9_max_7cf53 9 = .ok (.iload_n 1, 1) := by decide +kernel
theorem dJ9_max_7cf53_10 : decode cJ9_max_7cf53 10 = .ok (.ireturn, 1) := by decide +kernel
theorem dJ9_min_7cf53_0 : decode cJ9_min_7cf53 0 = .ok (.iload_n 0, 1) := by decide +kernel
theorem dJ9_min_7cf53_1 : decode cJ9_min_7cf53 1 = .ok (.iload_n 1, 1) := by decide +kernel
theorem dJ9_min_7cf53_2 : decode cJ9_min_7cf53 2 = .ok (.if_icmp .gt 7, 3) := by decide +kernel
theorem dJ9_min_7cf53_5 : decode cJ9_min_7cf53 5 = .ok (.iload_n 0, 1) := by decide +kernel
theorem dJ9_min_7cf53_6 : decode cJ9_min_7cf53 6 = .ok (.goto 4, 3) := by decide +kernel
theorem dJ9_min_7cf53_9 : decode cJ9_min_7cf53 9 = .ok (.iload_n 1, 1) := by decide +kernel
theorem dJ9_min_7cf53_10 : decode cJ9_min_7cf53 10 = .ok (.ireturn, 1) := by decide +kernel
theorem dJ0_length_8abf5_0 : decode cJ0_length_8abf5 0 = .ok (.aload_n 0, 1) := by decide +kernel
theorem dJ0_length_8abf5_1 : decode cJ0_length_8abf5 1 = .ok (.getfield 9, 3) := by decide +kernel
theorem dJ0_length_8abf5_4 : decode cJ0_length_8abf5 4 = .ok (.arraylength, 1) := by decide +kernel
theorem dJ0_length_8abf5_5 : decode cJ0_length_8abf5 5 = .ok (.aload_n 0, 1) := by decide +kernel
theorem dJ0_length_8abf5_6 : decode cJ0_length_8abf5 6 = .ok (.invokevirtual 335, 3) := by decide +kernel
theorem dJ0_length_8abf5_9 : decode cJ0_length_8abf5 9 = .ok (.ishr, 1) := by decide +kernel
theorem dJ0_length_8abf5_10 : decode cJ0_length_8abf5 10 = .ok (.ireturn, 1) := by decide +kernel
theorem dJ0_charAt_5068e_0 : decode cJ0_charAt_5068e 0 = .ok (.aload_n 0, 1) := by decide +kernel
theorem dJ0_charAt_5068e_1 : decode cJ0_charAt_5068e 1 = .ok (.invokevirtual 492, 3) := by decide +kernel
theorem dJ0_charAt_5068e_4 : decode cJ0_charAt_5068e 4 = .ok (.ifCond .eq 12, 3) := by decide +kernel
theorem dJ0_charAt_5068e_7 : decode cJ0_charAt_5068e 7 = .ok (.aload_n 0, 1) := by decide +kernel
theorem dJ0_charAt_5068e_8 : decode cJ0_charAt_5068e 8 = .ok (.getfield 9, 3) := by decide +kernel
theorem dJ0_charAt_5068e_11 : decode cJ0_charAt_5068e 11 = .ok (.iload_n 1, 1) := by decide +kernel
theorem dJ0_charAt_5068e_12 : decode cJ0_charAt_5068e 12 = .ok (.invokestatic 495, 3) := by decide +kernel
theorem dJ0_charAt_5068e_15 : decode cJ0_charAt_5068e 15 = .ok (.ireturn, 1) := by decide +kernel
theorem dJ0_charAt_5068e_16 : decode cJ0_charAt_5068e 16 = .ok (.aload_n 0, 1) := by decide +kernel
theorem dJ0_charAt_5068e_17 : decode cJ0_charAt_5068e 17 = .ok (.getfield 9, 3) := by decide +kernel
theorem dJ0_charAt_5068e_20 : decode cJ0_charAt_5068e 20 = .ok (.iload_n 1, 1) := by decide +kernel
theorem dJ0_charAt_5068e_21 : decode cJ0_charAt_5068e 21 = .ok (.invokestatic 498, 3) := by decide +kernel
theorem dJ0_charAt_5068e_24 : decode cJ0_charAt_5068e 24 = .ok (.ireturn, 1) := by decide +kernel
theorem dJ0_coder_7d493_0 : decode cJ0_coder_7d493 0 = .ok (.getstatic 38, 3) := by decide +kernel
theorem dJ0_coder_7d493_3 : decode cJ0_coder_7d493 3 = .ok (.ifCond .eq 10, 3) := by decide +kernel
theorem dJ0_coder_7d493_6 : decode cJ0_coder_7d493 6 = .ok (.aload_n 0, 1) := by decide +kernel
theorem dJ0_coder_7d493_7 : decode cJ0_coder_7d493 7 = .ok (.getfield 15, 3) := by decide +kernel
theorem dJ0_coder_7d493_10 : decode cJ0_coder_7d493 10 = .ok (.goto 4, 3) := by decide +kernel
theorem dJ0_coder_7d493_13 : decode cJ0_coder_7d493 13 = .ok (.iconst 1, 1) := by decide +kernel
theorem dJ0_coder_7d493_14 : decode cJ0_coder_7d493 14 = .ok (.ireturn, 1) := by decide +kernel
theorem dJ0_isLatin1_aae02_0 : decode cJ0_isLatin1_aae02 0 = .ok (.getstatic 38, 3) := by decide +kernel
theorem dJ0_isLatin1_aae02_3 : decode cJ0_isLatin1_aae02 3 = .ok (.ifCond .eq 14, 3) := by decide +kernel
theorem dJ0_isLatin1_aae02_6 : decode cJ0_isLatin1_aae02 6 = .ok (.aload_n 0, 1) := by decide +kernel
theorem dJ0_isLatin1_aae02_7 : decode cJ0_isLatin1_aae02 7 = .ok (.getfield 15, 3) := by decide +kernel
theorem dJ0_isLatin1_aae02_10 : decode cJ0_isLatin1_aae02 10 = .ok (.ifCond .ne 7, 3) := by decide +kernel
theorem dJ0_isLatin1_aae02_13 : decode cJ0_isLatin1_aae02 13 = .ok (.iconst 1, 1) := by decide +kernel
theorem dJ0_isLatin1_aae02_14 : decode cJ0_isLatin1_aae02 14 = .ok (.goto 4, 3) := by decide +kernel
theorem dJ0_isLatin1_aae02_17 : decode cJ0_isLatin1_aae02 17 = .ok (.iconst 0, 1) := by decide +kernel
theorem dJ0_isLatin1_aae02_18 : decode cJ0_isLatin1_aae02 18 = .ok (.ireturn, 1) := by decide +kernel
theorem dJ0_checkIndex_df160_0 : decode cJ0_checkIndex_df160 0 = .ok (.iload_n 0, 1) := by decide +kernel
theorem dJ0_checkIndex_df160_1 : decode cJ0_checkIndex_df160 1 = .ok (.iload_n 1, 1) := by decide +kernel
theorem dJ0_checkIndex_df160_2 : decode cJ0_checkIndex_df160 2 = .ok (.getstatic 1053, 3) := by decide +kernel
theorem dJ0_checkIndex_df160_5 : decode cJ0_checkIndex_df160 5 = .ok (.invokestatic 1059, 3) := by decide +kernel
theorem dJ0_checkIndex_df160_8 : decode cJ0_checkIndex_df160 8 = .ok (.pop, 1) := by decide +kernel
theorem dJ0_checkIndex_df160_9 : decode cJ0_checkIndex_df160 9 = .ok (.return_, 1) := by decide +kernel
theorem dJ1_charAt_3b067_0 : decode cJ1_charAt_3b067 0 = .ok (.iload_n 1, 1) := by decide +kernel
theorem dJ1_charAt_3b067_1 : decode cJ1_charAt_3b067 1 = .ok (.aload_n 0, 1) := by decide +kernel
theorem dJ1_charAt_3b067_2 : decode cJ1_charAt_3b067 2 = .ok (.arraylength, 1) := by decide +kernel
theorem dJ1_charAt_3b067_3 : decode cJ1_charAt_3b067 3 = .ok (.invokestatic 9, 3) := by decide +kernel
theorem dJ1_charAt_3b067_6 : decode cJ1_charAt_3b067 6 = .ok (.aload_n 0, 1) := by decide +kernel
theorem dJ1_charAt_3b067_7 : decode cJ1_charAt_3b067 7 = .ok (.iload_n 1, 1) := by decide +kernel
theorem dJ1_charAt_3b067_8 : decode cJ1_charAt_3b067 8 = .ok (.baload, 1) := by decide +kernel
theorem dJ1_charAt_3b067_9 : decode cJ1_charAt_3b067 9 = .ok (.sipush 255, 3) := by decide +kernel
theorem dJ1_charAt_3b067_12 : decode cJ1_charAt_3b067 12 = .ok (.iand, 1) := by decide +kernel
theorem dJ1_charAt_3b067_13 : decode cJ1_charAt_3b067 13 = .ok (.i2c, 1) := by decide +kernel
theorem dJ1_charAt_3b067_14 : decode cJ1_charAt_3b067 14 = .ok (.ireturn, 1) := by decide +kernel
theorem dJ2_getChar_3b067_0 : decode cJ2_getChar_3b067 0 = .ok (.getstatic 44, 3) := by decide +kernel
theorem dJ2_getChar_3b067_3 : decode cJ2_getChar_3b067 3 = .ok (.ifCond .ne 25, 3) := by decide +kernel
theorem dJ2_getChar_3b067_6 : decode cJ2_getChar_3b067 6 = .ok (.iload_n 1, 1) := by decide +kernel
theorem dJ2_getChar_3b067_7 : decode cJ2_getChar_3b067 7 = .ok (.ifCond .lt 11, 3) := by decide +kernel
theorem dJ2_getChar_3b067_10 : decode cJ2_getChar_3b067 10 = .ok (.iload_n 1, 1) := by decide +kernel
theorem dJ2_getChar_3b067_11 : decode cJ2_getChar_3b067 11 = .ok (.aload_n 0, 1) := by decide +kernel
theorem dJ2_getChar_3b067_12 : decode cJ2_getChar_3b067 12 = .ok (.invokestatic 48, 3) := by decide +kernel
theorem dJ2_getChar_3b067_15 : decode cJ2_getChar_3b067 15 = .ok (.if_icmp .lt 13, 3) := by decide +kernel
theorem dJ2_getChar_3b067_18 : decode cJ2_getChar_3b067 18 = .ok (.new 52, 3) := by decide +kernel
theorem dJ2_getChar_3b067_21 : decode cJ2_getChar_3b067 21 = .ok (.dup, 1) := by decide +kernel
theorem dJ2_getChar_3b067_22 : decode cJ2_getChar_3b067 22 = .ok (.ldc 54, 2) := by decide +kernel
theorem dJ2_getChar_3b067_24 : decode cJ2_getChar_3b067 24 = .ok (.invokespecial 56, 3) := by decide +kernel
theorem dJ2_getChar_3b067_27 : decode cJ2_getChar_3b067 27 = .ok (.athrow, 1) := by decide +kernel
theorem dJ2_getChar_3b067_28 : decode cJ2_getChar_3b067 28 = .ok (.iload_n 1, 1) := by decide +kernel
theorem dJ2_getChar_3b067_29 : decode cJ2_getChar_3b067 29 = .ok (.iconst 1, 1) := by decide +kernel
theorem dJ2_getChar_3b067_30 : decode cJ2_getChar_3b067 30 = .ok (.ishl, 1) := by decide +kernel
theorem dJ2_getChar_3b067_31 : decode cJ2_getChar_3b067 31 = .ok (.istore_n 1, 1) := by decide +kernel
theorem dJ2_getChar_3b067_32 : decode cJ2_getChar_3b067 32 = .ok (.aload_n 0, 1) := by decide +kernel
theorem dJ2_getChar_3b067_33 : decode cJ2_getChar_3b067 33 = .ok (.iload_n 1, 1) := by decide +kernel
theorem dJ2_getChar_3b067_34 : decode cJ2_getChar_3b067 34 = .ok (.iinc 1 1, 3) := by decide +kernel
theorem dJ2_getChar_3b067_37 : decode cJ2_getChar_3b067 37 = .ok (.baload, 1) := by decide +kernel
theorem dJ2_getChar_3b067_38 : decode cJ2_getChar_3b067 38 = .ok (.sipush 255, 3) := by decide +kernel
theorem dJ2_getChar_3b067_41 : decode cJ2_getChar_3b067 41 = .ok (.iand, 1) := by decide +kernel
theorem dJ2_getChar_3b067_42 : decode cJ2_getChar_3b067 42 = .ok (.getstatic 59, 3) := by decide +kernel
theorem dJ2_getChar_3b067_45 : decode cJ2_getChar_3b067 45 = .ok (.ishl, 1) := by decide +kernel
theorem dJ2_getChar_3b067_46 : decode cJ2_getChar_3b067 46 = .ok (.aload_n 0, 1) := by decide +kernel
theorem dJ2_getChar_3b067_47 : decode cJ2_getChar_3b067 47 = .ok (.iload_n 1, 1) := by decide +kernel
theorem dJ2_getChar_3b067_48 : decode cJ2_getChar_3b067 48 = .ok (.baload, 1) := by decide +kernel
theorem dJ2_getChar_3b067_49 : decode cJ2_getChar_3b067 49 = .ok (.sipush 255, 3) := by decide +kernel
theorem dJ2_getChar_3b067_52 : decode cJ2_getChar_3b067 52 = .ok (.iand, 1) := by decide +kernel
theorem dJ2_getChar_3b067_53 : decode cJ2_getChar_3b067 53 = .ok (.getstatic 63, 3) := by decide +kernel
theorem dJ2_getChar_3b067_56 : decode cJ2_getChar_3b067 56 = .ok (.ishl, 1) := by decide +kernel
theorem dJ2_getChar_3b067_57 : decode cJ2_getChar_3b067 57 = .ok (.ior, 1) := by decide +kernel
theorem dJ2_getChar_3b067_58 : decode cJ2_getChar_3b067 58 = .ok (.i2c, 1) := by decide +kernel
theorem dJ2_getChar_3b067_59 : decode cJ2_getChar_3b067 59 = .ok (.ireturn, 1) := by decide +kernel
theorem dJ2_length_9d52b_0 : decode cJ2_length_9d52b 0 = .ok (.aload_n 0, 1) := by decide +kernel
theorem dJ2_length_9d52b_1 : decode cJ2_length_9d52b 1 = .ok (.arraylength, 1) := by decide +kernel
theorem dJ2_length_9d52b_2 : decode cJ2_length_9d52b 2 = .ok (.iconst 1, 1) := by decide +kernel
theorem dJ2_length_9d52b_3 : decode cJ2_length_9d52b 3 = .ok (.ishr, 1) := by decide +kernel
theorem dJ2_length_9d52b_4 : decode cJ2_length_9d52b 4 = .ok (.ireturn, 1) := by decide +kernel
theorem dJ2_charAt_3b067_0 : decode cJ2_charAt_3b067 0 = .ok (.iload_n 1, 1) := by decide +kernel
theorem dJ2_charAt_3b067_1 : decode cJ2_charAt_3b067 1 = .ok (.aload_n 0, 1) := by decide +kernel
theorem dJ2_charAt_3b067_2 : decode cJ2_charAt_3b067 2 = .ok (.invokestatic 67, 3) := by decide +kernel
theorem dJ2_charAt_3b067_5 : decode cJ2_charAt_3b067 5 = .ok (.aload_n 0, 1) := by decide +kernel
theorem dJ2_charAt_3b067_6 : decode cJ2_charAt_3b067 6 = .ok (.iload_n 1, 1) := by decide +kernel
theorem dJ2_charAt_3b067_7 : decode cJ2_charAt_3b067 7 = .ok (.invokestatic 71, 3) := by decide +kernel
theorem dJ2_charAt_3b067_10 : decode cJ2_charAt_3b067 10 = .ok (.ireturn, 1) := by decide +kernel
theorem dJ2_checkIndex_2214a_0 : decode cJ2_checkIndex_2214a 0 = .ok (.iload_n 0, 1) := by decide +kernel
theorem dJ2_checkIndex_2214a_1 : decode cJ2_checkIndex_2214a 1 = .ok (.aload_n 1, 1) := by decide +kernel
theorem dJ2_checkIndex_2214a_2 : decode cJ2_checkIndex_2214a 2 = .ok (.invokestatic 48, 3) := by decide +kernel
theorem dJ2_checkIndex_2214a_5 : decode cJ2_checkIndex_2214a 5 = .ok (.invokestatic 414, 3) := by decide +kernel
theorem dJ2_checkIndex_2214a_8 : decode cJ2_checkIndex_2214a 8 = .ok (.return_, 1) := by decide +kernel
theorem dJ7_fill_53178_0 : decode cJ7_fill_53178 0 = .ok (.iconst 0, 1) := by decide +kernel
theorem dJ7_fill_53178_1 : decode cJ7_fill_53178 1 = .ok (.istore_n 2, 1) := by decide +kernel
theorem dJ7_fill_53178_2 : decode cJ7_fill_53178 2 = .ok (.aload_n 0, 1) := by decide +kernel
theorem dJ7_fill_53178_3 : decode cJ7_fill_53178 3 = .ok (.arraylength, 1) := by decide +kernel
theorem dJ7_fill_53178_4 : decode cJ7_fill_53178 4 = .ok (.istore_n 3, 1) := by decide +kernel
theorem dJ7_fill_53178_5 : decode cJ7_fill_53178 5 = .ok (.iload_n 2, 1) := by decide +kernel
theorem dJ7_fill_53178_6 : decode cJ7_fill_53178 6 = .ok (.iload_n 3, 1) := by decide +kernel
theorem dJ7_fill_53178_7 : decode cJ7_fill_53178 7 = .ok (.if_icmp .ge 13, 3) := by decide +kernel
theorem dJ7_fill_53178_10 : decode cJ7_fill_53178 10 = .ok (.aload_n 0, 1) := by decide +kernel
theorem dJ7_fill_53178_11 : decode cJ7_fill_53178 11 = .ok (.iload_n 2, 1) := by decide +kernel
theorem dJ7_fill_53178_12 : decode cJ7_fill_53178 12 = .ok (.iload_n 1, 1) := by decide +kernel
theorem dJ7_fill_53178_13 : decode cJ7_fill_53178 13 = .ok (.iastore, 1) := by decide +kernel
theorem dJ7_fill_53178_14 : decode cJ7_fill_53178 14 = .ok (.iinc 2 1, 3) := by decide +kernel
theorem dJ7_fill_53178_17 : decode cJ7_fill_53178 17 = .ok (.goto (-12), 3) := by decide +kernel
theorem dJ7_fill_53178_20 : decode cJ7_fill_53178 20 = .ok (.return_, 1) := by decide +kernel
theorem dJ3_checkIndex_8e157_0 : decode cJ3_checkIndex_8e157 0 = .ok (.iload_n 0, 1) := by decide +kernel
theorem dJ3_checkIndex_8e157_1 : decode cJ3_checkIndex_8e157 1 = .ok (.ifCond .lt 8, 3) := by decide +kernel
theorem dJ3_checkIndex_8e157_4 : decode cJ3_checkIndex_8e157 4 = .ok (.iload_n 0, 1) := by decide +kernel
theorem dJ3_checkIndex_8e157_5 : decode cJ3_checkIndex_8e157 5 = .ok (.iload_n 1, 1) := by decide +kernel
theorem dJ3_checkIndex_8e157_6 : decode cJ3_checkIndex_8e157 6 = .ok (.if_icmp .lt 10, 3) := by decide +kernel
theorem dJ3_checkIndex_8e157_9 : decode cJ3_checkIndex_8e157 9 = .ok (.aload_n 2, 1) := by decide +kernel
theorem dJ3_checkIndex_8e157_10 : decode cJ3_checkIndex_8e157 10 = .ok (.iload_n 0, 1) := by decide +kernel
theorem dJ3_checkIndex_8e157_11 : decode cJ3_checkIndex_8e157 11 = .ok (.iload_n 1, 1) := by decide +kernel
theorem dJ3_checkIndex_8e157_12 : decode cJ3_checkIndex_8e157 12 = .ok (.invokestatic 95, 3) := by decide +kernel
theorem dJ3_checkIndex_8e157_15 : decode cJ3_checkIndex_8e157 15 = .ok (.athrow, 1) := by decide +kernel
theorem dJ3_checkIndex_8e157_16 : decode cJ3_checkIndex_8e157 16 = .ok (.iload_n 0, 1) := by decide +kernel
theorem dJ3_checkIndex_8e157_17 : decode cJ3_checkIndex_8e157 17 = .ok (.ireturn, 1) := by decide +kernel
