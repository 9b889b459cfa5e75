theorem dX1_init_0 : decode cX1_init 0 = .ok (.aload_n 0, 1) := by decide +kernel
theorem dX1_init_1 : decode cX1_init 1 = .ok (.invokespecial 1, 3) := by decide +kernel
theorem dX1_init_4 : decode cX1_init 4 = .ok (.return_, 1) := by decide +kernel
theorem dX1_plan_0 : decode cX1_plan 0 = .ok (.iload_n 3, 1) := by decide +kernel
theorem dX1_plan_1 : decode cX1_plan 1 = .ok (.aload_n 1, 1) := by decide +kernel
theorem dX1_plan_2 : decode cX1_plan 2 = .ok (.getfield 7, 3) := by decide +kernel
theorem dX1_plan_5 : decode cX1_plan 5 = .ok (.imul, 1) := by decide +kernel
theorem dX1_plan_6 : decode cX1_plan 6 = .ok (.istore 6, 2) := by decide +kernel
theorem dX1_plan_8 : decode cX1_plan 8 = .ok (.iload 6, 2) := by decide +kernel
theorem dX1_plan_10 : decode cX1_plan 10 = .ok (.aload_n 2, 1) := by decide +kernel
theorem dX1_plan_11 : decode cX1_plan 11 = .ok (.getfield 7, 3) := by decide +kernel
theorem dX1_plan_14 : decode cX1_plan 14 = .ok (.iadd, 1) := by decide +kernel
theorem dX1_plan_15 : decode cX1_plan 15 = .ok (.iconst 1, 1) := by decide +kernel
theorem dX1_plan_16 : decode cX1_plan 16 = .ok (.isub, 1) := by decide +kernel
theorem dX1_plan_17 : decode cX1_plan 17 = .ok (.aload_n 2, 1) := by decide +kernel
theorem dX1_plan_18 : decode cX1_plan 18 = .ok (.getfield 7, 3) := by decide +kernel
theorem dX1_plan_21 : decode cX1_plan 21 = .ok (.idiv, 1) := by decide +kernel
theorem dX1_plan_22 : decode cX1_plan 22 = .ok (.istore 7, 2) := by decide +kernel
theorem dX1_plan_24 : decode cX1_plan 24 = .ok (.aload_n 0, 1) := by decide +kernel
theorem dX1_plan_25 : decode cX1_plan 25 = .ok (.iload 4, 2) := by decide +kernel
theorem dX1_plan_27 : decode cX1_plan 27 = .ok (.aload_n 2, 1) := by decide +kernel
theorem dX1_plan_28 : decode cX1_plan 28 = .ok (.getfield 7, 3) := by decide +kernel
theorem dX1_plan_31 : decode cX1_plan 31 = .ok (.imul, 1) := by decide +kernel
theorem dX1_plan_32 : decode cX1_plan 32 = .ok (.putfield 13, 3) := by decide +kernel
theorem dX1_plan_35 : decode cX1_plan 35 = .ok (.aload_n 0, 1) := by decide +kernel
theorem dX1_plan_36 : decode cX1_plan 36 = .ok (.iload 5, 2) := by decide +kernel
theorem dX1_plan_38 : decode cX1_plan 38 = .ok (.iload 7, 2) := by decide +kernel
theorem dX1_plan_40 : decode cX1_plan 40 = .ok (.iload 4, 2) := by decide +kernel
theorem dX1_plan_42 : decode cX1_plan 42 = .ok (.isub, 1) := by decide +kernel
theorem dX1_plan_43 : decode cX1_plan 43 = .ok (.if_icmp .ge 8, 3) := by decide +kernel
theorem dX1_plan_46 : decode cX1_plan 46 = .ok (.iload 5, 2) := by decide +kernel
theorem dX1_plan_48 : decode cX1_plan 48 = .ok (.goto 8, 3) := by decide +kernel
theorem dX1_plan_51 : decode cX1_plan 51 = .ok (.iload 7, 2) := by decide +kernel
theorem dX1_plan_53 : decode cX1_plan 53 = .ok (.iload 4, 2) := by decide +kernel
theorem dX1_plan_55 : decode cX1_plan 55 = .ok (.isub, 1) := by decide +kernel
theorem dX1_plan_56 : decode cX1_plan 56 = .ok (.putfield 18, 3) := by decide +kernel
theorem dX1_plan_59 : decode cX1_plan 59 = .ok (.aload_n 0, 1) := by decide +kernel
theorem dX1_plan_60 : decode cX1_plan 60 = .ok (.aload_n 0, 1) := by decide +kernel
theorem dX1_plan_61 : decode cX1_plan 61 = .ok (.getfield 18, 3) := by decide +kernel
theorem dX1_plan_64 : decode cX1_plan 64 = .ok (.aload_n 2, 1) := by decide +kernel
theorem dX1_plan_65 : decode cX1_plan 65 = .ok (.getfield 7, 3) := by decide +kernel
theorem dX1_plan_68 : decode cX1_plan 68 = .ok (.imul, 1) := by decide +kernel
theorem dX1_plan_69 : decode cX1_plan 69 = .ok (.putfield 21, 3) := by decide +kernel
theorem dX1_plan_72 : decode cX1_plan 72 = .ok (.aload_n 0, 1) := by decide +kernel
theorem dX1_plan_73 : decode cX1_plan 73 = .ok (.aload_n 0, 1) := by decide +kernel
theorem dX1_plan_74 : decode cX1_plan 74 = .ok (.getfield 21, 3) := by decide +kernel
theorem dX1_plan_77 : decode cX1_plan 77 = .ok (.iload 6, 2) := by decide +kernel
theorem dX1_plan_79 : decode cX1_plan 79 = .ok (.aload_n 0, 1) := by decide +kernel
theorem dX1_plan_80 : decode cX1_plan 80 = .ok (.getfield 13, 3) := by decide +kernel
theorem dX1_plan_83 : decode cX1_plan 83 = .ok (.isub, 1) := by decide +kernel
theorem dX1_plan_84 : decode cX1_plan 84 = .ok (.if_icmp .ge 10, 3) := by decide +kernel
theorem dX1_plan_87 : decode cX1_plan 87 = .ok (.aload_n 0, 1) := by decide +kernel
theorem dX1_plan_88 : decode cX1_plan 88 = .ok (.getfield 21, 3) := by decide +kernel
theorem dX1_plan_91 : decode cX1_plan 91 = .ok (.goto 10, 3) := by decide +kernel
theorem dX1_plan_94 : decode cX1_plan 94 = .ok (.iload 6, 2) := by decide +kernel
theorem dX1_plan_96 : decode cX1_plan 96 = .ok (.aload_n 0, 1) := by decide +kernel
theorem dX1_plan_97 : decode cX1_plan 97 = .ok (.getfield 13, 3) := by decide +kernel
theorem dX1_plan_100 : decode cX1_plan 100 = .ok (.isub, 1) := by decide +kernel
theorem dX1_plan_101 : decode cX1_plan 101 = .ok (.putfield 24, 3) := by decide +kernel
theorem dX1_plan_104 : decode cX1_plan 104 = .ok (.aload_n 0, 1) := by decide +kernel
theorem dX1_plan_105 : decode cX1_plan 105 = .ok (.aload_n 0, 1) := by decide +kernel
theorem dX1_plan_106 : decode cX1_plan 106 = .ok (.getfield 13, 3) := by decide +kernel
theorem dX1_plan_109 : decode cX1_plan 109 = .ok (.aload_n 1, 1) := by decide +kernel
theorem dX1_plan_110 : decode cX1_plan 110 = .ok (.getfield 7, 3) := by decide +kernel
theorem dX1_plan_113 : decode cX1_plan 113 = .ok (.idiv, 1) := by decide +kernel
theorem dX1_plan_114 : decode cX1_plan 114 = .ok (.iload 4, 2) := by decide +kernel
theorem dX1_plan_116 : decode cX1_plan 116 = .ok (.aload_n 0, 1) := by decide +kernel
theorem dX1_plan_117 : decode cX1_plan 117 = .ok (.getfield 18, 3) := by decide +kernel
theorem dX1_plan_120 : decode cX1_plan 120 = .ok (.iadd, 1) := by decide +kernel
theorem dX1_plan_121 : decode cX1_plan 121 = .ok (.iconst 1, 1) := by decide +kernel
theorem dX1_plan_122 : decode cX1_plan 122 = .ok (.isub, 1) := by decide +kernel
theorem dX1_plan_123 : decode cX1_plan 123 = .ok (.if_icmp .gt 7, 3) := by decide +kernel
theorem dX1_plan_126 : decode cX1_plan 126 = .ok (.iconst 1, 1) := by decide +kernel
theorem dX1_plan_127 : decode cX1_plan 127 = .ok (.goto 4, 3) := by decide +kernel
theorem dX1_plan_130 : decode cX1_plan 130 = .ok (.iconst 0, 1) := by decide +kernel
theorem dX1_plan_131 : decode cX1_plan 131 = .ok (.putfield 27, 3) := by decide +kernel
theorem dX1_plan_134 : decode cX1_plan 134 = .ok (.aload_n 0, 1) := by decide +kernel
theorem dX1_plan_135 : decode cX1_plan 135 = .ok (.aload_n 0, 1) := by decide +kernel
theorem dX1_plan_136 : decode cX1_plan 136 = .ok (.getfield 27, 3) := by decide +kernel
theorem dX1_plan_139 : decode cX1_plan 139 = .ok (.ifCond .eq 17, 3) := by decide +kernel
theorem dX1_plan_142 : decode cX1_plan 142 = .ok (.aload_n 0, 1) := by decide +kernel
theorem dX1_plan_143 : decode cX1_plan 143 = .ok (.getfield 24, 3) := by decide +kernel
theorem dX1_plan_146 : decode cX1_plan 146 = .ok (.aload_n 0, 1) := by decide +kernel
theorem dX1_plan_147 : decode cX1_plan 147 = .ok (.getfield 21, 3) := by decide +kernel
theorem dX1_plan_150 : decode cX1_plan 150 = .ok (.iadd, 1) := by decide +kernel
theorem dX1_plan_151 : decode cX1_plan 151 = .ok (.iconst 1, 1) := by decide +kernel
theorem dX1_plan_152 : decode cX1_plan 152 = .ok (.iadd, 1) := by decide +kernel
theorem dX1_plan_153 : decode cX1_plan 153 = .ok (.goto 7, 3) := by decide +kernel
theorem dX1_plan_156 : decode cX1_plan 156 = .ok (.aload_n 0, 1) := by decide +kernel
theorem dX1_plan_157 : decode cX1_plan 157 = .ok (.getfield 24, 3) := by decide +kernel
theorem dX1_plan_160 : decode cX1_plan 160 = .ok (.putfield 31, 3) := by decide +kernel
theorem dX1_plan_163 : decode cX1_plan 163 = .ok (.aload_n 0, 1) := by decide +kernel
theorem dX1_plan_164 : decode cX1_plan 164 = .ok (.aload_n 0, 1) := by decide +kernel
theorem dX1_plan_165 : decode cX1_plan 165 = .ok (.getfield 31, 3) := by decide +kernel
theorem dX1_plan_168 : decode cX1_plan 168 = .ok (.aload_n 0, 1) := by decide +kernel
theorem dX1_plan_169 : decode cX1_plan 169 = .ok (.getfield 18, 3) := by decide +kernel
theorem dX1_plan_172 : decode cX1_plan 172 = .ok (.aload_n 2, 1) := by decide +kernel
theorem dX1_plan_173 : decode cX1_plan 173 = .ok (.getfield 34, 3) := by decide +kernel
theorem dX1_plan_176 : decode cX1_plan 176 = .ok (.imul, 1) := by decide +kernel
theorem dX1_plan_177 : decode cX1_plan 177 = .ok (.iadd, 1) := by decide +kernel
theorem dX1_plan_178 : decode cX1_plan 178 = .ok (.iconst 1, 1) := by decide +kernel
theorem dX1_plan_179 : decode cX1_plan 179 = .ok (.iadd, 1) := by decide +kernel
theorem dX1_plan_180 : decode cX1_plan 180 = .ok (.putfield 37, 3) := by decide +kernel
theorem dX1_plan_183 : decode cX1_plan 183 = .ok (.return_, 1) := by decide +kernel
theorem dX3_init_0 : decode cX3_init 0 = .ok (.aload_n 0, 1) := by decide +kernel
theorem dX3_init_1 : decode cX3_init 1 = .ok (.invokespecial 3, 3) := by decide +kernel
theorem dX3_init_4 : decode cX3_init 4 = .ok (.aload_n 0, 1) := by decide +kernel
theorem dX3_init_5 : decode cX3_init 5 = .ok (.sipush 280, 3) := by decide +kernel
theorem dX3_init_8 : decode cX3_init 8 = .ok (.newarray .int, 2) := by decide +kernel
theorem dX3_init_10 : decode cX3_init 10 = .ok (.putfield 9, 3) := by decide +kernel
theorem dX3_init_13 : decode cX3_init 13 = .ok (.aload_n 0, 1) := by decide +kernel
theorem dX3_init_14 : decode cX3_init 14 = .ok (.sipush 280, 3) := by decide +kernel
theorem dX3_init_17 : decode cX3_init 17 = .ok (.newarray .int, 2) := by decide +kernel
theorem dX3_init_19 : decode cX3_init 19 = .ok (.putfield 15, 3) := by decide +kernel
theorem dX3_init_22 : decode cX3_init 22 = .ok (.aload_n 0, 1) := by decide +kernel
theorem dX3_init_23 : decode cX3_init 23 = .ok (.bipush 7, 2) := by decide +kernel
theorem dX3_init_25 : decode cX3_init 25 = .ok (.newarray .int, 2) := by decide +kernel
theorem dX3_init_27 : decode cX3_init 27 = .ok (.putfield 18, 3) := by decide +kernel
theorem dX3_init_30 : decode cX3_init 30 = .ok (.aload_n 0, 1) := by decide +kernel
theorem dX3_init_31 : decode cX3_init 31 = .ok (.iconst (-1), 1) := by decide +kernel
theorem dX3_init_32 : decode cX3_init 32 = .ok (.putfield 21, 3) := by decide +kernel
theorem dX3_init_35 : decode cX3_init 35 = .ok (.return_, 1) := by decide +kernel
theorem dX3_clear_0 : decode cX3_clear 0 = .ok (.aload_n 0, 1) := by decide +kernel
theorem dX3_clear_1 : decode cX3_clear 1 = .ok (.getfield 9, 3) := by decide +kernel
theorem dX3_clear_4 : decode cX3_clear 4 = .ok (.iconst 0, 1) := by decide +kernel
theorem dX3_clear_5 : decode cX3_clear 5 = .ok (.invokestatic 25, 3) := by decide +kernel
theorem dX3_clear_8 : decode cX3_clear 8 = .ok (.aload_n 0, 1) := by decide +kernel
theorem dX3_clear_9 : decode cX3_clear 9 = .ok (.getfield 15, 3) := by decide +kernel
theorem dX3_clear_12 : decode cX3_clear 12 = .ok (.iconst 0, 1) := by decide +kernel
theorem dX3_clear_13 : decode cX3_clear 13 = .ok (.invokestatic 25, 3) := by decide +kernel
theorem dX3_clear_16 : decode cX3_clear 16 = .ok (.aload_n 0, 1) := by decide +kernel
theorem dX3_clear_17 : decode cX3_clear 17 = .ok (.getfield 18, 3) := by decide +kernel
theorem dX3_clear_20 : decode cX3_clear 20 = .ok (.iconst 0, 1) := by decide +kernel
theorem dX3_clear_21 : decode cX3_clear 21 = .ok (.invokestatic 25, 3) := by decide +kernel
theorem dX3_clear_24 : decode cX3_clear 24 = .ok (.aload_n 0, 1) := by decide +kernel
theorem dX3_clear_25 : decode cX3_clear 25 = .ok (.iload_n 1, 1) := by decide +kernel
theorem dX3_clear_26 : decode cX3_clear 26 = .ok (.putfield 31, 3) := by decide +kernel
theorem dX3_clear_29 : decode cX3_clear 29 = .ok (.aload_n 0, 1) := by decide +kernel
theorem dX3_clear_30 : decode cX3_clear 30 = .ok (.iload_n 2, 1) := by decide +kernel
theorem dX3_clear_31 : decode cX3_clear 31 = .ok (.putfield 34, 3) := by decide +kernel
theorem dX3_clear_34 : decode cX3_clear 34 = .ok (.aload_n 0, 1) := by decide +kernel
theorem dX3_clear_35 : decode cX3_clear 35 = .ok (.iconst (-1), 1) := by decide +kernel
theorem dX3_clear_36 : decode cX3_clear 36 = .ok (.putfield 21, 3) := by decide +kernel
theorem dX3_clear_39 : decode cX3_clear 39 = .ok (.return_, 1) := by decide +kernel
theorem dX3_copyFrom_0 : decode cX3_copyFrom 0 = .ok (.aload_n 1, 1) := by decide +kernel
theorem dX3_copyFrom_1 : decode cX3_copyFrom 1 = .ok (.getfield 9, 3) := by decide +kernel
theorem dX3_copyFrom_4 : decode cX3_copyFrom 4 = .ok (.iconst 0, 1) := by decide +kernel
theorem dX3_copyFrom_5 : decode cX3_copyFrom 5 = .ok (.aload_n 0, 1) := by decide +kernel
theorem dX3_copyFrom_6 : decode cX3_copyFrom 6 = .ok (.getfield 9, 3) := by decide +kernel
theorem dX3_copyFrom_9 : decode cX3_copyFrom 9 = .ok (.iconst 0, 1) := by decide +kernel
theorem dX3_copyFrom_10 : decode cX3_copyFrom 10 = .ok (.aload_n 0, 1) := by decide +kernel
theorem dX3_copyFrom_11 : decode cX3_copyFrom 11 = .ok (.getfield 9, 3) := by decide +kernel
theorem dX3_copyFrom_14 : decode cX3_copyFrom 14 = .ok (.arraylength, 1) := by decide +kernel
theorem dX3_copyFrom_15 : decode cX3_copyFrom 15 = .ok (.invokestatic 37, 3) := by decide +kernel
theorem dX3_copyFrom_18 : decode cX3_copyFrom 18 = .ok (.aload_n 1, 1) := by decide +kernel
theorem dX3_copyFrom_19 : decode cX3_copyFrom 19 = .ok (.getfield 15, 3) := by decide +kernel
theorem dX3_copyFrom_22 : decode cX3_copyFrom 22 = .ok (.iconst 0, 1) := by decide +kernel
theorem dX3_copyFrom_23 : decode cX3_copyFrom 23 = .ok (.aload_n 0, 1) := by decide +kernel
theorem dX3_copyFrom_24 : decode cX3_copyFrom 24 = .ok (.getfield 15, 3) := by decide +kernel
theorem dX3_copyFrom_27 : decode cX3_copyFrom 27 = .ok (.iconst 0, 1) := by decide +kernel
theorem dX3_copyFrom_28 : decode cX3_copyFrom 28 = .ok (.aload_n 0, 1) := by decide +kernel
theorem dX3_copyFrom_29 : decode cX3_copyFrom 29 = .ok (.getfield 15, 3) := by decide +kernel
theorem dX3_copyFrom_32 : decode cX3_copyFrom 32 = .ok (.arraylength, 1) := by decide +kernel
theorem dX3_copyFrom_33 : decode cX3_copyFrom 33 = .ok (.invokestatic 37, 3) := by decide +kernel
theorem dX3_copyFrom_36 : decode cX3_copyFrom 36 = .ok (.aload_n 1, 1) := by decide +kernel
theorem dX3_copyFrom_37 : decode cX3_copyFrom 37 = .ok (.getfield 18, 3) := by decide +kernel
theorem dX3_copyFrom_40 : decode cX3_copyFrom 40 = .ok (.iconst 0, 1) := by decide +kernel
theorem dX3_copyFrom_41 : decode cX3_copyFrom 41 = .ok (.aload_n 0, 1) := by decide +kernel
theorem dX3_copyFrom_42 : decode cX3_copyFrom 42 = .ok (.getfield 18, 3) := by decide +kernel
theorem dX3_copyFrom_45 : decode cX3_copyFrom 45 = .ok (.iconst 0, 1) := by decide +kernel
theorem dX3_copyFrom_46 : decode cX3_copyFrom 46 = .ok (.aload_n 0, 1) := by decide +kernel
theorem dX3_copyFrom_47 : decode cX3_copyFrom 47 = .ok (.getfield 18, 3) := by decide +kernel
theorem dX3_copyFrom_50 : decode cX3_copyFrom 50 = .ok (.arraylength, 1) := by decide +kernel
theorem dX3_copyFrom_51 : decode cX3_copyFrom 51 = .ok (.invokestatic 37, 3) := by decide +kernel
theorem dX3_copyFrom_54 : decode cX3_copyFrom 54 = .ok (.aload_n 0, 1) := by decide +kernel
theorem dX3_copyFrom_55 : decode cX3_copyFrom 55 = .ok (.aload_n 1, 1) := by decide +kernel
theorem dX3_copyFrom_56 : decode cX3_copyFrom 56 = .ok (.getfield 31, 3) := by decide +kernel
theorem dX3_copyFrom_59 : decode cX3_copyFrom 59 = .ok (.putfield 31, 3) := by decide +kernel
theorem dX3_copyFrom_62 : decode cX3_copyFrom 62 = .ok (.aload_n 0, 1) := by decide +kernel
theorem dX3_copyFrom_63 : decode cX3_copyFrom 63 = .ok (.aload_n 1, 1) := by decide +kernel
theorem dX3_copyFrom_64 : decode cX3_copyFrom 64 = .ok (.getfield 34, 3) := by decide +kernel
theorem dX3_copyFrom_67 : decode cX3_copyFrom 67 = .ok (.putfield 34, 3) := by decide +kernel
theorem dX3_copyFrom_70 : decode cX3_copyFrom 70 = .ok (.aload_n 0, 1) := by decide +kernel
theorem dX3_copyFrom_71 : decode cX3_copyFrom 71 = .ok (.aload_n 1, 1) := by decide +kernel
theorem dX3_copyFrom_72 : decode cX3_copyFrom 72 = .ok (.getfield 21, 3) := by decide +kernel
theorem dX3_copyFrom_75 : decode cX3_copyFrom 75 = .ok (.putfield 21, 3) := by decide +kernel
theorem dX3_copyFrom_78 : decode cX3_copyFrom 78 = .ok (.return_, 1) := by decide +kernel
theorem dX3_hasDisk_0 : decode cX3_hasDisk 0 = .ok (.iload_n 1, 1) := by decide +kernel
theorem dX3_hasDisk_1 : decode cX3_hasDisk 1 = .ok (.ifCond .lt 15, 3) := by decide +kernel
theorem dX3_hasDisk_4 : decode cX3_hasDisk 4 = .ok (.iload_n 1, 1) := by decide +kernel
theorem dX3_hasDisk_5 : decode cX3_hasDisk 5 = .ok (.aload_n 0, 1) := by decide +kernel
theorem dX3_hasDisk_6 : decode cX3_hasDisk 6 = .ok (.getfield 31, 3) := by decide +kernel
theorem dX3_hasDisk_9 : decode cX3_hasDisk 9 = .ok (.if_icmp .ge 7, 3) := by decide +kernel
theorem dX3_hasDisk_12 : decode cX3_hasDisk 12 = .ok (.iconst 1, 1) := by decide +kernel
theorem dX3_hasDisk_13 : decode cX3_hasDisk 13 = .ok (.goto 4, 3) := by decide +kernel
theorem dX3_hasDisk_16 : decode cX3_hasDisk 16 = .ok (.iconst 0, 1) := by decide +kernel
theorem dX3_hasDisk_17 : decode cX3_hasDisk 17 = .ok (.ireturn, 1) := by decide +kernel
theorem dX3_has_0 : decode cX3_has 0 = .ok (.iload_n 1, 1) := by decide +kernel
theorem dX3_has_1 : decode cX3_has 1 = .ok (.ifCond .lt 27, 3) := by decide +kernel
theorem dX3_has_4 : decode cX3_has 4 = .ok (.iload_n 1, 1) := by decide +kernel
theorem dX3_has_5 : decode cX3_has 5 = .ok (.aload_n 0, 1) := by decide +kernel
theorem dX3_has_6 : decode cX3_has 6 = .ok (.getfield 31, 3) := by decide +kernel
theorem dX3_has_9 : decode cX3_has 9 = .ok (.if_icmp .ge 19, 3) := by decide +kernel
theorem dX3_has_12 : decode cX3_has 12 = .ok (.iload_n 2, 1) := by decide +kernel
theorem dX3_has_13 : decode cX3_has 13 = .ok (.ifCond .lt 15, 3) := by decide +kernel
theorem dX3_has_16 : decode cX3_has 16 = .ok (.iload_n 2, 1) := by decide +kernel
theorem dX3_has_17 : decode cX3_has 17 = .ok (.aload_n 0, 1) := by decide +kernel
theorem dX3_has_18 : decode cX3_has 18 = .ok (.getfield 34, 3) := by decide +kernel
theorem dX3_has_21 : decode cX3_has 21 = .ok (.if_icmp .ge 7, 3) := by decide +kernel
theorem dX3_has_24 : decode cX3_has 24 = .ok (.iconst 1, 1) := by decide +kernel
theorem dX3_has_25 : decode cX3_has 25 = .ok (.goto 4, 3) := by decide +kernel
theorem dX3_has_28 : decode cX3_has 28 = .ok (.iconst 0, 1) := by decide +kernel
theorem dX3_has_29 : decode cX3_has 29 = .ok (.ireturn, 1) := by decide +kernel
theorem dX3_readable_0 : decode cX3_readable 0 = .ok (.iload_n 1, 1) := by decide +kernel
theorem dX3_readable_1 : decode cX3_readable 1 = .ok (.ifCond .lt 49, 3) := by decide +kernel
theorem dX3_readable_4 : decode cX3_readable 4 = .ok (.iload_n 1, 1) := by decide +kernel
theorem dX3_readable_5 : decode cX3_readable 5 = .ok (.aload_n 0, 1) := by decide +kernel
theorem dX3_readable_6 : decode cX3_readable 6 = .ok (.getfield 31, 3) := by decide +kernel
theorem dX3_readable_9 : decode cX3_readable 9 = .ok (.if_icmp .ge 41, 3) := by decide +kernel
theorem dX3_readable_12 : decode cX3_readable 12 = .ok (.iload_n 2, 1) := by decide +kernel
theorem dX3_readable_13 : decode cX3_readable 13 = .ok (.ifCond .lt 37, 3) := by decide +kernel
theorem dX3_readable_16 : decode cX3_readable 16 = .ok (.iload_n 2, 1) := by decide +kernel
theorem dX3_readable_17 : decode cX3_readable 17 = .ok (.aload_n 0, 1) := by decide +kernel
theorem dX3_readable_18 : decode cX3_readable 18 = .ok (.getfield 34, 3) := by decide +kernel
theorem dX3_readable_21 : decode cX3_readable 21 = .ok (.if_icmp .ge 29, 3) := by decide +kernel
theorem dX3_readable_24 : decode cX3_readable 24 = .ok (.iload_n 1, 1) := by decide +kernel
theorem dX3_readable_25 : decode cX3_readable 25 = .ok (.aload_n 0, 1) := by decide +kernel
theorem dX3_readable_26 : decode cX3_readable 26 = .ok (.getfield 21, 3) := by decide +kernel
theorem dX3_readable_29 : decode cX3_readable 29 = .ok (.if_icmp .eq 21, 3) := by decide +kernel
theorem dX3_readable_32 : decode cX3_readable 32 = .ok (.aload_n 0, 1) := by decide +kernel
theorem dX3_readable_33 : decode cX3_readable 33 = .ok (.getfield 15, 3) := by decide +kernel
theorem dX3_readable_36 : decode cX3_readable 36 = .ok (.iload_n 1, 1) := by decide +kernel
theorem dX3_readable_37 : decode cX3_readable 37 = .ok (.bipush 40, 2) := by decide +kernel
theorem dX3_readable_39 : decode cX3_readable 39 = .ok (.imul, 1) := by decide +kernel
theorem dX3_readable_40 : decode cX3_readable 40 = .ok (.iload_n 2, 1) := by decide +kernel
theorem dX3_readable_41 : decode cX3_readable 41 = .ok (.iadd, 1) := by decide +kernel
theorem dX3_readable_42 : decode cX3_readable 42 = .ok (.iaload, 1) := by decide +kernel
theorem dX3_readable_43 : decode cX3_readable 43 = .ok (.ifCond .ne 7, 3) := by decide +kernel
theorem dX3_readable_46 : decode cX3_readable 46 = .ok (.iconst 1, 1) := by decide +kernel
theorem dX3_readable_47 : decode cX3_readable 47 = .ok (.goto 4, 3) := by decide +kernel
theorem dX3_readable_50 : decode cX3_readable 50 = .ok (.iconst 0, 1) := by decide +kernel
theorem dX3_readable_51 : decode cX3_readable 51 = .ok (.ireturn, 1) := by decide +kernel
theorem dX3_gaps_0 : decode cX3_gaps 0 = .ok (.iload_n 2, 1) := by decide +kernel
theorem dX3_gaps_1 : decode cX3_gaps 1 = .ok (.ifCond .lt 11, 3) := by decide +kernel
theorem dX3_gaps_4 : decode cX3_gaps 4 = .ok (.iload_n 2, 1) := by decide +kernel
theorem dX3_gaps_5 : decode cX3_gaps 5 = .ok (.aload_n 0, 1) := by decide +kernel
theorem dX3_gaps_6 : decode cX3_gaps 6 = .ok (.getfield 34, 3) := by decide +kernel
theorem dX3_gaps_9 : decode cX3_gaps 9 = .ok (.if_icmp .lt 8, 3) := by decide +kernel
theorem dX3_gaps_12 : decode cX3_gaps 12 = .ok (.aload_n 1, 1) := by decide +kernel
theorem dX3_gaps_13 : decode cX3_gaps 13 = .ok (.getfield 43, 3) := by decide +kernel
theorem dX3_gaps_16 : decode cX3_gaps 16 = .ok (.ireturn, 1) := by decide +kernel
theorem dX3_gaps_17 : decode cX3_gaps 17 = .ok (.iconst 0, 1) := by decide +kernel
theorem dX3_gaps_18 : decode cX3_gaps 18 = .ok (.istore_n 3, 1) := by decide +kernel
theorem dX3_gaps_19 : decode cX3_gaps 19 = .ok (.iconst 0, 1) := by decide +kernel
theorem dX3_gaps_20 : decode cX3_gaps 20 = .ok (.istore 4, 2) := by decide +kernel
theorem dX3_gaps_22 : decode cX3_gaps 22 = .ok (.iload 4, 2) := by decide +kernel
theorem dX3_gaps_24 : decode cX3_gaps 24 = .ok (.aload_n 1, 1) := by decide +kernel
theorem dX3_gaps_25 : decode cX3_gaps 25 = .ok (.getfield 43, 3) := by decide +kernel
theorem dX3_gaps_28 : decode cX3_gaps 28 = .ok (.if_icmp .ge 45, 3) := by decide +kernel
theorem dX3_gaps_31 : decode cX3_gaps 31 = .ok (.iload 4, 2) := by decide +kernel
theorem dX3_gaps_33 : decode cX3_gaps 33 = .ok (.aload_n 0, 1) := by decide +kernel
theorem dX3_gaps_34 : decode cX3_gaps 34 = .ok (.getfield 31, 3) := by decide +kernel
theorem dX3_gaps_37 : decode cX3_gaps 37 = .ok (.if_icmp .ge 36, 3) := by decide +kernel
theorem dX3_gaps_40 : decode cX3_gaps 40 = .ok (.iload 4, 2) := by decide +kernel
theorem dX3_gaps_42 : decode cX3_gaps 42 = .ok (.aload_n 0, 1) := by decide +kernel
theorem dX3_gaps_43 : decode cX3_gaps 43 = .ok (.getfield 21, 3) := by decide +kernel
theorem dX3_gaps_46 : decode cX3_gaps 46 = .ok (.if_icmp .eq 18, 3) := by decide +kernel
theorem dX3_gaps_49 : decode cX3_gaps 49 = .ok (.aload_n 0, 1) := by decide +kernel
theorem dX3_gaps_50 : decode cX3_gaps 50 = .ok (.getfield 15, 3) := by decide +kernel
theorem dX3_gaps_53 : decode cX3_gaps 53 = .ok (.iload 4, 2) := by decide +kernel
theorem dX3_gaps_55 : decode cX3_gaps 55 = .ok (.bipush 40, 2) := by decide +kernel
theorem dX3_gaps_57 : decode cX3_gaps 57 = .ok (.imul, 1) := by decide +kernel
theorem dX3_gaps_58 : decode cX3_gaps 58 = .ok (.iload_n 2, 1) := by decide +kernel
theorem dX3_gaps_59 : decode cX3_gaps 59 = .ok (.iadd, 1) := by decide +kernel
theorem dX3_gaps_60 : decode cX3_gaps 60 = .ok (.iaload, 1) := by decide +kernel
theorem dX3_gaps_61 : decode cX3_gaps 61 = .ok (.ifCond .eq 6, 3) := by decide +kernel
theorem dX3_gaps_64 : decode cX3_gaps 64 = .ok (.iinc 3 1, 3) := by decide +kernel
theorem dX3_gaps_67 : decode cX3_gaps 67 = .ok (.iinc 4 1, 3) := by decide +kernel
theorem dX3_gaps_70 : decode cX3_gaps 70 = .ok (.goto (-48), 3) := by decide +kernel
theorem dX3_gaps_73 : decode cX3_gaps 73 = .ok (.iload_n 3, 1) := by decide +kernel
theorem dX3_gaps_74 : decode cX3_gaps 74 = .ok (.ireturn, 1) := by decide +kernel
theorem dX3_xoredBut_0 : decode cX3_xoredBut 0 = .ok (.iload_n 3, 1) := by decide +kernel
theorem dX3_xoredBut_1 : decode cX3_xoredBut 1 = .ok (.ifCond .lt 11, 3) := by decide +kernel
theorem dX3_xoredBut_4 : decode cX3_xoredBut 4 = .ok (.iload_n 3, 1) := by decide +kernel
theorem dX3_xoredBut_5 : decode cX3_xoredBut 5 = .ok (.aload_n 0, 1) := by decide +kernel
theorem dX3_xoredBut_6 : decode cX3_xoredBut 6 = .ok (.getfield 34, 3) := by decide +kernel
theorem dX3_xoredBut_9 : decode cX3_xoredBut 9 = .ok (.if_icmp .lt 5, 3) := by decide +kernel
theorem dX3_xoredBut_12 : decode cX3_xoredBut 12 = .ok (.iconst 0, 1) := by decide +kernel
theorem dX3_xoredBut_13 : decode cX3_xoredBut 13 = .ok (.ireturn, 1) := by decide +kernel
theorem dX3_xoredBut_14 : decode cX3_xoredBut 14 = .ok (.iconst 0, 1) := by decide +kernel
theorem dX3_xoredBut_15 : decode cX3_xoredBut 15 = .ok (.istore 4, 2) := by decide +kernel
theorem dX3_xoredBut_17 : decode cX3_xoredBut 17 = .ok (.iconst 0, 1) := by decide +kernel
theorem dX3_xoredBut_18 : decode cX3_xoredBut 18 = .ok (.istore 5, 2) := by decide +kernel
theorem dX3_xoredBut_20 : decode cX3_xoredBut 20 = .ok (.iload 5, 2) := by decide +kernel
theorem dX3_xoredBut_22 : decode cX3_xoredBut 22 = .ok (.aload_n 1, 1) := by decide +kernel
theorem dX3_xoredBut_23 : decode cX3_xoredBut 23 = .ok (.getfield 43, 3) := by decide +kernel
theorem dX3_xoredBut_26 : decode cX3_xoredBut 26 = .ok (.if_icmp .ge 41, 3) := by decide +kernel
theorem dX3_xoredBut_29 : decode cX3_xoredBut 29 = .ok (.iload 5, 2) := by decide +kernel
theorem dX3_xoredBut_31 : decode cX3_xoredBut 31 = .ok (.aload_n 0, 1) := by decide +kernel
theorem dX3_xoredBut_32 : decode cX3_xoredBut 32 = .ok (.getfield 31, 3) := by decide +kernel
theorem dX3_xoredBut_35 : decode cX3_xoredBut 35 = .ok (.if_icmp .ge 32, 3) := by decide +kernel
theorem dX3_xoredBut_38 : decode cX3_xoredBut 38 = .ok (.iload 5, 2) := by decide +kernel
theorem dX3_xoredBut_40 : decode cX3_xoredBut 40 = .ok (.iload_n 2, 1) := by decide +kernel
theorem dX3_xoredBut_41 : decode cX3_xoredBut 41 = .ok (.if_icmp .eq 20, 3) := by decide +kernel
theorem dX3_xoredBut_44 : decode cX3_xoredBut 44 = .ok (.iload 4, 2) := by decide +kernel
theorem dX3_xoredBut_46 : decode cX3_xoredBut 46 = .ok (.aload_n 0, 1) := by decide +kernel
theorem dX3_xoredBut_47 : decode cX3_xoredBut 47 = .ok (.getfield 9, 3) := by decide +kernel
theorem dX3_xoredBut_50 : decode cX3_xoredBut 50 = .ok (.iload 5, 2) := by decide +kernel
theorem dX3_xoredBut_52 : decode cX3_xoredBut 52 = .ok (.bipush 40, 2) := by decide +kernel
theorem dX3_xoredBut_54 : decode cX3_xoredBut 54 = .ok (.imul, 1) := by decide +kernel
theorem dX3_xoredBut_55 : decode cX3_xoredBut 55 = .ok (.iload_n 3, 1) := by decide +kernel
theorem dX3_xoredBut_56 : decode cX3_xoredBut 56 = .ok (.iadd, 1) := by decide +kernel
theorem dX3_xoredBut_57 : decode cX3_xoredBut 57 = .ok (.iaload, 1) := by decide +kernel
theorem dX3_xoredBut_58 : decode cX3_xoredBut 58 = .ok (.ixor, 1) := by decide +kernel
theorem dX3_xoredBut_59 : decode cX3_xoredBut 59 = .ok (.istore 4, 2) := by decide +kernel
theorem dX3_xoredBut_61 : decode cX3_xoredBut 61 = .ok (.iinc 5 1, 3) := by decide +kernel
theorem dX3_xoredBut_64 : decode cX3_xoredBut 64 = .ok (.goto (-44), 3) := by decide +kernel
theorem dX3_xoredBut_67 : decode cX3_xoredBut 67 = .ok (.iload 4, 2) := by decide +kernel
theorem dX3_xoredBut_69 : decode cX3_xoredBut 69 = .ok (.ireturn, 1) := by decide +kernel
theorem dX3_readsFor_0 : decode cX3_readsFor 0 = .ok (.aload_n 0, 1) := by decide +kernel
theorem dX3_readsFor_1 : decode cX3_readsFor 1 = .ok (.iload_n 2, 1) := by decide +kernel
theorem dX3_readsFor_2 : decode cX3_readsFor 2 = .ok (.iload_n 3, 1) := by decide +kernel
theorem dX3_readsFor_3 : decode cX3_readsFor 3 = .ok (.invokevirtual 48, 3) := by decide +kernel
theorem dX3_readsFor_6 : decode cX3_readsFor 6 = .ok (.ifCond .eq 5, 3) := by decide +kernel
theorem dX3_readsFor_9 : decode cX3_readsFor 9 = .ok (.iconst 1, 1) := by decide +kernel
theorem dX3_readsFor_10 : decode cX3_readsFor 10 = .ok (.ireturn, 1) := by decide +kernel
theorem dX3_readsFor_11 : decode cX3_readsFor 11 = .ok (.aload_n 0, 1) := by decide +kernel
theorem dX3_readsFor_12 : decode cX3_readsFor 12 = .ok (.aload_n 1, 1) := by decide +kernel
theorem dX3_readsFor_13 : decode cX3_readsFor 13 = .ok (.iload_n 3, 1) := by decide +kernel
theorem dX3_readsFor_14 : decode cX3_readsFor 14 = .ok (.invokevirtual 52, 3) := by decide +kernel
theorem dX3_readsFor_17 : decode cX3_readsFor 17 = .ok (.iconst 1, 1) := by decide +kernel
theorem dX3_readsFor_18 : decode cX3_readsFor 18 = .ok (.if_icmp .ne 10, 3) := by decide +kernel
theorem dX3_readsFor_21 : decode cX3_readsFor 21 = .ok (.aload_n 1, 1) := by decide +kernel
theorem dX3_readsFor_22 : decode cX3_readsFor 22 = .ok (.getfield 56, 3) := by decide +kernel
theorem dX3_readsFor_25 : decode cX3_readsFor 25 = .ok (.goto 4, 3) := by decide +kernel
theorem dX3_readsFor_28 : decode cX3_readsFor 28 = .ok (.iconst 0, 1) := by decide +kernel
theorem dX3_readsFor_29 : decode cX3_readsFor 29 = .ok (.ireturn, 1) := by decide +kernel
theorem dX3_valueOf_0 : decode cX3_valueOf 0 = .ok (.aload_n 0, 1) := by decide +kernel
theorem dX3_valueOf_1 : decode cX3_valueOf 1 = .ok (.iload_n 2, 1) := by decide +kernel
theorem dX3_valueOf_2 : decode cX3_valueOf 2 = .ok (.iload_n 3, 1) := by decide +kernel
theorem dX3_valueOf_3 : decode cX3_valueOf 3 = .ok (.invokevirtual 48, 3) := by decide +kernel
theorem dX3_valueOf_6 : decode cX3_valueOf 6 = .ok (.ifCond .eq 17, 3) := by decide +kernel
theorem dX3_valueOf_9 : decode cX3_valueOf 9 = .ok (.aload_n 0, 1) := by decide +kernel
theorem dX3_valueOf_10 : decode cX3_valueOf 10 = .ok (.getfield 9, 3) := by decide +kernel
theorem dX3_valueOf_13 : decode cX3_valueOf 13 = .ok (.iload_n 2, 1) := by decide +kernel
theorem dX3_valueOf_14 : decode cX3_valueOf 14 = .ok (.bipush 40, 2) := by decide +kernel
theorem dX3_valueOf_16 : decode cX3_valueOf 16 = .ok (.imul, 1) := by decide +kernel
theorem dX3_valueOf_17 : decode cX3_valueOf 17 = .ok (.iload_n 3, 1) := by decide +kernel
theorem dX3_valueOf_18 : decode cX3_valueOf 18 = .ok (.iadd, 1) := by decide +kernel
theorem dX3_valueOf_19 : decode cX3_valueOf 19 = .ok (.iaload, 1) := by decide +kernel
theorem dX3_valueOf_20 : decode cX3_valueOf 20 = .ok (.goto 10, 3) := by decide +kernel
theorem dX3_valueOf_23 : decode cX3_valueOf 23 = .ok (.aload_n 0, 1) := by decide +kernel
theorem dX3_valueOf_24 : decode cX3_valueOf 24 = .ok (.aload_n 1, 1) := by decide +kernel
theorem dX3_valueOf_25 : decode cX3_valueOf 25 = .ok (.iload_n 2, 1) := by decide +kernel
theorem dX3_valueOf_26 : decode cX3_valueOf 26 = .ok (.iload_n 3, 1) := by decide +kernel
theorem dX3_valueOf_27 : decode cX3_valueOf 27 = .ok (.invokevirtual 59, 3) := by decide +kernel
theorem dX3_valueOf_30 : decode cX3_valueOf 30 = .ok (.ireturn, 1) := by decide +kernel
theorem dX3_canStore_0 : decode cX3_canStore 0 = .ok (.aload_n 1, 1) := by decide +kernel
theorem dX3_canStore_1 : decode cX3_canStore 1 = .ok (.iload_n 2, 1) := by decide +kernel
theorem dX3_canStore_2 : decode cX3_canStore 2 = .ok (.invokevirtual 63, 3) := by decide +kernel
theorem dX3_canStore_5 : decode cX3_canStore 5 = .ok (.istore_n 3, 1) := by decide +kernel
theorem dX3_canStore_6 : decode cX3_canStore 6 = .ok (.aload_n 0, 1) := by decide +kernel
theorem dX3_canStore_7 : decode cX3_canStore 7 = .ok (.aload_n 1, 1) := by decide +kernel
theorem dX3_canStore_8 : decode cX3_canStore 8 = .ok (.iload_n 3, 1) := by decide +kernel
theorem dX3_canStore_9 : decode cX3_canStore 9 = .ok (.invokevirtual 52, 3) := by decide +kernel
theorem dX3_canStore_12 : decode cX3_canStore 12 = .ok (.iconst 1, 1) := by decide +kernel
theorem dX3_canStore_13 : decode cX3_canStore 13 = .ok (.if_icmp .gt 5, 3) := by decide +kernel
theorem dX3_canStore_16 : decode cX3_canStore 16 = .ok (.iconst 1, 1) := by decide +kernel
theorem dX3_canStore_17 : decode cX3_canStore 17 = .ok (.ireturn, 1) := by decide +kernel
theorem dX3_canStore_18 : decode cX3_canStore 18 = .ok (.aload_n 1, 1) := by decide +kernel
theorem dX3_canStore_19 : decode cX3_canStore 19 = .ok (.iload_n 2, 1) := by decide +kernel
theorem dX3_canStore_20 : decode cX3_canStore 20 = .ok (.invokevirtual 67, 3) := by decide +kernel
theorem dX3_canStore_23 : decode cX3_canStore 23 = .ok (.istore 4, 2) := by decide +kernel
theorem dX3_canStore_25 : decode cX3_canStore 25 = .ok (.aload_n 1, 1) := by decide +kernel
theorem dX3_canStore_26 : decode cX3_canStore 26 = .ok (.iload_n 3, 1) := by decide +kernel
theorem dX3_canStore_27 : decode cX3_canStore 27 = .ok (.invokevirtual 70, 3) := by decide +kernel
theorem dX3_canStore_30 : decode cX3_canStore 30 = .ok (.istore 5, 2) := by decide +kernel
theorem dX3_canStore_32 : decode cX3_canStore 32 = .ok (.iconst 0, 1) := by decide +kernel
theorem dX3_canStore_33 : decode cX3_canStore 33 = .ok (.istore 6, 2) := by decide +kernel
theorem dX3_canStore_35 : decode cX3_canStore 35 = .ok (.iload 6, 2) := by decide +kernel
theorem dX3_canStore_37 : decode cX3_canStore 37 = .ok (.aload_n 1, 1) := by decide +kernel
theorem dX3_canStore_38 : decode cX3_canStore 38 = .ok (.getfield 43, 3) := by decide +kernel
theorem dX3_canStore_41 : decode cX3_canStore 41 = .ok (.if_icmp .ge 35, 3) := by decide +kernel
theorem dX3_canStore_44 : decode cX3_canStore 44 = .ok (.iload 6, 2) := by decide +kernel
theorem dX3_canStore_46 : decode cX3_canStore 46 = .ok (.iload 4, 2) := by decide +kernel
theorem dX3_canStore_48 : decode cX3_canStore 48 = .ok (.if_icmp .eq 22, 3) := by decide +kernel
theorem dX3_canStore_51 : decode cX3_canStore 51 = .ok (.iload 6, 2) := by decide +kernel
theorem dX3_canStore_53 : decode cX3_canStore 53 = .ok (.iload 5, 2) := by decide +kernel
theorem dX3_canStore_55 : decode cX3_canStore 55 = .ok (.if_icmp .eq 15, 3) := by decide +kernel
theorem dX3_canStore_58 : decode cX3_canStore 58 = .ok (.aload_n 0, 1) := by decide +kernel
theorem dX3_canStore_59 : decode cX3_canStore 59 = .ok (.iload 6, 2) := by decide +kernel
theorem dX3_canStore_61 : decode cX3_canStore 61 = .ok (.iload_n 3, 1) := by decide +kernel
theorem dX3_canStore_62 : decode cX3_canStore 62 = .ok (.invokevirtual 48, 3) := by decide +kernel
theorem dX3_canStore_65 : decode cX3_canStore 65 = .ok (.ifCond .ne 5, 3) := by decide +kernel
theorem dX3_canStore_68 : decode cX3_canStore 68 = .ok (.iconst 0, 1) := by decide +kernel
theorem dX3_canStore_69 : decode cX3_canStore 69 = .ok (.ireturn, 1) := by decide +kernel
theorem dX3_canStore_70 : decode cX3_canStore 70 = .ok (.iinc 6 1, 3) := by decide +kernel
theorem dX3_canStore_73 : decode cX3_canStore 73 = .ok (.goto (-38), 3) := by decide +kernel
theorem dX3_canStore_76 : decode cX3_canStore 76 = .ok (.iconst 1, 1) := by decide +kernel
theorem dX3_canStore_77 : decode cX3_canStore 77 = .ok (.ireturn, 1) := by decide +kernel
theorem dX3_store_0 : decode cX3_store 0 = .ok (.aload_n 1, 1) := by decide +kernel
theorem dX3_store_1 : decode cX3_store 1 = .ok (.iload_n 2, 1) := by decide +kernel
theorem dX3_store_2 : decode cX3_store 2 = .ok (.invokevirtual 63, 3) := by decide +kernel
theorem dX3_store_5 : decode cX3_store 5 = .ok (.istore 4, 2) := by decide +kernel
theorem dX3_store_7 : decode cX3_store 7 = .ok (.aload_n 1, 1) := by decide +kernel
theorem dX3_store_8 : decode cX3_store 8 = .ok (.iload_n 2, 1) := by decide +kernel
theorem dX3_store_9 : decode cX3_store 9 = .ok (.invokevirtual 67, 3) := by decide +kernel
theorem dX3_store_12 : decode cX3_store 12 = .ok (.istore 5, 2) := by decide +kernel
theorem dX3_store_14 : decode cX3_store 14 = .ok (.aload_n 1, 1) := by decide +kernel
theorem dX3_store_15 : decode cX3_store 15 = .ok (.iload 4, 2) := by decide +kernel
theorem dX3_store_17 : decode cX3_store 17 = .ok (.invokevirtual 70, 3) := by decide +kernel
theorem dX3_store_20 : decode cX3_store 20 = .ok (.istore 6, 2) := by decide +kernel
theorem dX3_store_22 : decode cX3_store 22 = .ok (.iload_n 3, 1) := by decide +kernel
theorem dX3_store_23 : decode cX3_store 23 = .ok (.istore 7, 2) := by decide +kernel
theorem dX3_store_25 : decode cX3_store 25 = .ok (.iconst 0, 1) := by decide +kernel
theorem dX3_store_26 : decode cX3_store 26 = .ok (.istore 8, 2) := by decide +kernel
theorem dX3_store_28 : decode cX3_store 28 = .ok (.iload 8, 2) := by decide +kernel
theorem dX3_store_30 : decode cX3_store 30 = .ok (.aload_n 1, 1) := by decide +kernel
theorem dX3_store_31 : decode cX3_store 31 = .ok (.getfield 43, 3) := by decide +kernel
theorem dX3_store_34 : decode cX3_store 34 = .ok (.if_icmp .ge 37, 3) := by decide +kernel
theorem dX3_store_37 : decode cX3_store 37 = .ok (.iload 8, 2) := by decide +kernel
theorem dX3_store_39 : decode cX3_store 39 = .ok (.iload 5, 2) := by decide +kernel
theorem dX3_store_41 : decode cX3_store 41 = .ok (.if_icmp .eq 24, 3) := by decide +kernel
theorem dX3_store_44 : decode cX3_store 44 = .ok (.iload 8, 2) := by decide +kernel
theorem dX3_store_46 : decode cX3_store 46 = .ok (.iload 6, 2) := by decide +kernel
theorem dX3_store_48 : decode cX3_store 48 = .ok (.if_icmp .eq 17, 3) := by decide +kernel
theorem dX3_store_51 : decode cX3_store 51 = .ok (.iload 7, 2) := by decide +kernel
theorem dX3_store_53 : decode cX3_store 53 = .ok (.aload_n 0, 1) := by decide +kernel
theorem dX3_store_54 : decode cX3_store 54 = .ok (.aload_n 1, 1) := by decide +kernel
theorem dX3_store_55 : decode cX3_store 55 = .ok (.iload 8, 2) := by decide +kernel
theorem dX3_store_57 : decode cX3_store 57 = .ok (.iload 4, 2) := by decide +kernel
theorem dX3_store_59 : decode cX3_store 59 = .ok (.invokevirtual 73, 3) := by decide +kernel
theorem dX3_store_62 : decode cX3_store 62 = .ok (.ixor, 1) := by decide +kernel
theorem dX3_store_63 : decode cX3_store 63 = .ok (.istore 7, 2) := by decide +kernel
theorem dX3_store_65 : decode cX3_store 65 = .ok (.iinc 8 1, 3) := by decide +kernel
theorem dX3_store_68 : decode cX3_store 68 = .ok (.goto (-40), 3) := by decide +kernel
theorem dX3_store_71 : decode cX3_store 71 = .ok (.aload_n 0, 1) := by decide +kernel
theorem dX3_store_72 : decode cX3_store 72 = .ok (.iload 5, 2) := by decide +kernel
theorem dX3_store_74 : decode cX3_store 74 = .ok (.iload 4, 2) := by decide +kernel
theorem dX3_store_76 : decode cX3_store 76 = .ok (.iload_n 3, 1) := by decide +kernel
theorem dX3_store_77 : decode cX3_store 77 = .ok (.invokevirtual 76, 3) := by decide +kernel
theorem dX3_store_80 : decode cX3_store 80 = .ok (.aload_n 0, 1) := by decide +kernel
theorem dX3_store_81 : decode cX3_store 81 = .ok (.iload 6, 2) := by decide +kernel
theorem dX3_store_83 : decode cX3_store 83 = .ok (.iload 4, 2) := by decide +kernel
theorem dX3_store_85 : decode cX3_store 85 = .ok (.iload 7, 2) := by decide +kernel
theorem dX3_store_87 : decode cX3_store 87 = .ok (.invokevirtual 76, 3) := by decide +kernel
theorem dX3_store_90 : decode cX3_store 90 = .ok (.return_, 1) := by decide +kernel
theorem dX3_lay_0 : decode cX3_lay 0 = .ok (.aload_n 0, 1) := by decide +kernel
theorem dX3_lay_1 : decode cX3_lay 1 = .ok (.iload_n 1, 1) := by decide +kernel
theorem dX3_lay_2 : decode cX3_lay 2 = .ok (.iload_n 2, 1) := by decide +kernel
theorem dX3_lay_3 : decode cX3_lay 3 = .ok (.iload_n 3, 1) := by decide +kernel
theorem dX3_lay_4 : decode cX3_lay 4 = .ok (.invokevirtual 80, 3) := by decide +kernel
theorem dX3_lay_7 : decode cX3_lay 7 = .ok (.ifCond .eq 13, 3) := by decide +kernel
theorem dX3_lay_10 : decode cX3_lay 10 = .ok (.aload_n 0, 1) := by decide +kernel
theorem dX3_lay_11 : decode cX3_lay 11 = .ok (.getfield 18, 3) := by decide +kernel
theorem dX3_lay_14 : decode cX3_lay 14 = .ok (.iload_n 1, 1) := by decide +kernel
theorem dX3_lay_15 : decode cX3_lay 15 = .ok (.dup2, 1) := by decide +kernel
theorem dX3_lay_16 : decode cX3_lay 16 = .ok (.iaload, 1) := by decide +kernel
theorem dX3_lay_17 : decode cX3_lay 17 = .ok (.iconst 1, 1) := by decide +kernel
theorem dX3_lay_18 : decode cX3_lay 18 = .ok (.iadd, 1) := by decide +kernel
theorem dX3_lay_19 : decode cX3_lay 19 = .ok (.iastore, 1) := by decide +kernel
theorem dX3_lay_20 : decode cX3_lay 20 = .ok (.return_, 1) := by decide +kernel
theorem dX3_put_0 : decode cX3_put 0 = .ok (.iload_n 1, 1) := by decide +kernel
theorem dX3_put_1 : decode cX3_put 1 = .ok (.ifCond .lt 31, 3) := by decide +kernel
theorem dX3_put_4 : decode cX3_put 4 = .ok (.iload_n 1, 1) := by decide +kernel
theorem dX3_put_5 : decode cX3_put 5 = .ok (.aload_n 0, 1) := by decide +kernel
theorem dX3_put_6 : decode cX3_put 6 = .ok (.getfield 31, 3) := by decide +kernel
theorem dX3_put_9 : decode cX3_put 9 = .ok (.if_icmp .ge 23, 3) := by decide +kernel
theorem dX3_put_12 : decode cX3_put 12 = .ok (.iload_n 2, 1) := by decide +kernel
theorem dX3_put_13 : decode cX3_put 13 = .ok (.ifCond .lt 19, 3) := by decide +kernel
theorem dX3_put_16 : decode cX3_put 16 = .ok (.iload_n 2, 1) := by decide +kernel
theorem dX3_put_17 : decode cX3_put 17 = .ok (.aload_n 0, 1) := by decide +kernel
theorem dX3_put_18 : decode cX3_put 18 = .ok (.getfield 34, 3) := by decide +kernel
theorem dX3_put_21 : decode cX3_put 21 = .ok (.if_icmp .ge 11, 3) := by decide +kernel
theorem dX3_put_24 : decode cX3_put 24 = .ok (.iload_n 1, 1) := by decide +kernel
theorem dX3_put_25 : decode cX3_put 25 = .ok (.aload_n 0, 1) := by decide +kernel
theorem dX3_put_26 : decode cX3_put 26 = .ok (.getfield 21, 3) := by decide +kernel
theorem dX3_put_29 : decode cX3_put 29 = .ok (.if_icmp .ne 5, 3) := by decide +kernel
theorem dX3_put_32 : decode cX3_put 32 = .ok (.iconst 0, 1) := by decide +kernel
theorem dX3_put_33 : decode cX3_put 33 = .ok (.ireturn, 1) := by decide +kernel
theorem dX3_put_34 : decode cX3_put 34 = .ok (.aload_n 0, 1) := by decide +kernel
theorem dX3_put_35 : decode cX3_put 35 = .ok (.getfield 9, 3) := by decide +kernel
theorem dX3_put_38 : decode cX3_put 38 = .ok (.iload_n 1, 1) := by decide +kernel
theorem dX3_put_39 : decode cX3_put 39 = .ok (.bipush 40, 2) := by decide +kernel
theorem dX3_put_41 : decode cX3_put 41 = .ok (.imul, 1) := by decide +kernel
theorem dX3_put_42 : decode cX3_put 42 = .ok (.iload_n 2, 1) := by decide +kernel
theorem dX3_put_43 : decode cX3_put 43 = .ok (.iadd, 1) := by decide +kernel
theorem dX3_put_44 : decode cX3_put 44 = .ok (.iload_n 3, 1) := by decide +kernel
theorem dX3_put_45 : decode cX3_put 45 = .ok (.iastore, 1) := by decide +kernel
theorem dX3_put_46 : decode cX3_put 46 = .ok (.aload_n 0, 1) := by decide +kernel
theorem dX3_put_47 : decode cX3_put 47 = .ok (.getfield 15, 3) := by decide +kernel
theorem dX3_put_50 : decode cX3_put 50 = .ok (.iload_n 1, 1) := by decide +kernel
theorem dX3_put_51 : decode cX3_put 51 = .ok (.bipush 40, 2) := by decide +kernel
theorem dX3_put_53 : decode cX3_put 53 = .ok (.imul, 1) := by decide +kernel
theorem dX3_put_54 : decode cX3_put 54 = .ok (.iload_n 2, 1) := by decide +kernel
theorem dX3_put_55 : decode cX3_put 55 = .ok (.iadd, 1) := by decide +kernel
theorem dX3_put_56 : decode cX3_put 56 = .ok (.iconst 0, 1) := by decide +kernel
theorem dX3_put_57 : decode cX3_put 57 = .ok (.iastore, 1) := by decide +kernel
theorem dX3_put_58 : decode cX3_put 58 = .ok (.iconst 1, 1) := by decide +kernel
theorem dX3_put_59 : decode cX3_put 59 = .ok (.ireturn, 1) := by decide +kernel
theorem dX3_spoil_0 : decode cX3_spoil 0 = .ok (.aload_n 0, 1) := by decide +kernel
theorem dX3_spoil_1 : decode cX3_spoil 1 = .ok (.iload_n 1, 1) := by decide +kernel
theorem dX3_spoil_2 : decode cX3_spoil 2 = .ok (.iload_n 2, 1) := by decide +kernel
theorem dX3_spoil_3 : decode cX3_spoil 3 = .ok (.invokevirtual 48, 3) := by decide +kernel
theorem dX3_spoil_6 : decode cX3_spoil 6 = .ok (.ifCond .ne 5, 3) := by decide +kernel
theorem dX3_spoil_9 : decode cX3_spoil 9 = .ok (.iconst 0, 1) := by decide +kernel
theorem dX3_spoil_10 : decode cX3_spoil 10 = .ok (.ireturn, 1) := by decide +kernel
theorem dX3_spoil_11 : decode cX3_spoil 11 = .ok (.aload_n 0, 1) := by decide +kernel
theorem dX3_spoil_12 : decode cX3_spoil 12 = .ok (.getfield 15, 3) := by decide +kernel
theorem dX3_spoil_15 : decode cX3_spoil 15 = .ok (.iload_n 1, 1) := by decide +kernel
theorem dX3_spoil_16 : decode cX3_spoil 16 = .ok (.bipush 40, 2) := by decide +kernel
theorem dX3_spoil_18 : decode cX3_spoil 18 = .ok (.imul, 1) := by decide +kernel
theorem dX3_spoil_19 : decode cX3_spoil 19 = .ok (.iload_n 2, 1) := by decide +kernel
theorem dX3_spoil_20 : decode cX3_spoil 20 = .ok (.iadd, 1) := by decide +kernel
theorem dX3_spoil_21 : decode cX3_spoil 21 = .ok (.iconst 1, 1) := by decide +kernel
theorem dX3_spoil_22 : decode cX3_spoil 22 = .ok (.iastore, 1) := by decide +kernel
theorem dX3_spoil_23 : decode cX3_spoil 23 = .ok (.iconst 1, 1) := by decide +kernel
theorem dX3_spoil_24 : decode cX3_spoil 24 = .ok (.ireturn, 1) := by decide +kernel
theorem dX3_loseOne_0 : decode cX3_loseOne 0 = .ok (.aload_n 0, 1) := by decide +kernel
theorem dX3_loseOne_1 : decode cX3_loseOne 1 = .ok (.getfield 21, 3) := by decide +kernel
theorem dX3_loseOne_4 : decode cX3_loseOne 4 = .ok (.iconst (-1), 1) := by decide +kernel
theorem dX3_loseOne_5 : decode cX3_loseOne 5 = .ok (.if_icmp .ne 11, 3) := by decide +kernel
theorem dX3_loseOne_8 : decode cX3_loseOne 8 = .ok (.aload_n 0, 1) := by decide +kernel
theorem dX3_loseOne_9 : decode cX3_loseOne 9 = .ok (.iload_n 1, 1) := by decide +kernel
theorem dX3_loseOne_10 : decode cX3_loseOne 10 = .ok (.invokevirtual 84, 3) := by decide +kernel
theorem dX3_loseOne_13 : decode cX3_loseOne 13 = .ok (.ifCond .ne 5, 3) := by decide +kernel
theorem dX3_loseOne_16 : decode cX3_loseOne 16 = .ok (.iconst 0, 1) := by decide +kernel
theorem dX3_loseOne_17 : decode cX3_loseOne 17 = .ok (.ireturn, 1) := by decide +kernel
theorem dX3_loseOne_18 : decode cX3_loseOne 18 = .ok (.aload_n 0, 1) := by decide +kernel
theorem dX3_loseOne_19 : decode cX3_loseOne 19 = .ok (.iload_n 1, 1) := by decide +kernel
theorem dX3_loseOne_20 : decode cX3_loseOne 20 = .ok (.putfield 21, 3) := by decide +kernel
theorem dX3_loseOne_23 : decode cX3_loseOne 23 = .ok (.iconst 1, 1) := by decide +kernel
theorem dX3_loseOne_24 : decode cX3_loseOne 24 = .ok (.ireturn, 1) := by decide +kernel
theorem dX3_addDisk_0 : decode cX3_addDisk 0 = .ok (.aload_n 0, 1) := by decide +kernel
theorem dX3_addDisk_1 : decode cX3_addDisk 1 = .ok (.getfield 31, 3) := by decide +kernel
theorem dX3_addDisk_4 : decode cX3_addDisk 4 = .ok (.bipush 7, 2) := by decide +kernel
theorem dX3_addDisk_6 : decode cX3_addDisk 6 = .ok (.if_icmp .ge 13, 3) := by decide +kernel
theorem dX3_addDisk_9 : decode cX3_addDisk 9 = .ok (.aload_n 0, 1) := by decide +kernel
theorem dX3_addDisk_10 : decode cX3_addDisk 10 = .ok (.dup, 1) := by decide +kernel
theorem dX3_addDisk_11 : decode cX3_addDisk 11 = .ok (.getfield 31, 3) := by decide +kernel
theorem dX3_addDisk_14 : decode cX3_addDisk 14 = .ok (.iconst 1, 1) := by decide +kernel
theorem dX3_addDisk_15 : decode cX3_addDisk 15 = .ok (.iadd, 1) := by decide +kernel
theorem dX3_addDisk_16 : decode cX3_addDisk 16 = .ok (.putfield 31, 3) := by decide +kernel
theorem dX3_addDisk_19 : decode cX3_addDisk 19 = .ok (.return_, 1) := by decide +kernel
theorem dX3_rebuild_0 : decode cX3_rebuild 0 = .ok (.aload_n 0, 1) := by decide +kernel
theorem dX3_rebuild_1 : decode cX3_rebuild 1 = .ok (.aload_n 0, 1) := by decide +kernel
theorem dX3_rebuild_2 : decode cX3_rebuild 2 = .ok (.getfield 21, 3) := by decide +kernel
theorem dX3_rebuild_5 : decode cX3_rebuild 5 = .ok (.iload_n 2, 1) := by decide +kernel
theorem dX3_rebuild_6 : decode cX3_rebuild 6 = .ok (.invokevirtual 88, 3) := by decide +kernel
theorem dX3_rebuild_9 : decode cX3_rebuild 9 = .ok (.ifCond .ne 5, 3) := by decide +kernel
theorem dX3_rebuild_12 : decode cX3_rebuild 12 = .ok (.iconst 1, 1) := by decide +kernel
theorem dX3_rebuild_13 : decode cX3_rebuild 13 = .ok (.ireturn, 1) := by decide +kernel
theorem dX3_rebuild_14 : decode cX3_rebuild 14 = .ok (.aload_n 0, 1) := by decide +kernel
theorem dX3_rebuild_15 : decode cX3_rebuild 15 = .ok (.getfield 21, 3) := by decide +kernel
theorem dX3_rebuild_18 : decode cX3_rebuild 18 = .ok (.aload_n 1, 1) := by decide +kernel
theorem dX3_rebuild_19 : decode cX3_rebuild 19 = .ok (.getfield 43, 3) := by decide +kernel
theorem dX3_rebuild_22 : decode cX3_rebuild 22 = .ok (.if_icmp .ge 7, 3) := by decide +kernel
theorem dX3_rebuild_25 : decode cX3_rebuild 25 = .ok (.iconst 1, 1) := by decide +kernel
theorem dX3_rebuild_26 : decode cX3_rebuild 26 = .ok (.goto 4, 3) := by decide +kernel
theorem dX3_rebuild_29 : decode cX3_rebuild 29 = .ok (.iconst 0, 1) := by decide +kernel
theorem dX3_rebuild_30 : decode cX3_rebuild 30 = .ok (.istore_n 3, 1) := by decide +kernel
theorem dX3_rebuild_31 : decode cX3_rebuild 31 = .ok (.iload_n 3, 1) := by decide +kernel
theorem dX3_rebuild_32 : decode cX3_rebuild 32 = .ok (.ifCond .eq 13, 3) := by decide +kernel
theorem dX3_rebuild_35 : decode cX3_rebuild 35 = .ok (.aload_n 0, 1) := by decide +kernel
theorem dX3_rebuild_36 : decode cX3_rebuild 36 = .ok (.aload_n 1, 1) := by decide +kernel
theorem dX3_rebuild_37 : decode cX3_rebuild 37 = .ok (.iload_n 2, 1) := by decide +kernel
theorem dX3_rebuild_38 : decode cX3_rebuild 38 = .ok (.invokevirtual 52, 3) := by decide +kernel
theorem dX3_rebuild_41 : decode cX3_rebuild 41 = .ok (.iconst 1, 1) := by decide +kernel
theorem dX3_rebuild_42 : decode cX3_rebuild 42 = .ok (.if_icmp .ne 7, 3) := by decide +kernel
theorem dX3_rebuild_45 : decode cX3_rebuild 45 = .ok (.iconst 1, 1) := by decide +kernel
theorem dX3_rebuild_46 : decode cX3_rebuild 46 = .ok (.goto 4, 3) := by decide +kernel
theorem dX3_rebuild_49 : decode cX3_rebuild 49 = .ok (.iconst 0, 1) := by decide +kernel
theorem dX3_rebuild_50 : decode cX3_rebuild 50 = .ok (.istore 4, 2) := by decide +kernel
theorem dX3_rebuild_52 : decode cX3_rebuild 52 = .ok (.aload_n 0, 1) := by decide +kernel
theorem dX3_rebuild_53 : decode cX3_rebuild 53 = .ok (.getfield 9, 3) := by decide +kernel
theorem dX3_rebuild_56 : decode cX3_rebuild 56 = .ok (.aload_n 0, 1) := by decide +kernel
theorem dX3_rebuild_57 : decode cX3_rebuild 57 = .ok (.getfield 21, 3) := by decide +kernel
theorem dX3_rebuild_60 : decode cX3_rebuild 60 = .ok (.bipush 40, 2) := by decide +kernel
theorem dX3_rebuild_62 : decode cX3_rebuild 62 = .ok (.imul, 1) := by decide +kernel
theorem dX3_rebuild_63 : decode cX3_rebuild 63 = .ok (.iload_n 2, 1) := by decide +kernel
theorem dX3_rebuild_64 : decode cX3_rebuild 64 = .ok (.iadd, 1) := by decide +kernel
theorem dX3_rebuild_65 : decode cX3_rebuild 65 = .ok (.iload_n 3, 1) := by decide +kernel
theorem dX3_rebuild_66 : decode cX3_rebuild 66 = .ok (.ifCond .eq 21, 3) := by decide +kernel
theorem dX3_rebuild_69 : decode cX3_rebuild 69 = .ok (.iload 4, 2) := by decide +kernel
theorem dX3_rebuild_71 : decode cX3_rebuild 71 = .ok (.ifCond .eq 16, 3) := by decide +kernel
theorem dX3_rebuild_74 : decode cX3_rebuild 74 = .ok (.aload_n 0, 1) := by decide +kernel
theorem dX3_rebuild_75 : decode cX3_rebuild 75 = .ok (.aload_n 1, 1) := by decide +kernel
theorem dX3_rebuild_76 : decode cX3_rebuild 76 = .ok (.aload_n 0, 1) := by decide +kernel
theorem dX3_rebuild_77 : decode cX3_rebuild 77 = .ok (.getfield 21, 3) := by decide +kernel
theorem dX3_rebuild_80 : decode cX3_rebuild 80 = .ok (.iload_n 2, 1) := by decide +kernel
theorem dX3_rebuild_81 : decode cX3_rebuild 81 = .ok (.invokevirtual 59, 3) := by decide +kernel
theorem dX3_rebuild_84 : decode cX3_rebuild 84 = .ok (.goto 4, 3) := by decide +kernel
theorem dX3_rebuild_87 : decode cX3_rebuild 87 = .ok (.iconst 0, 1) := by decide +kernel
theorem dX3_rebuild_88 : decode cX3_rebuild 88 = .ok (.iastore, 1) := by decide +kernel
theorem dX3_rebuild_89 : decode cX3_rebuild 89 = .ok (.aload_n 0, 1) := by decide +kernel
theorem dX3_rebuild_90 : decode cX3_rebuild 90 = .ok (.getfield 15, 3) := by decide +kernel
theorem dX3_rebuild_93 : decode cX3_rebuild 93 = .ok (.aload_n 0, 1) := by decide +kernel
theorem dX3_rebuild_94 : decode cX3_rebuild 94 = .ok (.getfield 21, 3) := by decide +kernel
theorem dX3_rebuild_97 : decode cX3_rebuild 97 = .ok (.bipush 40, 2) := by decide +kernel
theorem dX3_rebuild_99 : decode cX3_rebuild 99 = .ok (.imul, 1) := by decide +kernel
theorem dX3_rebuild_100 : decode cX3_rebuild 100 = .ok (.iload_n 2, 1) := by decide +kernel
theorem dX3_rebuild_101 : decode cX3_rebuild 101 = .ok (.iadd, 1) := by decide +kernel
theorem dX3_rebuild_102 : decode cX3_rebuild 102 = .ok (.iload 4, 2) := by decide +kernel
theorem dX3_rebuild_104 : decode cX3_rebuild 104 = .ok (.ifCond .eq 7, 3) := by decide +kernel
theorem dX3_rebuild_107 : decode cX3_rebuild 107 = .ok (.iconst 0, 1) := by decide +kernel
theorem dX3_rebuild_108 : decode cX3_rebuild 108 = .ok (.goto 4, 3) := by decide +kernel
theorem dX3_rebuild_111 : decode cX3_rebuild 111 = .ok (.iconst 1, 1) := by decide +kernel
theorem dX3_rebuild_112 : decode cX3_rebuild 112 = .ok (.iastore, 1) := by decide +kernel
theorem dX3_rebuild_113 : decode cX3_rebuild 113 = .ok (.iload 4, 2) := by decide +kernel
theorem dX3_rebuild_115 : decode cX3_rebuild 115 = .ok (.ireturn, 1) := by decide +kernel
theorem dX3_clearRowsFrom_0 : decode cX3_clearRowsFrom 0 = .ok (.iconst 0, 1) := by decide +kernel
theorem dX3_clearRowsFrom_1 : decode cX3_clearRowsFrom 1 = .ok (.istore_n 2, 1) := by decide +kernel
theorem dX3_clearRowsFrom_2 : decode cX3_clearRowsFrom 2 = .ok (.iload_n 2, 1) := by decide +kernel
theorem dX3_clearRowsFrom_3 : decode cX3_clearRowsFrom 3 = .ok (.aload_n 0, 1) := by decide +kernel
theorem dX3_clearRowsFrom_4 : decode cX3_clearRowsFrom 4 = .ok (.getfield 31, 3) := by decide +kernel
theorem dX3_clearRowsFrom_7 : decode cX3_clearRowsFrom 7 = .ok (.if_icmp .ge 53, 3) := by decide +kernel
theorem dX3_clearRowsFrom_10 : decode cX3_clearRowsFrom 10 = .ok (.iload_n 1, 1) := by decide +kernel
theorem dX3_clearRowsFrom_11 : decode cX3_clearRowsFrom 11 = .ok (.iconst 0, 1) := by decide +kernel
theorem dX3_clearRowsFrom_12 : decode cX3_clearRowsFrom 12 = .ok (.invokestatic 91, 3) := by decide +kernel
theorem dX3_clearRowsFrom_15 : decode cX3_clearRowsFrom 15 = .ok (.istore_n 3, 1) := by decide +kernel
theorem dX3_clearRowsFrom_16 : decode cX3_clearRowsFrom 16 = .ok (.iload_n 3, 1) := by decide +kernel
theorem dX3_clearRowsFrom_17 : decode cX3_clearRowsFrom 17 = .ok (.aload_n 0, 1) := by decide +kernel
theorem dX3_clearRowsFrom_18 : decode cX3_clearRowsFrom 18 = .ok (.getfield 34, 3) := by decide +kernel
theorem dX3_clearRowsFrom_21 : decode cX3_clearRowsFrom 21 = .ok (.if_icmp .ge 33, 3) := by decide +kernel
theorem dX3_clearRowsFrom_24 : decode cX3_clearRowsFrom 24 = .ok (.aload_n 0, 1) := by decide +kernel
theorem dX3_clearRowsFrom_25 : decode cX3_clearRowsFrom 25 = .ok (.getfield 9, 3) := by decide +kernel
theorem dX3_clearRowsFrom_28 : decode cX3_clearRowsFrom 28 = .ok (.iload_n 2, 1) := by decide +kernel
theorem dX3_clearRowsFrom_29 : decode cX3_clearRowsFrom 29 = .ok (.bipush 40, 2) := by decide +kernel
theorem dX3_clearRowsFrom_31 : decode cX3_clearRowsFrom 31 = .ok (.imul, 1) := by decide +kernel
theorem dX3_clearRowsFrom_32 : decode cX3_clearRowsFrom 32 = .ok (.iload_n 3, 1) := by decide +kernel
theorem dX3_clearRowsFrom_33 : decode cX3_clearRowsFrom 33 = .ok (.iadd, 1) := by decide +kernel
theorem dX3_clearRowsFrom_34 : decode cX3_clearRowsFrom 34 = .ok (.iconst 0, 1) := by decide +kernel
theorem dX3_clearRowsFrom_35 : decode cX3_clearRowsFrom 35 = .ok (.iastore, 1) := by decide +kernel
theorem dX3_clearRowsFrom_36 : decode cX3_clearRowsFrom 36 = .ok (.aload_n 0, 1) := by decide +kernel
theorem dX3_clearRowsFrom_37 : decode cX3_clearRowsFrom 37 = .ok (.getfield 15, 3) := by decide +kernel
theorem dX3_clearRowsFrom_40 : decode cX3_clearRowsFrom 40 = .ok (.iload_n 2, 1) := by decide +kernel
theorem dX3_clearRowsFrom_41 : decode cX3_clearRowsFrom 41 = .ok (.bipush 40, 2) := by decide +kernel
theorem dX3_clearRowsFrom_43 : decode cX3_clearRowsFrom 43 = .ok (.imul, 1) := by decide +kernel
theorem dX3_clearRowsFrom_44 : decode cX3_clearRowsFrom 44 = .ok (.iload_n 3, 1) := by decide +kernel
theorem dX3_clearRowsFrom_45 : decode cX3_clearRowsFrom 45 = .ok (.iadd, 1) := by decide +kernel
theorem dX3_clearRowsFrom_46 : decode cX3_clearRowsFrom 46 = .ok (.iconst 0, 1) := by decide +kernel
theorem dX3_clearRowsFrom_47 : decode cX3_clearRowsFrom 47 = .ok (.iastore, 1) := by decide +kernel
theorem dX3_clearRowsFrom_48 : decode cX3_clearRowsFrom 48 = .ok (.iinc 3 1, 3) := by decide +kernel
theorem dX3_clearRowsFrom_51 : decode cX3_clearRowsFrom 51 = .ok (.goto (-35), 3) := by decide +kernel
theorem dX3_clearRowsFrom_54 : decode cX3_clearRowsFrom 54 = .ok (.iinc 2 1, 3) := by decide +kernel
theorem dX3_clearRowsFrom_57 : decode cX3_clearRowsFrom 57 = .ok (.goto (-55), 3) := by decide +kernel
theorem dX3_clearRowsFrom_60 : decode cX3_clearRowsFrom 60 = .ok (.return_, 1) := by decide +kernel
theorem dX3_mismatched_0 : decode cX3_mismatched 0 = .ok (.aload_n 0, 1) := by decide +kernel
theorem dX3_mismatched_1 : decode cX3_mismatched 1 = .ok (.aload_n 1, 1) := by decide +kernel
theorem dX3_mismatched_2 : decode cX3_mismatched 2 = .ok (.iload_n 2, 1) := by decide +kernel
theorem dX3_mismatched_3 : decode cX3_mismatched 3 = .ok (.invokevirtual 52, 3) := by decide +kernel
theorem dX3_mismatched_6 : decode cX3_mismatched 6 = .ok (.ifCond .ne 17, 3) := by decide +kernel
theorem dX3_mismatched_9 : decode cX3_mismatched 9 = .ok (.aload_n 0, 1) := by decide +kernel
theorem dX3_mismatched_10 : decode cX3_mismatched 10 = .ok (.aload_n 1, 1) := by decide +kernel
theorem dX3_mismatched_11 : decode cX3_mismatched 11 = .ok (.iconst (-1), 1) := by decide +kernel
theorem dX3_mismatched_12 : decode cX3_mismatched 12 = .ok (.iload_n 2, 1) := by decide +kernel
theorem dX3_mismatched_13 : decode cX3_mismatched 13 = .ok (.invokevirtual 59, 3) := by decide +kernel
theorem dX3_mismatched_16 : decode cX3_mismatched 16 = .ok (.ifCond .eq 7, 3) := by decide +kernel
theorem dX3_mismatched_19 : decode cX3_mismatched 19 = .ok (.iconst 1, 1) := by decide +kernel
theorem dX3_mismatched_20 : decode cX3_mismatched 20 = .ok (.goto 4, 3) := by decide +kernel
theorem dX3_mismatched_23 : decode cX3_mismatched 23 = .ok (.iconst 0, 1) := by decide +kernel
theorem dX3_mismatched_24 : decode cX3_mismatched 24 = .ok (.ireturn, 1) := by decide +kernel
theorem dX3_layParity_0 : decode cX3_layParity 0 = .ok (.aload_n 1, 1) := by decide +kernel
theorem dX3_layParity_1 : decode cX3_layParity 1 = .ok (.iload_n 2, 1) := by decide +kernel
theorem dX3_layParity_2 : decode cX3_layParity 2 = .ok (.invokevirtual 70, 3) := by decide +kernel
theorem dX3_layParity_5 : decode cX3_layParity 5 = .ok (.istore_n 3, 1) := by decide +kernel
theorem dX3_layParity_6 : decode cX3_layParity 6 = .ok (.aload_n 0, 1) := by decide +kernel
theorem dX3_layParity_7 : decode cX3_layParity 7 = .ok (.iload_n 3, 1) := by decide +kernel
theorem dX3_layParity_8 : decode cX3_layParity 8 = .ok (.iload_n 2, 1) := by decide +kernel
theorem dX3_layParity_9 : decode cX3_layParity 9 = .ok (.aload_n 0, 1) := by decide +kernel
theorem dX3_layParity_10 : decode cX3_layParity 10 = .ok (.aload_n 1, 1) := by decide +kernel
theorem dX3_layParity_11 : decode cX3_layParity 11 = .ok (.iload_n 3, 1) := by decide +kernel
theorem dX3_layParity_12 : decode cX3_layParity 12 = .ok (.iload_n 2, 1) := by decide +kernel
theorem dX3_layParity_13 : decode cX3_layParity 13 = .ok (.invokevirtual 59, 3) := by decide +kernel
theorem dX3_layParity_16 : decode cX3_layParity 16 = .ok (.invokevirtual 76, 3) := by decide +kernel
theorem dX3_layParity_19 : decode cX3_layParity 19 = .ok (.return_, 1) := by decide +kernel
theorem dX3_badWords_0 : decode cX3_badWords 0 = .ok (.iconst 0, 1) := by decide +kernel
theorem dX3_badWords_1 : decode cX3_badWords 1 = .ok (.istore_n 1, 1) := by decide +kernel
theorem dX3_badWords_2 : decode cX3_badWords 2 = .ok (.iconst 0, 1) := by decide +kernel
theorem dX3_badWords_3 : decode cX3_badWords 3 = .ok (.istore_n 2, 1) := by decide +kernel
theorem dX3_badWords_4 : decode cX3_badWords 4 = .ok (.iload_n 2, 1) := by decide +kernel
theorem dX3_badWords_5 : decode cX3_badWords 5 = .ok (.aload_n 0, 1) := by decide +kernel
theorem dX3_badWords_6 : decode cX3_badWords 6 = .ok (.getfield 15, 3) := by decide +kernel
theorem dX3_badWords_9 : decode cX3_badWords 9 = .ok (.arraylength, 1) := by decide +kernel
theorem dX3_badWords_10 : decode cX3_badWords 10 = .ok (.if_icmp .ge 18, 3) := by decide +kernel
theorem dX3_badWords_13 : decode cX3_badWords 13 = .ok (.iload_n 1, 1) := by decide +kernel
theorem dX3_badWords_14 : decode cX3_badWords 14 = .ok (.aload_n 0, 1) := by decide +kernel
theorem dX3_badWords_15 : decode cX3_badWords 15 = .ok (.getfield 15, 3) := by decide +kernel
theorem dX3_badWords_18 : decode cX3_badWords 18 = .ok (.iload_n 2, 1) := by decide +kernel
theorem dX3_badWords_19 : decode cX3_badWords 19 = .ok (.iaload, 1) := by decide +kernel
theorem dX3_badWords_20 : decode cX3_badWords 20 = .ok (.iadd, 1) := by decide +kernel
theorem dX3_badWords_21 : decode cX3_badWords 21 = .ok (.istore_n 1, 1) := by decide +kernel
theorem dX3_badWords_22 : decode cX3_badWords 22 = .ok (.iinc 2 1, 3) := by decide +kernel
theorem dX3_badWords_25 : decode cX3_badWords 25 = .ok (.goto (-21), 3) := by decide +kernel
theorem dX3_badWords_28 : decode cX3_badWords 28 = .ok (.iload_n 1, 1) := by decide +kernel
theorem dX3_badWords_29 : decode cX3_badWords 29 = .ok (.ireturn, 1) := by decide +kernel
theorem dX3_badWord_0 : decode cX3_badWord 0 = .ok (.iconst 0, 1) := by decide +kernel
theorem dX3_badWord_1 : decode cX3_badWord 1 = .ok (.istore_n 2, 1) := by decide +kernel
theorem dX3_badWord_2 : decode cX3_badWord 2 = .ok (.iconst 0, 1) := by decide +kernel
theorem dX3_badWord_3 : decode cX3_badWord 3 = .ok (.istore_n 3, 1) := by decide +kernel
theorem dX3_badWord_4 : decode cX3_badWord 4 = .ok (.iload_n 3, 1) := by decide +kernel
theorem dX3_badWord_5 : decode cX3_badWord 5 = .ok (.aload_n 0, 1) := by decide +kernel
theorem dX3_badWord_6 : decode cX3_badWord 6 = .ok (.getfield 34, 3) := by decide +kernel
theorem dX3_badWord_9 : decode cX3_badWord 9 = .ok (.if_icmp .ge 58, 3) := by decide +kernel
theorem dX3_badWord_12 : decode cX3_badWord 12 = .ok (.iconst 0, 1) := by decide +kernel
theorem dX3_badWord_13 : decode cX3_badWord 13 = .ok (.istore 4, 2) := by decide +kernel
theorem dX3_badWord_15 : decode cX3_badWord 15 = .ok (.iload 4, 2) := by decide +kernel
theorem dX3_badWord_17 : decode cX3_badWord 17 = .ok (.aload_n 0, 1) := by decide +kernel
theorem dX3_badWord_18 : decode cX3_badWord 18 = .ok (.getfield 31, 3) := by decide +kernel
theorem dX3_badWord_21 : decode cX3_badWord 21 = .ok (.if_icmp .ge 40, 3) := by decide +kernel
theorem dX3_badWord_24 : decode cX3_badWord 24 = .ok (.aload_n 0, 1) := by decide +kernel
theorem dX3_badWord_25 : decode cX3_badWord 25 = .ok (.getfield 15, 3) := by decide +kernel
theorem dX3_badWord_28 : decode cX3_badWord 28 = .ok (.iload 4, 2) := by decide +kernel
theorem dX3_badWord_30 : decode cX3_badWord 30 = .ok (.bipush 40, 2) := by decide +kernel
theorem dX3_badWord_32 : decode cX3_badWord 32 = .ok (.imul, 1) := by decide +kernel
theorem dX3_badWord_33 : decode cX3_badWord 33 = .ok (.iload_n 3, 1) := by decide +kernel
theorem dX3_badWord_34 : decode cX3_badWord 34 = .ok (.iadd, 1) := by decide +kernel
theorem dX3_badWord_35 : decode cX3_badWord 35 = .ok (.iaload, 1) := by decide +kernel
theorem dX3_badWord_36 : decode cX3_badWord 36 = .ok (.ifCond .eq 19, 3) := by decide +kernel
theorem dX3_badWord_39 : decode cX3_badWord 39 = .ok (.iload_n 2, 1) := by decide +kernel
theorem dX3_badWord_40 : decode cX3_badWord 40 = .ok (.iload_n 1, 1) := by decide +kernel
theorem dX3_badWord_41 : decode cX3_badWord 41 = .ok (.if_icmp .ne 11, 3) := by decide +kernel
theorem dX3_badWord_44 : decode cX3_badWord 44 = .ok (.bipush 100, 2) := by decide +kernel
theorem dX3_badWord_46 : decode cX3_badWord 46 = .ok (.iload_n 3, 1) := by decide +kernel
theorem dX3_badWord_47 : decode cX3_badWord 47 = .ok (.imul, 1) := by decide +kernel
theorem dX3_badWord_48 : decode cX3_badWord 48 = .ok (.iload 4, 2) := by decide +kernel
theorem dX3_badWord_50 : decode cX3_badWord 50 = .ok (.iadd, 1) := by decide +kernel
theorem dX3_badWord_51 : decode cX3_badWord 51 = .ok (.ireturn, 1) := by decide +kernel
theorem dX3_badWord_52 : decode cX3_badWord 52 = .ok (.iinc 2 1, 3) := by decide +kernel
theorem dX3_badWord_55 : decode cX3_badWord 55 = .ok (.iinc 4 1, 3) := by decide +kernel
theorem dX3_badWord_58 : decode cX3_badWord 58 = .ok (.goto (-43), 3) := by decide +kernel
theorem dX3_badWord_61 : decode cX3_badWord 61 = .ok (.iinc 3 1, 3) := by decide +kernel
theorem dX3_badWord_64 : decode cX3_badWord 64 = .ok (.goto (-60), 3) := by decide +kernel
theorem dX3_badWord_67 : decode cX3_badWord 67 = .ok (.iconst (-1), 1) := by decide +kernel
theorem dX3_badWord_68 : decode cX3_badWord 68 = .ok (.ireturn, 1) := by decide +kernel
theorem dX5_init_0 : decode cX5_init 0 = .ok (.aload_n 0, 1) := by decide +kernel
theorem dX5_init_1 : decode cX5_init 1 = .ok (.invokespecial 3, 3) := by decide +kernel
theorem dX5_init_4 : decode cX5_init 4 = .ok (.aload_n 0, 1) := by decide +kernel
theorem dX5_init_5 : decode cX5_init 5 = .ok (.iload_n 1, 1) := by decide +kernel
theorem dX5_init_6 : decode cX5_init 6 = .ok (.iconst 3, 1) := by decide +kernel
theorem dX5_init_7 : decode cX5_init 7 = .ok (.if_icmp .ge 7, 3) := by decide +kernel
theorem dX5_init_10 : decode cX5_init 10 = .ok (.iconst 3, 1) := by decide +kernel
theorem dX5_init_11 : decode cX5_init 11 = .ok (.goto 4, 3) := by decide +kernel
theorem dX5_init_14 : decode cX5_init 14 = .ok (.iload_n 1, 1) := by decide +kernel
theorem dX5_init_15 : decode cX5_init 15 = .ok (.putfield 9, 3) := by decide +kernel
theorem dX5_init_18 : decode cX5_init 18 = .ok (.aload_n 0, 1) := by decide +kernel
theorem dX5_init_19 : decode cX5_init 19 = .ok (.aload_n 0, 1) := by decide +kernel
theorem dX5_init_20 : decode cX5_init 20 = .ok (.getfield 9, 3) := by decide +kernel
theorem dX5_init_23 : decode cX5_init 23 = .ok (.iconst 1, 1) := by decide +kernel
theorem dX5_init_24 : decode cX5_init 24 = .ok (.isub, 1) := by decide +kernel
theorem dX5_init_25 : decode cX5_init 25 = .ok (.putfield 15, 3) := by decide +kernel
theorem dX5_init_28 : decode cX5_init 28 = .ok (.return_, 1) := by decide +kernel
theorem dX5_rowOf_0 : decode cX5_rowOf 0 = .ok (.iload_n 1, 1) := by decide +kernel
theorem dX5_rowOf_1 : decode cX5_rowOf 1 = .ok (.aload_n 0, 1) := by decide +kernel
theorem dX5_rowOf_2 : decode cX5_rowOf 2 = .ok (.getfield 15, 3) := by decide +kernel
theorem dX5_rowOf_5 : decode cX5_rowOf 5 = .ok (.idiv, 1) := by decide +kernel
theorem dX5_rowOf_6 : decode cX5_rowOf 6 = .ok (.ireturn, 1) := by decide +kernel
theorem dX5_parityDisk_0 : decode cX5_parityDisk 0 = .ok (.aload_n 0, 1) := by decide +kernel
theorem dX5_parityDisk_1 : decode cX5_parityDisk 1 = .ok (.getfield 9, 3) := by decide +kernel
theorem dX5_parityDisk_4 : decode cX5_parityDisk 4 = .ok (.iconst 1, 1) := by decide +kernel
theorem dX5_parityDisk_5 : decode cX5_parityDisk 5 = .ok (.isub, 1) := by decide +kernel
theorem dX5_parityDisk_6 : decode cX5_parityDisk 6 = .ok (.iload_n 1, 1) := by decide +kernel
theorem dX5_parityDisk_7 : decode cX5_parityDisk 7 = .ok (.aload_n 0, 1) := by decide +kernel
theorem dX5_parityDisk_8 : decode cX5_parityDisk 8 = .ok (.getfield 9, 3) := by decide +kernel
theorem dX5_parityDisk_11 : decode cX5_parityDisk 11 = .ok (.irem, 1) := by decide +kernel
theorem dX5_parityDisk_12 : decode cX5_parityDisk 12 = .ok (.isub, 1) := by decide +kernel
theorem dX5_parityDisk_13 : decode cX5_parityDisk 13 = .ok (.ireturn, 1) := by decide +kernel
theorem dX5_diskOf_0 : decode cX5_diskOf 0 = .ok (.aload_n 0, 1) := by decide +kernel
theorem dX5_diskOf_1 : decode cX5_diskOf 1 = .ok (.iload_n 1, 1) := by decide +kernel
theorem dX5_diskOf_2 : decode cX5_diskOf 2 = .ok (.aload_n 0, 1) := by decide +kernel
theorem dX5_diskOf_3 : decode cX5_diskOf 3 = .ok (.getfield 15, 3) := by decide +kernel
theorem dX5_diskOf_6 : decode cX5_diskOf 6 = .ok (.idiv, 1) := by decide +kernel
theorem dX5_diskOf_7 : decode cX5_diskOf 7 = .ok (.invokevirtual 18, 3) := by decide +kernel
theorem dX5_diskOf_10 : decode cX5_diskOf 10 = .ok (.iconst 1, 1) := by decide +kernel
theorem dX5_diskOf_11 : decode cX5_diskOf 11 = .ok (.iadd, 1) := by decide +kernel
theorem dX5_diskOf_12 : decode cX5_diskOf 12 = .ok (.iload_n 1, 1) := by decide +kernel
theorem dX5_diskOf_13 : decode cX5_diskOf 13 = .ok (.aload_n 0, 1) := by decide +kernel
theorem dX5_diskOf_14 : decode cX5_diskOf 14 = .ok (.getfield 15, 3) := by decide +kernel
theorem dX5_diskOf_17 : decode cX5_diskOf 17 = .ok (.irem, 1) := by decide +kernel
theorem dX5_diskOf_18 : decode cX5_diskOf 18 = .ok (.iadd, 1) := by decide +kernel
theorem dX5_diskOf_19 : decode cX5_diskOf 19 = .ok (.aload_n 0, 1) := by decide +kernel
theorem dX5_diskOf_20 : decode cX5_diskOf 20 = .ok (.getfield 9, 3) := by decide +kernel
theorem dX5_diskOf_23 : decode cX5_diskOf 23 = .ok (.irem, 1) := by decide +kernel
theorem dX5_diskOf_24 : decode cX5_diskOf 24 = .ok (.ireturn, 1) := by decide +kernel
theorem dX6_init_0 : decode cX6_init 0 = .ok (.aload_n 0, 1) := by decide +kernel
theorem dX6_init_1 : decode cX6_init 1 = .ok (.invokespecial 3, 3) := by decide +kernel
theorem dX6_init_4 : decode cX6_init 4 = .ok (.aload_n 0, 1) := by decide +kernel
theorem dX6_init_5 : decode cX6_init 5 = .ok (.bipush 100, 2) := by decide +kernel
theorem dX6_init_7 : decode cX6_init 7 = .ok (.newarray .int, 2) := by decide +kernel
theorem dX6_init_9 : decode cX6_init 9 = .ok (.putfield 11, 3) := by decide +kernel
theorem dX6_init_12 : decode cX6_init 12 = .ok (.return_, 1) := by decide +kernel
theorem dX6_copyFrom_0 : decode cX6_copyFrom 0 = .ok (.aload_n 1, 1) := by decide +kernel
theorem dX6_copyFrom_1 : decode cX6_copyFrom 1 = .ok (.getfield 11, 3) := by decide +kernel
theorem dX6_copyFrom_4 : decode cX6_copyFrom 4 = .ok (.iconst 0, 1) := by decide +kernel
theorem dX6_copyFrom_5 : decode cX6_copyFrom 5 = .ok (.aload_n 0, 1) := by decide +kernel
theorem dX6_copyFrom_6 : decode cX6_copyFrom 6 = .ok (.getfield 11, 3) := by decide +kernel
theorem dX6_copyFrom_9 : decode cX6_copyFrom 9 = .ok (.iconst 0, 1) := by decide +kernel
theorem dX6_copyFrom_10 : decode cX6_copyFrom 10 = .ok (.aload_n 0, 1) := by decide +kernel
theorem dX6_copyFrom_11 : decode cX6_copyFrom 11 = .ok (.getfield 11, 3) := by decide +kernel
theorem dX6_copyFrom_14 : decode cX6_copyFrom 14 = .ok (.arraylength, 1) := by decide +kernel
theorem dX6_copyFrom_15 : decode cX6_copyFrom 15 = .ok (.invokestatic 15, 3) := by decide +kernel
theorem dX6_copyFrom_18 : decode cX6_copyFrom 18 = .ok (.aload_n 0, 1) := by decide +kernel
theorem dX6_copyFrom_19 : decode cX6_copyFrom 19 = .ok (.aload_n 1, 1) := by decide +kernel
theorem dX6_copyFrom_20 : decode cX6_copyFrom 20 = .ok (.getfield 21, 3) := by decide +kernel
theorem dX6_copyFrom_23 : decode cX6_copyFrom 23 = .ok (.putfield 21, 3) := by decide +kernel
theorem dX6_copyFrom_26 : decode cX6_copyFrom 26 = .ok (.aload_n 0, 1) := by decide +kernel
theorem dX6_copyFrom_27 : decode cX6_copyFrom 27 = .ok (.aload_n 1, 1) := by decide +kernel
theorem dX6_copyFrom_28 : decode cX6_copyFrom 28 = .ok (.getfield 25, 3) := by decide +kernel
theorem dX6_copyFrom_31 : decode cX6_copyFrom 31 = .ok (.putfield 25, 3) := by decide +kernel
theorem dX6_copyFrom_34 : decode cX6_copyFrom 34 = .ok (.return_, 1) := by decide +kernel
theorem dX6_add_0 : decode cX6_add 0 = .ok (.iload 4, 2) := by decide +kernel
theorem dX6_add_2 : decode cX6_add 2 = .ok (.ifCond .lt 26, 3) := by decide +kernel
theorem dX6_add_5 : decode cX6_add 5 = .ok (.iload 4, 2) := by decide +kernel
theorem dX6_add_7 : decode cX6_add 7 = .ok (.bipush 9, 2) := by decide +kernel
theorem dX6_add_9 : decode cX6_add 9 = .ok (.if_icmp .gt 19, 3) := by decide +kernel
theorem dX6_add_12 : decode cX6_add 12 = .ok (.aload_n 0, 1) := by decide +kernel
theorem dX6_add_13 : decode cX6_add 13 = .ok (.getfield 21, 3) := by decide +kernel
theorem dX6_add_16 : decode cX6_add 16 = .ok (.ifCond .lt 12, 3) := by decide +kernel
theorem dX6_add_19 : decode cX6_add 19 = .ok (.aload_n 0, 1) := by decide +kernel
theorem dX6_add_20 : decode cX6_add 20 = .ok (.getfield 21, 3) := by decide +kernel
theorem dX6_add_23 : decode cX6_add 23 = .ok (.bipush 20, 2) := by decide +kernel
theorem dX6_add_25 : decode cX6_add 25 = .ok (.if_icmp .lt 5, 3) := by decide +kernel
theorem dX6_add_28 : decode cX6_add 28 = .ok (.iconst (-1), 1) := by decide +kernel
theorem dX6_add_29 : decode cX6_add 29 = .ok (.ireturn, 1) := by decide +kernel
theorem dX6_add_30 : decode cX6_add 30 = .ok (.aload_n 0, 1) := by decide +kernel
theorem dX6_add_31 : decode cX6_add 31 = .ok (.iload 4, 2) := by decide +kernel
theorem dX6_add_33 : decode cX6_add 33 = .ok (.invokevirtual 28, 3) := by decide +kernel
theorem dX6_add_36 : decode cX6_add 36 = .ok (.iconst 5, 1) := by decide +kernel
theorem dX6_add_37 : decode cX6_add 37 = .ok (.imul, 1) := by decide +kernel
theorem dX6_add_38 : decode cX6_add 38 = .ok (.istore 5, 2) := by decide +kernel
theorem dX6_add_40 : decode cX6_add 40 = .ok (.aload_n 0, 1) := by decide +kernel
theorem dX6_add_41 : decode cX6_add 41 = .ok (.getfield 11, 3) := by decide +kernel
theorem dX6_add_44 : decode cX6_add 44 = .ok (.iload 5, 2) := by decide +kernel
theorem dX6_add_46 : decode cX6_add 46 = .ok (.aload_n 0, 1) := by decide +kernel
theorem dX6_add_47 : decode cX6_add 47 = .ok (.getfield 11, 3) := by decide +kernel
theorem dX6_add_50 : decode cX6_add 50 = .ok (.iload 5, 2) := by decide +kernel
theorem dX6_add_52 : decode cX6_add 52 = .ok (.iconst 5, 1) := by decide +kernel
theorem dX6_add_53 : decode cX6_add 53 = .ok (.iadd, 1) := by decide +kernel
theorem dX6_add_54 : decode cX6_add 54 = .ok (.aload_n 0, 1) := by decide +kernel
theorem dX6_add_55 : decode cX6_add 55 = .ok (.getfield 21, 3) := by decide +kernel
theorem dX6_add_58 : decode cX6_add 58 = .ok (.iconst 5, 1) := by decide +kernel
theorem dX6_add_59 : decode cX6_add 59 = .ok (.imul, 1) := by decide +kernel
theorem dX6_add_60 : decode cX6_add 60 = .ok (.iload 5, 2) := by decide +kernel
theorem dX6_add_62 : decode cX6_add 62 = .ok (.isub, 1) := by decide +kernel
theorem dX6_add_63 : decode cX6_add 63 = .ok (.invokestatic 15, 3) := by decide +kernel
theorem dX6_add_66 : decode cX6_add 66 = .ok (.aload_n 0, 1) := by decide +kernel
theorem dX6_add_67 : decode cX6_add 67 = .ok (.getfield 11, 3) := by decide +kernel
theorem dX6_add_70 : decode cX6_add 70 = .ok (.iload 5, 2) := by decide +kernel
theorem dX6_add_72 : decode cX6_add 72 = .ok (.iconst 0, 1) := by decide +kernel
theorem dX6_add_73 : decode cX6_add 73 = .ok (.iadd, 1) := by decide +kernel
theorem dX6_add_74 : decode cX6_add 74 = .ok (.aload_n 0, 1) := by decide +kernel
theorem dX6_add_75 : decode cX6_add 75 = .ok (.getfield 25, 3) := by decide +kernel
theorem dX6_add_78 : decode cX6_add 78 = .ok (.iastore, 1) := by decide +kernel
theorem dX6_add_79 : decode cX6_add 79 = .ok (.aload_n 0, 1) := by decide +kernel
theorem dX6_add_80 : decode cX6_add 80 = .ok (.getfield 11, 3) := by decide +kernel
theorem dX6_add_83 : decode cX6_add 83 = .ok (.iload 5, 2) := by decide +kernel
theorem dX6_add_85 : decode cX6_add 85 = .ok (.iconst 1, 1) := by decide +kernel
theorem dX6_add_86 : decode cX6_add 86 = .ok (.iadd, 1) := by decide +kernel
theorem dX6_add_87 : decode cX6_add 87 = .ok (.iload_n 2, 1) := by decide +kernel
theorem dX6_add_88 : decode cX6_add 88 = .ok (.iastore, 1) := by decide +kernel
theorem dX6_add_89 : decode cX6_add 89 = .ok (.aload_n 0, 1) := by decide +kernel
theorem dX6_add_90 : decode cX6_add 90 = .ok (.getfield 11, 3) := by decide +kernel
theorem dX6_add_93 : decode cX6_add 93 = .ok (.iload 5, 2) := by decide +kernel
theorem dX6_add_95 : decode cX6_add 95 = .ok (.iconst 2, 1) := by decide +kernel
theorem dX6_add_96 : decode cX6_add 96 = .ok (.iadd, 1) := by decide +kernel
theorem dX6_add_97 : decode cX6_add 97 = .ok (.iload 4, 2) := by decide +kernel
theorem dX6_add_99 : decode cX6_add 99 = .ok (.iastore, 1) := by decide +kernel
theorem dX6_add_100 : decode cX6_add 100 = .ok (.aload_n 0, 1) := by decide +kernel
theorem dX6_add_101 : decode cX6_add 101 = .ok (.getfield 11, 3) := by decide +kernel
theorem dX6_add_104 : decode cX6_add 104 = .ok (.iload 5, 2) := by decide +kernel
theorem dX6_add_106 : decode cX6_add 106 = .ok (.iconst 3, 1) := by decide +kernel
theorem dX6_add_107 : decode cX6_add 107 = .ok (.iadd, 1) := by decide +kernel
theorem dX6_add_108 : decode cX6_add 108 = .ok (.iload_n 1, 1) := by decide +kernel
theorem dX6_add_109 : decode cX6_add 109 = .ok (.ifCond .eq 7, 3) := by decide +kernel
theorem dX6_add_112 : decode cX6_add 112 = .ok (.iconst 1, 1) := by decide +kernel
theorem dX6_add_113 : decode cX6_add 113 = .ok (.goto 4, 3) := by decide +kernel
theorem dX6_add_116 : decode cX6_add 116 = .ok (.iconst 0, 1) := by decide +kernel
theorem dX6_add_117 : decode cX6_add 117 = .ok (.iastore, 1) := by decide +kernel
theorem dX6_add_118 : decode cX6_add 118 = .ok (.aload_n 0, 1) := by decide +kernel
theorem dX6_add_119 : decode cX6_add 119 = .ok (.getfield 11, 3) := by decide +kernel
theorem dX6_add_122 : decode cX6_add 122 = .ok (.iload 5, 2) := by decide +kernel
theorem dX6_add_124 : decode cX6_add 124 = .ok (.iconst 4, 1) := by decide +kernel
theorem dX6_add_125 : decode cX6_add 125 = .ok (.iadd, 1) := by decide +kernel
theorem dX6_add_126 : decode cX6_add 126 = .ok (.iload_n 3, 1) := by decide +kernel
theorem dX6_add_127 : decode cX6_add 127 = .ok (.iastore, 1) := by decide +kernel
theorem dX6_add_128 : decode cX6_add 128 = .ok (.aload_n 0, 1) := by decide +kernel
theorem dX6_add_129 : decode cX6_add 129 = .ok (.dup, 1) := by decide +kernel
theorem dX6_add_130 : decode cX6_add 130 = .ok (.getfield 21, 3) := by decide +kernel
theorem dX6_add_133 : decode cX6_add 133 = .ok (.iconst 1, 1) := by decide +kernel
theorem dX6_add_134 : decode cX6_add 134 = .ok (.iadd, 1) := by decide +kernel
theorem dX6_add_135 : decode cX6_add 135 = .ok (.putfield 21, 3) := by decide +kernel
theorem dX6_add_138 : decode cX6_add 138 = .ok (.aload_n 0, 1) := by decide +kernel
theorem dX6_add_139 : decode cX6_add 139 = .ok (.dup, 1) := by decide +kernel
theorem dX6_add_140 : decode cX6_add 140 = .ok (.getfield 25, 3) := by decide +kernel
theorem dX6_add_143 : decode cX6_add 143 = .ok (.iconst 1, 1) := by decide +kernel
theorem dX6_add_144 : decode cX6_add 144 = .ok (.iadd, 1) := by decide +kernel
theorem dX6_add_145 : decode cX6_add 145 = .ok (.putfield 25, 3) := by decide +kernel
theorem dX6_add_148 : decode cX6_add 148 = .ok (.aload_n 0, 1) := by decide +kernel
theorem dX6_add_149 : decode cX6_add 149 = .ok (.getfield 25, 3) := by decide +kernel
theorem dX6_add_152 : decode cX6_add 152 = .ok (.iconst 1, 1) := by decide +kernel
theorem dX6_add_153 : decode cX6_add 153 = .ok (.isub, 1) := by decide +kernel
theorem dX6_add_154 : decode cX6_add 154 = .ok (.ireturn, 1) := by decide +kernel
theorem dX6_placeFor_0 : decode cX6_placeFor 0 = .ok (.iconst 0, 1) := by decide +kernel
theorem dX6_placeFor_1 : decode cX6_placeFor 1 = .ok (.istore_n 2, 1) := by decide +kernel
theorem dX6_placeFor_2 : decode cX6_placeFor 2 = .ok (.iload_n 2, 1) := by decide +kernel
theorem dX6_placeFor_3 : decode cX6_placeFor 3 = .ok (.aload_n 0, 1) := by decide +kernel
theorem dX6_placeFor_4 : decode cX6_placeFor 4 = .ok (.getfield 21, 3) := by decide +kernel
theorem dX6_placeFor_7 : decode cX6_placeFor 7 = .ok (.if_icmp .ge 21, 3) := by decide +kernel
theorem dX6_placeFor_10 : decode cX6_placeFor 10 = .ok (.aload_n 0, 1) := by decide +kernel
theorem dX6_placeFor_11 : decode cX6_placeFor 11 = .ok (.iload_n 2, 1) := by decide +kernel
theorem dX6_placeFor_12 : decode cX6_placeFor 12 = .ok (.iconst 2, 1) := by decide +kernel
theorem dX6_placeFor_13 : decode cX6_placeFor 13 = .ok (.invokevirtual 32, 3) := by decide +kernel
theorem dX6_placeFor_16 : decode cX6_placeFor 16 = .ok (.iload_n 1, 1) := by decide +kernel
theorem dX6_placeFor_17 : decode cX6_placeFor 17 = .ok (.if_icmp .le 5, 3) := by decide +kernel
theorem dX6_placeFor_20 : decode cX6_placeFor 20 = .ok (.iload_n 2, 1) := by decide +kernel
theorem dX6_placeFor_21 : decode cX6_placeFor 21 = .ok (.ireturn, 1) := by decide +kernel
theorem dX6_placeFor_22 : decode cX6_placeFor 22 = .ok (.iinc 2 1, 3) := by decide +kernel
theorem dX6_placeFor_25 : decode cX6_placeFor 25 = .ok (.goto (-23), 3) := by decide +kernel
theorem dX6_placeFor_28 : decode cX6_placeFor 28 = .ok (.aload_n 0, 1) := by decide +kernel
theorem dX6_placeFor_29 : decode cX6_placeFor 29 = .ok (.getfield 21, 3) := by decide +kernel
theorem dX6_placeFor_32 : decode cX6_placeFor 32 = .ok (.ireturn, 1) := by decide +kernel
theorem dX6_part_0 : decode cX6_part 0 = .ok (.iload_n 1, 1) := by decide +kernel
theorem dX6_part_1 : decode cX6_part 1 = .ok (.ifCond .lt 20, 3) := by decide +kernel
theorem dX6_part_4 : decode cX6_part 4 = .ok (.iload_n 1, 1) := by decide +kernel
theorem dX6_part_5 : decode cX6_part 5 = .ok (.aload_n 0, 1) := by decide +kernel
theorem dX6_part_6 : decode cX6_part 6 = .ok (.getfield 21, 3) := by decide +kernel
theorem dX6_part_9 : decode cX6_part 9 = .ok (.if_icmp .ge 12, 3) := by decide +kernel
theorem dX6_part_12 : decode cX6_part 12 = .ok (.iload_n 2, 1) := by decide +kernel
theorem dX6_part_13 : decode cX6_part 13 = .ok (.ifCond .lt 8, 3) := by decide +kernel
theorem dX6_part_16 : decode cX6_part 16 = .ok (.iload_n 2, 1) := by decide +kernel
theorem dX6_part_17 : decode cX6_part 17 = .ok (.iconst 5, 1) := by decide +kernel
theorem dX6_part_18 : decode cX6_part 18 = .ok (.if_icmp .lt 7, 3) := by decide +kernel
theorem dX6_part_21 : decode cX6_part 21 = .ok (.iconst (-1), 1) := by decide +kernel
theorem dX6_part_22 : decode cX6_part 22 = .ok (.goto 13, 3) := by decide +kernel
theorem dX6_part_25 : decode cX6_part 25 = .ok (.aload_n 0, 1) := by decide +kernel
theorem dX6_part_26 : decode cX6_part 26 = .ok (.getfield 11, 3) := by decide +kernel
theorem dX6_part_29 : decode cX6_part 29 = .ok (.iload_n 1, 1) := by decide +kernel
theorem dX6_part_30 : decode cX6_part 30 = .ok (.iconst 5, 1) := by decide +kernel
theorem dX6_part_31 : decode cX6_part 31 = .ok (.imul, 1) := by decide +kernel
theorem dX6_part_32 : decode cX6_part 32 = .ok (.iload_n 2, 1) := by decide +kernel
theorem dX6_part_33 : decode cX6_part 33 = .ok (.iadd, 1) := by decide +kernel
theorem dX6_part_34 : decode cX6_part 34 = .ok (.iaload, 1) := by decide +kernel
theorem dX6_part_35 : decode cX6_part 35 = .ok (.ireturn, 1) := by decide +kernel
theorem dX6_tell_0 : decode cX6_tell 0 = .ok (.iload_n 2, 1) := by decide +kernel
theorem dX6_tell_1 : decode cX6_tell 1 = .ok (.iconst 4, 1) := by decide +kernel
theorem dX6_tell_2 : decode cX6_tell 2 = .ok (.if_icmp .ne 7, 3) := by decide +kernel
theorem dX6_tell_5 : decode cX6_tell 5 = .ok (.iconst (-1), 1) := by decide +kernel
theorem dX6_tell_6 : decode cX6_tell 6 = .ok (.goto 9, 3) := by decide +kernel
theorem dX6_tell_9 : decode cX6_tell 9 = .ok (.aload_n 0, 1) := by decide +kernel
theorem dX6_tell_10 : decode cX6_tell 10 = .ok (.iload_n 1, 1) := by decide +kernel
theorem dX6_tell_11 : decode cX6_tell 11 = .ok (.iload_n 2, 1) := by decide +kernel
theorem dX6_tell_12 : decode cX6_tell 12 = .ok (.invokevirtual 32, 3) := by decide +kernel
theorem dX6_tell_15 : decode cX6_tell 15 = .ok (.ireturn, 1) := by decide +kernel
theorem dX6_remove_0 : decode cX6_remove 0 = .ok (.iload_n 1, 1) := by decide +kernel
theorem dX6_remove_1 : decode cX6_remove 1 = .ok (.ifCond .lt 11, 3) := by decide +kernel
theorem dX6_remove_4 : decode cX6_remove 4 = .ok (.iload_n 1, 1) := by decide +kernel
theorem dX6_remove_5 : decode cX6_remove 5 = .ok (.aload_n 0, 1) := by decide +kernel
theorem dX6_remove_6 : decode cX6_remove 6 = .ok (.getfield 21, 3) := by decide +kernel
theorem dX6_remove_9 : decode cX6_remove 9 = .ok (.if_icmp .lt 4, 3) := by decide +kernel
theorem dX6_remove_12 : decode cX6_remove 12 = .ok (.return_, 1) := by decide +kernel
theorem dX6_remove_13 : decode cX6_remove 13 = .ok (.iload_n 1, 1) := by decide +kernel
theorem dX6_remove_14 : decode cX6_remove 14 = .ok (.iconst 1, 1) := by decide +kernel
theorem dX6_remove_15 : decode cX6_remove 15 = .ok (.iadd, 1) := by decide +kernel
theorem dX6_remove_16 : decode cX6_remove 16 = .ok (.iconst 5, 1) := by decide +kernel
theorem dX6_remove_17 : decode cX6_remove 17 = .ok (.imul, 1) := by decide +kernel
theorem dX6_remove_18 : decode cX6_remove 18 = .ok (.istore_n 2, 1) := by decide +kernel
theorem dX6_remove_19 : decode cX6_remove 19 = .ok (.aload_n 0, 1) := by decide +kernel
theorem dX6_remove_20 : decode cX6_remove 20 = .ok (.getfield 11, 3) := by decide +kernel
theorem dX6_remove_23 : decode cX6_remove 23 = .ok (.iload_n 2, 1) := by decide +kernel
theorem dX6_remove_24 : decode cX6_remove 24 = .ok (.aload_n 0, 1) := by decide +kernel
theorem dX6_remove_25 : decode cX6_remove 25 = .ok (.getfield 11, 3) := by decide +kernel
theorem dX6_remove_28 : decode cX6_remove 28 = .ok (.iload_n 1, 1) := by decide +kernel
theorem dX6_remove_29 : decode cX6_remove 29 = .ok (.iconst 5, 1) := by decide +kernel
theorem dX6_remove_30 : decode cX6_remove 30 = .ok (.imul, 1) := by decide +kernel
theorem dX6_remove_31 : decode cX6_remove 31 = .ok (.aload_n 0, 1) := by decide +kernel
theorem dX6_remove_32 : decode cX6_remove 32 = .ok (.getfield 21, 3) := by decide +kernel
theorem dX6_remove_35 : decode cX6_remove 35 = .ok (.iconst 5, 1) := by decide +kernel
theorem dX6_remove_36 : decode cX6_remove 36 = .ok (.imul, 1) := by decide +kernel
theorem dX6_remove_37 : decode cX6_remove 37 = .ok (.iload_n 2, 1) := by decide +kernel
theorem dX6_remove_38 : decode cX6_remove 38 = .ok (.isub, 1) := by decide +kernel
theorem dX6_remove_39 : decode cX6_remove 39 = .ok (.invokestatic 15, 3) := by decide +kernel
theorem dX6_remove_42 : decode cX6_remove 42 = .ok (.aload_n 0, 1) := by decide +kernel
theorem dX6_remove_43 : decode cX6_remove 43 = .ok (.dup, 1) := by decide +kernel
theorem dX6_remove_44 : decode cX6_remove 44 = .ok (.getfield 21, 3) := by decide +kernel
theorem dX6_remove_47 : decode cX6_remove 47 = .ok (.iconst 1, 1) := by decide +kernel
theorem dX6_remove_48 : decode cX6_remove 48 = .ok (.isub, 1) := by decide +kernel
theorem dX6_remove_49 : decode cX6_remove 49 = .ok (.putfield 21, 3) := by decide +kernel
theorem dX6_remove_52 : decode cX6_remove 52 = .ok (.return_, 1) := by decide +kernel
theorem dX8_init_0 : decode cX8_init 0 = .ok (.aload_n 0, 1) := by decide +kernel
theorem dX8_init_1 : decode cX8_init 1 = .ok (.invokespecial 3, 3) := by decide +kernel
theorem dX8_init_4 : decode cX8_init 4 = .ok (.aload_n 0, 1) := by decide +kernel
theorem dX8_init_5 : decode cX8_init 5 = .ok (.bipush 120, 2) := by decide +kernel
theorem dX8_init_7 : decode cX8_init 7 = .ok (.newarray .int, 2) := by decide +kernel
theorem dX8_init_9 : decode cX8_init 9 = .ok (.putfield 11, 3) := by decide +kernel
theorem dX8_init_12 : decode cX8_init 12 = .ok (.return_, 1) := by decide +kernel
theorem dX8_clear_0 : decode cX8_clear 0 = .ok (.aload_n 0, 1) := by decide +kernel
theorem dX8_clear_1 : decode cX8_clear 1 = .ok (.iconst 0, 1) := by decide +kernel
theorem dX8_clear_2 : decode cX8_clear 2 = .ok (.putfield 15, 3) := by decide +kernel
theorem dX8_clear_5 : decode cX8_clear 5 = .ok (.aload_n 0, 1) := by decide +kernel
theorem dX8_clear_6 : decode cX8_clear 6 = .ok (.iconst 0, 1) := by decide +kernel
theorem dX8_clear_7 : decode cX8_clear 7 = .ok (.putfield 19, 3) := by decide +kernel
theorem dX8_clear_10 : decode cX8_clear 10 = .ok (.return_, 1) := by decide +kernel
theorem dX8_record_0 : decode cX8_record 0 = .ok (.aload_n 0, 1) := by decide +kernel
theorem dX8_record_1 : decode cX8_record 1 = .ok (.getfield 19, 3) := by decide +kernel
theorem dX8_record_4 : decode cX8_record 4 = .ok (.iconst 4, 1) := by decide +kernel
theorem dX8_record_5 : decode cX8_record 5 = .ok (.imul, 1) := by decide +kernel
theorem dX8_record_6 : decode cX8_record 6 = .ok (.istore 5, 2) := by decide +kernel
theorem dX8_record_8 : decode cX8_record 8 = .ok (.aload_n 0, 1) := by decide +kernel
theorem dX8_record_9 : decode cX8_record 9 = .ok (.getfield 11, 3) := by decide +kernel
theorem dX8_record_12 : decode cX8_record 12 = .ok (.iload 5, 2) := by decide +kernel
theorem dX8_record_14 : decode cX8_record 14 = .ok (.iload_n 2, 1) := by decide +kernel
theorem dX8_record_15 : decode cX8_record 15 = .ok (.iastore, 1) := by decide +kernel
theorem dX8_record_16 : decode cX8_record 16 = .ok (.aload_n 0, 1) := by decide +kernel
theorem dX8_record_17 : decode cX8_record 17 = .ok (.getfield 11, 3) := by decide +kernel
theorem dX8_record_20 : decode cX8_record 20 = .ok (.iload 5, 2) := by decide +kernel
theorem dX8_record_22 : decode cX8_record 22 = .ok (.iconst 1, 1) := by decide +kernel
theorem dX8_record_23 : decode cX8_record 23 = .ok (.iadd, 1) := by decide +kernel
theorem dX8_record_24 : decode cX8_record 24 = .ok (.iload_n 3, 1) := by decide +kernel
theorem dX8_record_25 : decode cX8_record 25 = .ok (.iastore, 1) := by decide +kernel
theorem dX8_record_26 : decode cX8_record 26 = .ok (.aload_n 0, 1) := by decide +kernel
theorem dX8_record_27 : decode cX8_record 27 = .ok (.getfield 11, 3) := by decide +kernel
theorem dX8_record_30 : decode cX8_record 30 = .ok (.iload 5, 2) := by decide +kernel
theorem dX8_record_32 : decode cX8_record 32 = .ok (.iconst 2, 1) := by decide +kernel
theorem dX8_record_33 : decode cX8_record 33 = .ok (.iadd, 1) := by decide +kernel
theorem dX8_record_34 : decode cX8_record 34 = .ok (.iload 4, 2) := by decide +kernel
theorem dX8_record_36 : decode cX8_record 36 = .ok (.iastore, 1) := by decide +kernel
theorem dX8_record_37 : decode cX8_record 37 = .ok (.aload_n 0, 1) := by decide +kernel
theorem dX8_record_38 : decode cX8_record 38 = .ok (.getfield 11, 3) := by decide +kernel
theorem dX8_record_41 : decode cX8_record 41 = .ok (.iload 5, 2) := by decide +kernel
theorem dX8_record_43 : decode cX8_record 43 = .ok (.iconst 3, 1) := by decide +kernel
theorem dX8_record_44 : decode cX8_record 44 = .ok (.iadd, 1) := by decide +kernel
theorem dX8_record_45 : decode cX8_record 45 = .ok (.iload_n 1, 1) := by decide +kernel
theorem dX8_record_46 : decode cX8_record 46 = .ok (.iastore, 1) := by decide +kernel
theorem dX8_record_47 : decode cX8_record 47 = .ok (.aload_n 0, 1) := by decide +kernel
theorem dX8_record_48 : decode cX8_record 48 = .ok (.aload_n 0, 1) := by decide +kernel
theorem dX8_record_49 : decode cX8_record 49 = .ok (.getfield 19, 3) := by decide +kernel
theorem dX8_record_52 : decode cX8_record 52 = .ok (.bipush 29, 2) := by decide +kernel
theorem dX8_record_54 : decode cX8_record 54 = .ok (.if_icmp .ge 12, 3) := by decide +kernel
theorem dX8_record_57 : decode cX8_record 57 = .ok (.aload_n 0, 1) := by decide +kernel
theorem dX8_record_58 : decode cX8_record 58 = .ok (.getfield 19, 3) := by decide +kernel
theorem dX8_record_61 : decode cX8_record 61 = .ok (.iconst 1, 1) := by decide +kernel
theorem dX8_record_62 : decode cX8_record 62 = .ok (.iadd, 1) := by decide +kernel
theorem dX8_record_63 : decode cX8_record 63 = .ok (.goto 4, 3) := by decide +kernel
theorem dX8_record_66 : decode cX8_record 66 = .ok (.iconst 0, 1) := by decide +kernel
theorem dX8_record_67 : decode cX8_record 67 = .ok (.putfield 19, 3) := by decide +kernel
theorem dX8_record_70 : decode cX8_record 70 = .ok (.aload_n 0, 1) := by decide +kernel
theorem dX8_record_71 : decode cX8_record 71 = .ok (.aload_n 0, 1) := by decide +kernel
theorem dX8_record_72 : decode cX8_record 72 = .ok (.getfield 15, 3) := by decide +kernel
theorem dX8_record_75 : decode cX8_record 75 = .ok (.bipush 30, 2) := by decide +kernel
theorem dX8_record_77 : decode cX8_record 77 = .ok (.if_icmp .ge 12, 3) := by decide +kernel
theorem dX8_record_80 : decode cX8_record 80 = .ok (.aload_n 0, 1) := by decide +kernel
theorem dX8_record_81 : decode cX8_record 81 = .ok (.getfield 15, 3) := by decide +kernel
theorem dX8_record_84 : decode cX8_record 84 = .ok (.iconst 1, 1) := by decide +kernel
theorem dX8_record_85 : decode cX8_record 85 = .ok (.iadd, 1) := by decide +kernel
theorem dX8_record_86 : decode cX8_record 86 = .ok (.goto 5, 3) := by decide +kernel
theorem dX8_record_89 : decode cX8_record 89 = .ok (.bipush 30, 2) := by decide +kernel
theorem dX8_record_91 : decode cX8_record 91 = .ok (.putfield 15, 3) := by decide +kernel
theorem dX8_record_94 : decode cX8_record 94 = .ok (.return_, 1) := by decide +kernel
theorem dX8_slotOf_0 : decode cX8_slotOf 0 = .ok (.iconst 1, 1) := by decide +kernel
theorem dX8_slotOf_1 : decode cX8_slotOf 1 = .ok (.istore_n 2, 1) := by decide +kernel
theorem dX8_slotOf_2 : decode cX8_slotOf 2 = .ok (.iload_n 2, 1) := by decide +kernel
theorem dX8_slotOf_3 : decode cX8_slotOf 3 = .ok (.aload_n 0, 1) := by decide +kernel
theorem dX8_slotOf_4 : decode cX8_slotOf 4 = .ok (.getfield 15, 3) := by decide +kernel
theorem dX8_slotOf_7 : decode cX8_slotOf 7 = .ok (.if_icmp .gt 48, 3) := by decide +kernel
theorem dX8_slotOf_10 : decode cX8_slotOf 10 = .ok (.aload_n 0, 1) := by decide +kernel
theorem dX8_slotOf_11 : decode cX8_slotOf 11 = .ok (.getfield 19, 3) := by decide +kernel
theorem dX8_slotOf_14 : decode cX8_slotOf 14 = .ok (.iload_n 2, 1) := by decide +kernel
theorem dX8_slotOf_15 : decode cX8_slotOf 15 = .ok (.if_icmp .lt 12, 3) := by decide +kernel
theorem dX8_slotOf_18 : decode cX8_slotOf 18 = .ok (.aload_n 0, 1) := by decide +kernel
theorem dX8_slotOf_19 : decode cX8_slotOf 19 = .ok (.getfield 19, 3) := by decide +kernel
theorem dX8_slotOf_22 : decode cX8_slotOf 22 = .ok (.iload_n 2, 1) := by decide +kernel
theorem dX8_slotOf_23 : decode cX8_slotOf 23 = .ok (.isub, 1) := by decide +kernel
theorem dX8_slotOf_24 : decode cX8_slotOf 24 = .ok (.goto 12, 3) := by decide +kernel
theorem dX8_slotOf_27 : decode cX8_slotOf 27 = .ok (.aload_n 0, 1) := by decide +kernel
theorem dX8_slotOf_28 : decode cX8_slotOf 28 = .ok (.getfield 19, 3) := by decide +kernel
theorem dX8_slotOf_31 : decode cX8_slotOf 31 = .ok (.iload_n 2, 1) := by decide +kernel
theorem dX8_slotOf_32 : decode cX8_slotOf 32 = .ok (.isub, 1) := by decide +kernel
theorem dX8_slotOf_33 : decode cX8_slotOf 33 = .ok (.bipush 30, 2) := by decide +kernel
theorem dX8_slotOf_35 : decode cX8_slotOf 35 = .ok (.iadd, 1) := by decide +kernel
theorem dX8_slotOf_36 : decode cX8_slotOf 36 = .ok (.istore_n 3, 1) := by decide +kernel
theorem dX8_slotOf_37 : decode cX8_slotOf 37 = .ok (.aload_n 0, 1) := by decide +kernel
theorem dX8_slotOf_38 : decode cX8_slotOf 38 = .ok (.iload_n 3, 1) := by decide +kernel
theorem dX8_slotOf_39 : decode cX8_slotOf 39 = .ok (.iconst 3, 1) := by decide +kernel
theorem dX8_slotOf_40 : decode cX8_slotOf 40 = .ok (.invokevirtual 22, 3) := by decide +kernel
theorem dX8_slotOf_43 : decode cX8_slotOf 43 = .ok (.iload_n 1, 1) := by decide +kernel
theorem dX8_slotOf_44 : decode cX8_slotOf 44 = .ok (.if_icmp .ne 5, 3) := by decide +kernel
theorem dX8_slotOf_47 : decode cX8_slotOf 47 = .ok (.iload_n 3, 1) := by decide +kernel
theorem dX8_slotOf_48 : decode cX8_slotOf 48 = .ok (.ireturn, 1) := by decide +kernel
theorem dX8_slotOf_49 : decode cX8_slotOf 49 = .ok (.iinc 2 1, 3) := by decide +kernel
theorem dX8_slotOf_52 : decode cX8_slotOf 52 = .ok (.goto (-50), 3) := by decide +kernel
theorem dX8_slotOf_55 : decode cX8_slotOf 55 = .ok (.iconst (-1), 1) := by decide +kernel
theorem dX8_slotOf_56 : decode cX8_slotOf 56 = .ok (.ireturn, 1) := by decide +kernel
theorem dX8_tell_0 : decode cX8_tell 0 = .ok (.iload_n 1, 1) := by decide +kernel
theorem dX8_tell_1 : decode cX8_tell 1 = .ok (.ifCond .lt 18, 3) := by decide +kernel
theorem dX8_tell_4 : decode cX8_tell 4 = .ok (.iload_n 1, 1) := by decide +kernel
theorem dX8_tell_5 : decode cX8_tell 5 = .ok (.bipush 30, 2) := by decide +kernel
theorem dX8_tell_7 : decode cX8_tell 7 = .ok (.if_icmp .ge 12, 3) := by decide +kernel
theorem dX8_tell_10 : decode cX8_tell 10 = .ok (.iload_n 2, 1) := by decide +kernel
theorem dX8_tell_11 : decode cX8_tell 11 = .ok (.ifCond .lt 8, 3) := by decide +kernel
theorem dX8_tell_14 : decode cX8_tell 14 = .ok (.iload_n 2, 1) := by decide +kernel
theorem dX8_tell_15 : decode cX8_tell 15 = .ok (.iconst 4, 1) := by decide +kernel
theorem dX8_tell_16 : decode cX8_tell 16 = .ok (.if_icmp .lt 7, 3) := by decide +kernel
theorem dX8_tell_19 : decode cX8_tell 19 = .ok (.iconst (-1), 1) := by decide +kernel
theorem dX8_tell_20 : decode cX8_tell 20 = .ok (.goto 13, 3) := by decide +kernel
theorem dX8_tell_23 : decode cX8_tell 23 = .ok (.aload_n 0, 1) := by decide +kernel
theorem dX8_tell_24 : decode cX8_tell 24 = .ok (.getfield 11, 3) := by decide +kernel
theorem dX8_tell_27 : decode cX8_tell 27 = .ok (.iload_n 1, 1) := by decide +kernel
theorem dX8_tell_28 : decode cX8_tell 28 = .ok (.iconst 4, 1) := by decide +kernel
theorem dX8_tell_29 : decode cX8_tell 29 = .ok (.imul, 1) := by decide +kernel
theorem dX8_tell_30 : decode cX8_tell 30 = .ok (.iload_n 2, 1) := by decide +kernel
theorem dX8_tell_31 : decode cX8_tell 31 = .ok (.iadd, 1) := by decide +kernel
theorem dX8_tell_32 : decode cX8_tell 32 = .ok (.iaload, 1) := by decide +kernel
theorem dX8_tell_33 : decode cX8_tell 33 = .ok (.ireturn, 1) := by decide +kernel
theorem dX9_init_0 : decode cX9_init 0 = .ok (.aload_n 0, 1) := by decide +kernel
theorem dX9_init_1 : decode cX9_init 1 = .ok (.invokespecial 3, 3) := by decide +kernel
theorem dX9_init_4 : decode cX9_init 4 = .ok (.aload_n 0, 1) := by decide +kernel
theorem dX9_init_5 : decode cX9_init 5 = .ok (.sipush 264, 3) := by decide +kernel
theorem dX9_init_8 : decode cX9_init 8 = .ok (.newarray .byte, 2) := by decide +kernel
theorem dX9_init_10 : decode cX9_init 10 = .ok (.putfield 9, 3) := by decide +kernel
theorem dX9_init_13 : decode cX9_init 13 = .ok (.return_, 1) := by decide +kernel
theorem dX9_append_0 : decode cX9_append 0 = .ok (.bipush 56, 2) := by decide +kernel
theorem dX9_append_2 : decode cX9_append 2 = .ok (.istore_n 3, 1) := by decide +kernel
theorem dX9_append_3 : decode cX9_append 3 = .ok (.iload_n 3, 1) := by decide +kernel
theorem dX9_append_4 : decode cX9_append 4 = .ok (.ifCond .lt 43, 3) := by decide +kernel
theorem dX9_append_7 : decode cX9_append 7 = .ok (.aload_n 0, 1) := by decide +kernel
theorem dX9_append_8 : decode cX9_append 8 = .ok (.getfield 15, 3) := by decide +kernel
theorem dX9_append_11 : decode cX9_append 11 = .ok (.sipush 264, 3) := by decide +kernel
theorem dX9_append_14 : decode cX9_append 14 = .ok (.if_icmp .ge 33, 3) := by decide +kernel
theorem dX9_append_17 : decode cX9_append 17 = .ok (.aload_n 0, 1) := by decide +kernel
theorem dX9_append_18 : decode cX9_append 18 = .ok (.getfield 9, 3) := by decide +kernel
theorem dX9_append_21 : decode cX9_append 21 = .ok (.aload_n 0, 1) := by decide +kernel
theorem dX9_append_22 : decode cX9_append 22 = .ok (.getfield 15, 3) := by decide +kernel
theorem dX9_append_25 : decode cX9_append 25 = .ok (.lload_n 1, 1) := by decide +kernel
theorem dX9_append_26 : decode cX9_append 26 = .ok (.iload_n 3, 1) := by decide +kernel
theorem dX9_append_27 : decode cX9_append 27 = .ok (.lushr, 1) := by decide +kernel
theorem dX9_append_28 : decode cX9_append 28 = .ok (.l2i, 1) := by decide +kernel
theorem dX9_append_29 : decode cX9_append 29 = .ok (.i2b, 1) := by decide +kernel
theorem dX9_append_30 : decode cX9_append 30 = .ok (.bastore, 1) := by decide +kernel
theorem dX9_append_31 : decode cX9_append 31 = .ok (.aload_n 0, 1) := by decide +kernel
theorem dX9_append_32 : decode cX9_append 32 = .ok (.dup, 1) := by decide +kernel
theorem dX9_append_33 : decode cX9_append 33 = .ok (.getfield 15, 3) := by decide +kernel
theorem dX9_append_36 : decode cX9_append 36 = .ok (.iconst 1, 1) := by decide +kernel
theorem dX9_append_37 : decode cX9_append 37 = .ok (.iadd, 1) := by decide +kernel
theorem dX9_append_38 : decode cX9_append 38 = .ok (.putfield 15, 3) := by decide +kernel
theorem dX9_append_41 : decode cX9_append 41 = .ok (.iinc 3 (-8), 3) := by decide +kernel
theorem dX9_append_44 : decode cX9_append 44 = .ok (.goto (-41), 3) := by decide +kernel
theorem dX9_append_47 : decode cX9_append 47 = .ok (.return_, 1) := by decide +kernel
theorem dX9_at_0 : decode cX9_at 0 = .ok (.iload_n 1, 1) := by decide +kernel
theorem dX9_at_1 : decode cX9_at 1 = .ok (.ifCond .lt 11, 3) := by decide +kernel
theorem dX9_at_4 : decode cX9_at 4 = .ok (.iload_n 1, 1) := by decide +kernel
theorem dX9_at_5 : decode cX9_at 5 = .ok (.aload_n 0, 1) := by decide +kernel
theorem dX9_at_6 : decode cX9_at 6 = .ok (.getfield 15, 3) := by decide +kernel
theorem dX9_at_9 : decode cX9_at 9 = .ok (.if_icmp .lt 7, 3) := by decide +kernel
theorem dX9_at_12 : decode cX9_at 12 = .ok (.iconst (-1), 1) := by decide +kernel
theorem dX9_at_13 : decode cX9_at 13 = .ok (.goto 13, 3) := by decide +kernel
theorem dX9_at_16 : decode cX9_at 16 = .ok (.aload_n 0, 1) := by decide +kernel
theorem dX9_at_17 : decode cX9_at 17 = .ok (.getfield 9, 3) := by decide +kernel
theorem dX9_at_20 : decode cX9_at 20 = .ok (.iload_n 1, 1) := by decide +kernel
theorem dX9_at_21 : decode cX9_at 21 = .ok (.baload, 1) := by decide +kernel
theorem dX9_at_22 : decode cX9_at 22 = .ok (.sipush 255, 3) := by decide +kernel
theorem dX9_at_25 : decode cX9_at 25 = .ok (.iand, 1) := by decide +kernel
theorem dX9_at_26 : decode cX9_at 26 = .ok (.ireturn, 1) := by decide +kernel
