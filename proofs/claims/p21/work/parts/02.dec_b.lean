theorem dX4_init_0 : decode cX4_init 0 = .ok (.aload_n 0, 1) := by decide +kernel
theorem dX4_init_1 : decode cX4_init 1 = .ok (.invokespecial 3, 3) := by decide +kernel
theorem dX4_init_4 : decode cX4_init 4 = .ok (.aload_n 0, 1) := by decide +kernel
theorem dX4_init_5 : decode cX4_init 5 = .ok (.new 9, 3) := by decide +kernel
theorem dX4_init_8 : decode cX4_init 8 = .ok (.dup, 1) := by decide +kernel
theorem dX4_init_9 : decode cX4_init 9 = .ok (.invokespecial 11, 3) := by decide +kernel
theorem dX4_init_12 : decode cX4_init 12 = .ok (.putfield 12, 3) := by decide +kernel
theorem dX4_init_15 : decode cX4_init 15 = .ok (.aload_n 0, 1) := by decide +kernel
theorem dX4_init_16 : decode cX4_init 16 = .ok (.new 18, 3) := by decide +kernel
theorem dX4_init_19 : decode cX4_init 19 = .ok (.dup, 1) := by decide +kernel
theorem dX4_init_20 : decode cX4_init 20 = .ok (.invokespecial 20, 3) := by decide +kernel
theorem dX4_init_23 : decode cX4_init 23 = .ok (.putfield 21, 3) := by decide +kernel
theorem dX4_init_26 : decode cX4_init 26 = .ok (.aload_n 0, 1) := by decide +kernel
theorem dX4_init_27 : decode cX4_init 27 = .ok (.bipush 8, 2) := by decide +kernel
theorem dX4_init_29 : decode cX4_init 29 = .ok (.anewarray 25, 3) := by decide +kernel
theorem dX4_init_32 : decode cX4_init 32 = .ok (.putfield 27, 3) := by decide +kernel
theorem dX4_init_35 : decode cX4_init 35 = .ok (.aload_n 0, 1) := by decide +kernel
theorem dX4_init_36 : decode cX4_init 36 = .ok (.bipush 24, 2) := by decide +kernel
theorem dX4_init_38 : decode cX4_init 38 = .ok (.newarray .int, 2) := by decide +kernel
theorem dX4_init_40 : decode cX4_init 40 = .ok (.putfield 31, 3) := by decide +kernel
theorem dX4_init_43 : decode cX4_init 43 = .ok (.aload_n 0, 1) := by decide +kernel
theorem dX4_init_44 : decode cX4_init 44 = .ok (.new 35, 3) := by decide +kernel
theorem dX4_init_47 : decode cX4_init 47 = .ok (.dup, 1) := by decide +kernel
theorem dX4_init_48 : decode cX4_init 48 = .ok (.invokespecial 37, 3) := by decide +kernel
theorem dX4_init_51 : decode cX4_init 51 = .ok (.putfield 38, 3) := by decide +kernel
theorem dX4_init_54 : decode cX4_init 54 = .ok (.aload_n 0, 1) := by decide +kernel
theorem dX4_init_55 : decode cX4_init 55 = .ok (.new 35, 3) := by decide +kernel
theorem dX4_init_58 : decode cX4_init 58 = .ok (.dup, 1) := by decide +kernel
theorem dX4_init_59 : decode cX4_init 59 = .ok (.invokespecial 37, 3) := by decide +kernel
theorem dX4_init_62 : decode cX4_init 62 = .ok (.putfield 42, 3) := by decide +kernel
theorem dX4_init_65 : decode cX4_init 65 = .ok (.iconst 0, 1) := by decide +kernel
theorem dX4_init_66 : decode cX4_init 66 = .ok (.istore_n 1, 1) := by decide +kernel
theorem dX4_init_67 : decode cX4_init 67 = .ok (.iload_n 1, 1) := by decide +kernel
theorem dX4_init_68 : decode cX4_init 68 = .ok (.aload_n 0, 1) := by decide +kernel
theorem dX4_init_69 : decode cX4_init 69 = .ok (.getfield 27, 3) := by decide +kernel
theorem dX4_init_72 : decode cX4_init 72 = .ok (.arraylength, 1) := by decide +kernel
theorem dX4_init_73 : decode cX4_init 73 = .ok (.if_icmp .ge 23, 3) := by decide +kernel
theorem dX4_init_76 : decode cX4_init 76 = .ok (.aload_n 0, 1) := by decide +kernel
theorem dX4_init_77 : decode cX4_init 77 = .ok (.getfield 27, 3) := by decide +kernel
theorem dX4_init_80 : decode cX4_init 80 = .ok (.iload_n 1, 1) := by decide +kernel
theorem dX4_init_81 : decode cX4_init 81 = .ok (.new 25, 3) := by decide +kernel
theorem dX4_init_84 : decode cX4_init 84 = .ok (.dup, 1) := by decide +kernel
theorem dX4_init_85 : decode cX4_init 85 = .ok (.iload_n 1, 1) := by decide +kernel
theorem dX4_init_86 : decode cX4_init 86 = .ok (.invokespecial 45, 3) := by decide +kernel
theorem dX4_init_89 : decode cX4_init 89 = .ok (.aastore, 1) := by decide +kernel
theorem dX4_init_90 : decode cX4_init 90 = .ok (.iinc 1 1, 3) := by decide +kernel
theorem dX4_init_93 : decode cX4_init 93 = .ok (.goto (-26), 3) := by decide +kernel
theorem dX4_init_96 : decode cX4_init 96 = .ok (.aload_n 0, 1) := by decide +kernel
theorem dX4_init_97 : decode cX4_init 97 = .ok (.iconst 4, 1) := by decide +kernel
theorem dX4_init_98 : decode cX4_init 98 = .ok (.bipush 12, 2) := by decide +kernel
theorem dX4_init_100 : decode cX4_init 100 = .ok (.invokevirtual 48, 3) := by decide +kernel
theorem dX4_init_103 : decode cX4_init 103 = .ok (.return_, 1) := by decide +kernel
theorem dX4_begin_0 : decode cX4_begin 0 = .ok (.aload_n 0, 1) := by decide +kernel
theorem dX4_begin_1 : decode cX4_begin 1 = .ok (.getfield 12, 3) := by decide +kernel
theorem dX4_begin_4 : decode cX4_begin 4 = .ok (.iload_n 1, 1) := by decide +kernel
theorem dX4_begin_5 : decode cX4_begin 5 = .ok (.iload_n 2, 1) := by decide +kernel
theorem dX4_begin_6 : decode cX4_begin 6 = .ok (.invokevirtual 52, 3) := by decide +kernel
theorem dX4_begin_9 : decode cX4_begin 9 = .ok (.aload_n 0, 1) := by decide +kernel
theorem dX4_begin_10 : decode cX4_begin 10 = .ok (.getfield 21, 3) := by decide +kernel
theorem dX4_begin_13 : decode cX4_begin 13 = .ok (.iconst 0, 1) := by decide +kernel
theorem dX4_begin_14 : decode cX4_begin 14 = .ok (.putfield 55, 3) := by decide +kernel
theorem dX4_begin_17 : decode cX4_begin 17 = .ok (.aload_n 0, 1) := by decide +kernel
theorem dX4_begin_18 : decode cX4_begin 18 = .ok (.getfield 21, 3) := by decide +kernel
theorem dX4_begin_21 : decode cX4_begin 21 = .ok (.iconst 0, 1) := by decide +kernel
theorem dX4_begin_22 : decode cX4_begin 22 = .ok (.putfield 59, 3) := by decide +kernel
theorem dX4_begin_25 : decode cX4_begin 25 = .ok (.aload_n 0, 1) := by decide +kernel
theorem dX4_begin_26 : decode cX4_begin 26 = .ok (.aload_n 0, 1) := by decide +kernel
theorem dX4_begin_27 : decode cX4_begin 27 = .ok (.iload_n 1, 1) := by decide +kernel
theorem dX4_begin_28 : decode cX4_begin 28 = .ok (.invokevirtual 62, 3) := by decide +kernel
theorem dX4_begin_31 : decode cX4_begin 31 = .ok (.putfield 66, 3) := by decide +kernel
theorem dX4_begin_34 : decode cX4_begin 34 = .ok (.aload_n 0, 1) := by decide +kernel
theorem dX4_begin_35 : decode cX4_begin 35 = .ok (.aload_n 0, 1) := by decide +kernel
theorem dX4_begin_36 : decode cX4_begin 36 = .ok (.getfield 66, 3) := by decide +kernel
theorem dX4_begin_39 : decode cX4_begin 39 = .ok (.putfield 70, 3) := by decide +kernel
theorem dX4_begin_42 : decode cX4_begin 42 = .ok (.aload_n 0, 1) := by decide +kernel
theorem dX4_begin_43 : decode cX4_begin 43 = .ok (.iconst 0, 1) := by decide +kernel
theorem dX4_begin_44 : decode cX4_begin 44 = .ok (.putfield 73, 3) := by decide +kernel
theorem dX4_begin_47 : decode cX4_begin 47 = .ok (.aload_n 0, 1) := by decide +kernel
theorem dX4_begin_48 : decode cX4_begin 48 = .ok (.iconst 0, 1) := by decide +kernel
theorem dX4_begin_49 : decode cX4_begin 49 = .ok (.putfield 77, 3) := by decide +kernel
theorem dX4_begin_52 : decode cX4_begin 52 = .ok (.aload_n 0, 1) := by decide +kernel
theorem dX4_begin_53 : decode cX4_begin 53 = .ok (.iconst 2, 1) := by decide +kernel
theorem dX4_begin_54 : decode cX4_begin 54 = .ok (.putfield 80, 3) := by decide +kernel
theorem dX4_begin_57 : decode cX4_begin 57 = .ok (.aload_n 0, 1) := by decide +kernel
theorem dX4_begin_58 : decode cX4_begin 58 = .ok (.iconst 0, 1) := by decide +kernel
theorem dX4_begin_59 : decode cX4_begin 59 = .ok (.putfield 81, 3) := by decide +kernel
theorem dX4_begin_62 : decode cX4_begin 62 = .ok (.aload_n 0, 1) := by decide +kernel
theorem dX4_begin_63 : decode cX4_begin 63 = .ok (.iconst 0, 1) := by decide +kernel
theorem dX4_begin_64 : decode cX4_begin 64 = .ok (.putfield 84, 3) := by decide +kernel
theorem dX4_begin_67 : decode cX4_begin 67 = .ok (.aload_n 0, 1) := by decide +kernel
theorem dX4_begin_68 : decode cX4_begin 68 = .ok (.iconst 2, 1) := by decide +kernel
theorem dX4_begin_69 : decode cX4_begin 69 = .ok (.putfield 87, 3) := by decide +kernel
theorem dX4_begin_72 : decode cX4_begin 72 = .ok (.aload_n 0, 1) := by decide +kernel
theorem dX4_begin_73 : decode cX4_begin 73 = .ok (.bipush 20, 2) := by decide +kernel
theorem dX4_begin_75 : decode cX4_begin 75 = .ok (.putfield 90, 3) := by decide +kernel
theorem dX4_begin_78 : decode cX4_begin 78 = .ok (.aload_n 0, 1) := by decide +kernel
theorem dX4_begin_79 : decode cX4_begin 79 = .ok (.iconst 0, 1) := by decide +kernel
theorem dX4_begin_80 : decode cX4_begin 80 = .ok (.putfield 93, 3) := by decide +kernel
theorem dX4_begin_83 : decode cX4_begin 83 = .ok (.aload_n 0, 1) := by decide +kernel
theorem dX4_begin_84 : decode cX4_begin 84 = .ok (.iconst 0, 1) := by decide +kernel
theorem dX4_begin_85 : decode cX4_begin 85 = .ok (.putfield 96, 3) := by decide +kernel
theorem dX4_begin_88 : decode cX4_begin 88 = .ok (.return_, 1) := by decide +kernel
theorem dX4_copyFrom_0 : decode cX4_copyFrom 0 = .ok (.aload_n 0, 1) := by decide +kernel
theorem dX4_copyFrom_1 : decode cX4_copyFrom 1 = .ok (.getfield 12, 3) := by decide +kernel
theorem dX4_copyFrom_4 : decode cX4_copyFrom 4 = .ok (.aload_n 1, 1) := by decide +kernel
theorem dX4_copyFrom_5 : decode cX4_copyFrom 5 = .ok (.getfield 12, 3) := by decide +kernel
theorem dX4_copyFrom_8 : decode cX4_copyFrom 8 = .ok (.invokevirtual 99, 3) := by decide +kernel
theorem dX4_copyFrom_11 : decode cX4_copyFrom 11 = .ok (.aload_n 0, 1) := by decide +kernel
theorem dX4_copyFrom_12 : decode cX4_copyFrom 12 = .ok (.getfield 21, 3) := by decide +kernel
theorem dX4_copyFrom_15 : decode cX4_copyFrom 15 = .ok (.aload_n 1, 1) := by decide +kernel
theorem dX4_copyFrom_16 : decode cX4_copyFrom 16 = .ok (.getfield 21, 3) := by decide +kernel
theorem dX4_copyFrom_19 : decode cX4_copyFrom 19 = .ok (.invokevirtual 103, 3) := by decide +kernel
theorem dX4_copyFrom_22 : decode cX4_copyFrom 22 = .ok (.aload_n 1, 1) := by decide +kernel
theorem dX4_copyFrom_23 : decode cX4_copyFrom 23 = .ok (.getfield 31, 3) := by decide +kernel
theorem dX4_copyFrom_26 : decode cX4_copyFrom 26 = .ok (.iconst 0, 1) := by decide +kernel
theorem dX4_copyFrom_27 : decode cX4_copyFrom 27 = .ok (.aload_n 0, 1) := by decide +kernel
theorem dX4_copyFrom_28 : decode cX4_copyFrom 28 = .ok (.getfield 31, 3) := by decide +kernel
theorem dX4_copyFrom_31 : decode cX4_copyFrom 31 = .ok (.iconst 0, 1) := by decide +kernel
theorem dX4_copyFrom_32 : decode cX4_copyFrom 32 = .ok (.aload_n 0, 1) := by decide +kernel
theorem dX4_copyFrom_33 : decode cX4_copyFrom 33 = .ok (.getfield 31, 3) := by decide +kernel
theorem dX4_copyFrom_36 : decode cX4_copyFrom 36 = .ok (.arraylength, 1) := by decide +kernel
theorem dX4_copyFrom_37 : decode cX4_copyFrom 37 = .ok (.invokestatic 106, 3) := by decide +kernel
theorem dX4_copyFrom_40 : decode cX4_copyFrom 40 = .ok (.aload_n 0, 1) := by decide +kernel
theorem dX4_copyFrom_41 : decode cX4_copyFrom 41 = .ok (.aload_n 1, 1) := by decide +kernel
theorem dX4_copyFrom_42 : decode cX4_copyFrom 42 = .ok (.getfield 66, 3) := by decide +kernel
theorem dX4_copyFrom_45 : decode cX4_copyFrom 45 = .ok (.putfield 66, 3) := by decide +kernel
theorem dX4_copyFrom_48 : decode cX4_copyFrom 48 = .ok (.aload_n 0, 1) := by decide +kernel
theorem dX4_copyFrom_49 : decode cX4_copyFrom 49 = .ok (.aload_n 1, 1) := by decide +kernel
theorem dX4_copyFrom_50 : decode cX4_copyFrom 50 = .ok (.getfield 70, 3) := by decide +kernel
theorem dX4_copyFrom_53 : decode cX4_copyFrom 53 = .ok (.putfield 70, 3) := by decide +kernel
theorem dX4_copyFrom_56 : decode cX4_copyFrom 56 = .ok (.aload_n 0, 1) := by decide +kernel
theorem dX4_copyFrom_57 : decode cX4_copyFrom 57 = .ok (.aload_n 1, 1) := by decide +kernel
theorem dX4_copyFrom_58 : decode cX4_copyFrom 58 = .ok (.getfield 73, 3) := by decide +kernel
theorem dX4_copyFrom_61 : decode cX4_copyFrom 61 = .ok (.putfield 73, 3) := by decide +kernel
theorem dX4_copyFrom_64 : decode cX4_copyFrom 64 = .ok (.aload_n 0, 1) := by decide +kernel
theorem dX4_copyFrom_65 : decode cX4_copyFrom 65 = .ok (.aload_n 1, 1) := by decide +kernel
theorem dX4_copyFrom_66 : decode cX4_copyFrom 66 = .ok (.getfield 77, 3) := by decide +kernel
theorem dX4_copyFrom_69 : decode cX4_copyFrom 69 = .ok (.putfield 77, 3) := by decide +kernel
theorem dX4_copyFrom_72 : decode cX4_copyFrom 72 = .ok (.aload_n 0, 1) := by decide +kernel
theorem dX4_copyFrom_73 : decode cX4_copyFrom 73 = .ok (.aload_n 1, 1) := by decide +kernel
theorem dX4_copyFrom_74 : decode cX4_copyFrom 74 = .ok (.getfield 80, 3) := by decide +kernel
theorem dX4_copyFrom_77 : decode cX4_copyFrom 77 = .ok (.putfield 80, 3) := by decide +kernel
theorem dX4_copyFrom_80 : decode cX4_copyFrom 80 = .ok (.aload_n 0, 1) := by decide +kernel
theorem dX4_copyFrom_81 : decode cX4_copyFrom 81 = .ok (.aload_n 1, 1) := by decide +kernel
theorem dX4_copyFrom_82 : decode cX4_copyFrom 82 = .ok (.getfield 81, 3) := by decide +kernel
theorem dX4_copyFrom_85 : decode cX4_copyFrom 85 = .ok (.putfield 81, 3) := by decide +kernel
theorem dX4_copyFrom_88 : decode cX4_copyFrom 88 = .ok (.aload_n 0, 1) := by decide +kernel
theorem dX4_copyFrom_89 : decode cX4_copyFrom 89 = .ok (.aload_n 1, 1) := by decide +kernel
theorem dX4_copyFrom_90 : decode cX4_copyFrom 90 = .ok (.getfield 84, 3) := by decide +kernel
theorem dX4_copyFrom_93 : decode cX4_copyFrom 93 = .ok (.putfield 84, 3) := by decide +kernel
theorem dX4_copyFrom_96 : decode cX4_copyFrom 96 = .ok (.aload_n 0, 1) := by decide +kernel
theorem dX4_copyFrom_97 : decode cX4_copyFrom 97 = .ok (.aload_n 1, 1) := by decide +kernel
theorem dX4_copyFrom_98 : decode cX4_copyFrom 98 = .ok (.getfield 87, 3) := by decide +kernel
theorem dX4_copyFrom_101 : decode cX4_copyFrom 101 = .ok (.putfield 87, 3) := by decide +kernel
theorem dX4_copyFrom_104 : decode cX4_copyFrom 104 = .ok (.aload_n 0, 1) := by decide +kernel
theorem dX4_copyFrom_105 : decode cX4_copyFrom 105 = .ok (.aload_n 1, 1) := by decide +kernel
theorem dX4_copyFrom_106 : decode cX4_copyFrom 106 = .ok (.getfield 90, 3) := by decide +kernel
theorem dX4_copyFrom_109 : decode cX4_copyFrom 109 = .ok (.putfield 90, 3) := by decide +kernel
theorem dX4_copyFrom_112 : decode cX4_copyFrom 112 = .ok (.aload_n 0, 1) := by decide +kernel
theorem dX4_copyFrom_113 : decode cX4_copyFrom 113 = .ok (.aload_n 1, 1) := by decide +kernel
theorem dX4_copyFrom_114 : decode cX4_copyFrom 114 = .ok (.getfield 93, 3) := by decide +kernel
theorem dX4_copyFrom_117 : decode cX4_copyFrom 117 = .ok (.putfield 93, 3) := by decide +kernel
theorem dX4_copyFrom_120 : decode cX4_copyFrom 120 = .ok (.aload_n 0, 1) := by decide +kernel
theorem dX4_copyFrom_121 : decode cX4_copyFrom 121 = .ok (.aload_n 1, 1) := by decide +kernel
theorem dX4_copyFrom_122 : decode cX4_copyFrom 122 = .ok (.getfield 96, 3) := by decide +kernel
theorem dX4_copyFrom_125 : decode cX4_copyFrom 125 = .ok (.putfield 96, 3) := by decide +kernel
theorem dX4_copyFrom_128 : decode cX4_copyFrom 128 = .ok (.aload_n 0, 1) := by decide +kernel
theorem dX4_copyFrom_129 : decode cX4_copyFrom 129 = .ok (.invokevirtual 112, 3) := by decide +kernel
theorem dX4_copyFrom_132 : decode cX4_copyFrom 132 = .ok (.return_, 1) := by decide +kernel
theorem dX4_layoutOf_0 : decode cX4_layoutOf 0 = .ok (.iload_n 1, 1) := by decide +kernel
theorem dX4_layoutOf_1 : decode cX4_layoutOf 1 = .ok (.ifCond .lt 12, 3) := by decide +kernel
theorem dX4_layoutOf_4 : decode cX4_layoutOf 4 = .ok (.iload_n 1, 1) := by decide +kernel
theorem dX4_layoutOf_5 : decode cX4_layoutOf 5 = .ok (.aload_n 0, 1) := by decide +kernel
theorem dX4_layoutOf_6 : decode cX4_layoutOf 6 = .ok (.getfield 27, 3) := by decide +kernel
theorem dX4_layoutOf_9 : decode cX4_layoutOf 9 = .ok (.arraylength, 1) := by decide +kernel
theorem dX4_layoutOf_10 : decode cX4_layoutOf 10 = .ok (.if_icmp .lt 12, 3) := by decide +kernel
theorem dX4_layoutOf_13 : decode cX4_layoutOf 13 = .ok (.aload_n 0, 1) := by decide +kernel
theorem dX4_layoutOf_14 : decode cX4_layoutOf 14 = .ok (.getfield 27, 3) := by decide +kernel
theorem dX4_layoutOf_17 : decode cX4_layoutOf 17 = .ok (.iconst 0, 1) := by decide +kernel
theorem dX4_layoutOf_18 : decode cX4_layoutOf 18 = .ok (.aaload, 1) := by decide +kernel
theorem dX4_layoutOf_19 : decode cX4_layoutOf 19 = .ok (.goto 9, 3) := by decide +kernel
theorem dX4_layoutOf_22 : decode cX4_layoutOf 22 = .ok (.aload_n 0, 1) := by decide +kernel
theorem dX4_layoutOf_23 : decode cX4_layoutOf 23 = .ok (.getfield 27, 3) := by decide +kernel
theorem dX4_layoutOf_26 : decode cX4_layoutOf 26 = .ok (.iload_n 1, 1) := by decide +kernel
theorem dX4_layoutOf_27 : decode cX4_layoutOf 27 = .ok (.aaload, 1) := by decide +kernel
theorem dX4_layoutOf_28 : decode cX4_layoutOf 28 = .ok (.areturn, 1) := by decide +kernel
theorem dX4_planBatch_0 : decode cX4_planBatch 0 = .ok (.aload_n 0, 1) := by decide +kernel
theorem dX4_planBatch_1 : decode cX4_planBatch 1 = .ok (.getfield 73, 3) := by decide +kernel
theorem dX4_planBatch_4 : decode cX4_planBatch 4 = .ok (.ifCond .eq 33, 3) := by decide +kernel
theorem dX4_planBatch_7 : decode cX4_planBatch 7 = .ok (.aload_n 0, 1) := by decide +kernel
theorem dX4_planBatch_8 : decode cX4_planBatch 8 = .ok (.getfield 38, 3) := by decide +kernel
theorem dX4_planBatch_11 : decode cX4_planBatch 11 = .ok (.aload_n 0, 1) := by decide +kernel
theorem dX4_planBatch_12 : decode cX4_planBatch 12 = .ok (.getfield 66, 3) := by decide +kernel
theorem dX4_planBatch_15 : decode cX4_planBatch 15 = .ok (.aload_n 0, 1) := by decide +kernel
theorem dX4_planBatch_16 : decode cX4_planBatch 16 = .ok (.getfield 70, 3) := by decide +kernel
theorem dX4_planBatch_19 : decode cX4_planBatch 19 = .ok (.aload_n 0, 1) := by decide +kernel
theorem dX4_planBatch_20 : decode cX4_planBatch 20 = .ok (.getfield 12, 3) := by decide +kernel
theorem dX4_planBatch_23 : decode cX4_planBatch 23 = .ok (.getfield 115, 3) := by decide +kernel
theorem dX4_planBatch_26 : decode cX4_planBatch 26 = .ok (.aload_n 0, 1) := by decide +kernel
theorem dX4_planBatch_27 : decode cX4_planBatch 27 = .ok (.getfield 77, 3) := by decide +kernel
theorem dX4_planBatch_30 : decode cX4_planBatch 30 = .ok (.aload_n 0, 1) := by decide +kernel
theorem dX4_planBatch_31 : decode cX4_planBatch 31 = .ok (.getfield 80, 3) := by decide +kernel
theorem dX4_planBatch_34 : decode cX4_planBatch 34 = .ok (.invokevirtual 118, 3) := by decide +kernel
theorem dX4_planBatch_37 : decode cX4_planBatch 37 = .ok (.return_, 1) := by decide +kernel
theorem dX4_blocks_0 : decode cX4_blocks 0 = .ok (.aload_n 0, 1) := by decide +kernel
theorem dX4_blocks_1 : decode cX4_blocks 1 = .ok (.getfield 12, 3) := by decide +kernel
theorem dX4_blocks_4 : decode cX4_blocks 4 = .ok (.getfield 115, 3) := by decide +kernel
theorem dX4_blocks_7 : decode cX4_blocks 7 = .ok (.aload_n 0, 1) := by decide +kernel
theorem dX4_blocks_8 : decode cX4_blocks 8 = .ok (.getfield 66, 3) := by decide +kernel
theorem dX4_blocks_11 : decode cX4_blocks 11 = .ok (.getfield 122, 3) := by decide +kernel
theorem dX4_blocks_14 : decode cX4_blocks 14 = .ok (.imul, 1) := by decide +kernel
theorem dX4_blocks_15 : decode cX4_blocks 15 = .ok (.ireturn, 1) := by decide +kernel
theorem dX4_newStripes_0 : decode cX4_newStripes 0 = .ok (.aload_n 0, 1) := by decide +kernel
theorem dX4_newStripes_1 : decode cX4_newStripes 1 = .ok (.getfield 12, 3) := by decide +kernel
theorem dX4_newStripes_4 : decode cX4_newStripes 4 = .ok (.getfield 115, 3) := by decide +kernel
theorem dX4_newStripes_7 : decode cX4_newStripes 7 = .ok (.aload_n 0, 1) := by decide +kernel
theorem dX4_newStripes_8 : decode cX4_newStripes 8 = .ok (.getfield 66, 3) := by decide +kernel
theorem dX4_newStripes_11 : decode cX4_newStripes 11 = .ok (.getfield 122, 3) := by decide +kernel
theorem dX4_newStripes_14 : decode cX4_newStripes 14 = .ok (.imul, 1) := by decide +kernel
theorem dX4_newStripes_15 : decode cX4_newStripes 15 = .ok (.aload_n 0, 1) := by decide +kernel
theorem dX4_newStripes_16 : decode cX4_newStripes 16 = .ok (.getfield 70, 3) := by decide +kernel
theorem dX4_newStripes_19 : decode cX4_newStripes 19 = .ok (.getfield 122, 3) := by decide +kernel
theorem dX4_newStripes_22 : decode cX4_newStripes 22 = .ok (.iadd, 1) := by decide +kernel
theorem dX4_newStripes_23 : decode cX4_newStripes 23 = .ok (.iconst 1, 1) := by decide +kernel
theorem dX4_newStripes_24 : decode cX4_newStripes 24 = .ok (.isub, 1) := by decide +kernel
theorem dX4_newStripes_25 : decode cX4_newStripes 25 = .ok (.aload_n 0, 1) := by decide +kernel
theorem dX4_newStripes_26 : decode cX4_newStripes 26 = .ok (.getfield 70, 3) := by decide +kernel
theorem dX4_newStripes_29 : decode cX4_newStripes 29 = .ok (.getfield 122, 3) := by decide +kernel
theorem dX4_newStripes_32 : decode cX4_newStripes 32 = .ok (.idiv, 1) := by decide +kernel
theorem dX4_newStripes_33 : decode cX4_newStripes 33 = .ok (.ireturn, 1) := by decide +kernel
theorem dX4_hasBlock_0 : decode cX4_hasBlock 0 = .ok (.iload_n 1, 1) := by decide +kernel
theorem dX4_hasBlock_1 : decode cX4_hasBlock 1 = .ok (.ifCond .lt 15, 3) := by decide +kernel
theorem dX4_hasBlock_4 : decode cX4_hasBlock 4 = .ok (.iload_n 1, 1) := by decide +kernel
theorem dX4_hasBlock_5 : decode cX4_hasBlock 5 = .ok (.aload_n 0, 1) := by decide +kernel
theorem dX4_hasBlock_6 : decode cX4_hasBlock 6 = .ok (.invokevirtual 125, 3) := by decide +kernel
theorem dX4_hasBlock_9 : decode cX4_hasBlock 9 = .ok (.if_icmp .ge 7, 3) := by decide +kernel
theorem dX4_hasBlock_12 : decode cX4_hasBlock 12 = .ok (.iconst 1, 1) := by decide +kernel
theorem dX4_hasBlock_13 : decode cX4_hasBlock 13 = .ok (.goto 4, 3) := by decide +kernel
theorem dX4_hasBlock_16 : decode cX4_hasBlock 16 = .ok (.iconst 0, 1) := by decide +kernel
theorem dX4_hasBlock_17 : decode cX4_hasBlock 17 = .ok (.ireturn, 1) := by decide +kernel
theorem dX4_anyMoving_0 : decode cX4_anyMoving 0 = .ok (.aload_n 0, 1) := by decide +kernel
theorem dX4_anyMoving_1 : decode cX4_anyMoving 1 = .ok (.getfield 73, 3) := by decide +kernel
theorem dX4_anyMoving_4 : decode cX4_anyMoving 4 = .ok (.ifCond .eq 14, 3) := by decide +kernel
theorem dX4_anyMoving_7 : decode cX4_anyMoving 7 = .ok (.aload_n 0, 1) := by decide +kernel
theorem dX4_anyMoving_8 : decode cX4_anyMoving 8 = .ok (.getfield 81, 3) := by decide +kernel
theorem dX4_anyMoving_11 : decode cX4_anyMoving 11 = .ok (.ifCond .le 7, 3) := by decide +kernel
theorem dX4_anyMoving_14 : decode cX4_anyMoving 14 = .ok (.iconst 1, 1) := by decide +kernel
theorem dX4_anyMoving_15 : decode cX4_anyMoving 15 = .ok (.goto 4, 3) := by decide +kernel
theorem dX4_anyMoving_18 : decode cX4_anyMoving 18 = .ok (.iconst 0, 1) := by decide +kernel
theorem dX4_anyMoving_19 : decode cX4_anyMoving 19 = .ok (.ireturn, 1) := by decide +kernel
theorem dX4_isMoving_0 : decode cX4_isMoving 0 = .ok (.aload_n 0, 1) := by decide +kernel
theorem dX4_isMoving_1 : decode cX4_isMoving 1 = .ok (.invokevirtual 129, 3) := by decide +kernel
theorem dX4_isMoving_4 : decode cX4_isMoving 4 = .ok (.ifCond .eq 37, 3) := by decide +kernel
theorem dX4_isMoving_7 : decode cX4_isMoving 7 = .ok (.iload_n 1, 1) := by decide +kernel
theorem dX4_isMoving_8 : decode cX4_isMoving 8 = .ok (.aload_n 0, 1) := by decide +kernel
theorem dX4_isMoving_9 : decode cX4_isMoving 9 = .ok (.getfield 38, 3) := by decide +kernel
theorem dX4_isMoving_12 : decode cX4_isMoving 12 = .ok (.getfield 133, 3) := by decide +kernel
theorem dX4_isMoving_15 : decode cX4_isMoving 15 = .ok (.if_icmp .lt 26, 3) := by decide +kernel
theorem dX4_isMoving_18 : decode cX4_isMoving 18 = .ok (.iload_n 1, 1) := by decide +kernel
theorem dX4_isMoving_19 : decode cX4_isMoving 19 = .ok (.aload_n 0, 1) := by decide +kernel
theorem dX4_isMoving_20 : decode cX4_isMoving 20 = .ok (.getfield 38, 3) := by decide +kernel
theorem dX4_isMoving_23 : decode cX4_isMoving 23 = .ok (.getfield 133, 3) := by decide +kernel
theorem dX4_isMoving_26 : decode cX4_isMoving 26 = .ok (.aload_n 0, 1) := by decide +kernel
theorem dX4_isMoving_27 : decode cX4_isMoving 27 = .ok (.getfield 38, 3) := by decide +kernel
theorem dX4_isMoving_30 : decode cX4_isMoving 30 = .ok (.getfield 136, 3) := by decide +kernel
theorem dX4_isMoving_33 : decode cX4_isMoving 33 = .ok (.iadd, 1) := by decide +kernel
theorem dX4_isMoving_34 : decode cX4_isMoving 34 = .ok (.if_icmp .ge 7, 3) := by decide +kernel
theorem dX4_isMoving_37 : decode cX4_isMoving 37 = .ok (.iconst 1, 1) := by decide +kernel
theorem dX4_isMoving_38 : decode cX4_isMoving 38 = .ok (.goto 4, 3) := by decide +kernel
theorem dX4_isMoving_41 : decode cX4_isMoving 41 = .ok (.iconst 0, 1) := by decide +kernel
theorem dX4_isMoving_42 : decode cX4_isMoving 42 = .ok (.ireturn, 1) := by decide +kernel
theorem dX4_isHeld_0 : decode cX4_isHeld 0 = .ok (.aload_n 0, 1) := by decide +kernel
theorem dX4_isHeld_1 : decode cX4_isHeld 1 = .ok (.iload_n 1, 1) := by decide +kernel
theorem dX4_isHeld_2 : decode cX4_isHeld 2 = .ok (.invokevirtual 139, 3) := by decide +kernel
theorem dX4_isHeld_5 : decode cX4_isHeld 5 = .ok (.ifCond .eq 38, 3) := by decide +kernel
theorem dX4_isHeld_8 : decode cX4_isHeld 8 = .ok (.aload_n 0, 1) := by decide +kernel
theorem dX4_isHeld_9 : decode cX4_isHeld 9 = .ok (.getfield 81, 3) := by decide +kernel
theorem dX4_isHeld_12 : decode cX4_isHeld 12 = .ok (.aload_n 0, 1) := by decide +kernel
theorem dX4_isHeld_13 : decode cX4_isHeld 13 = .ok (.getfield 38, 3) := by decide +kernel
theorem dX4_isHeld_16 : decode cX4_isHeld 16 = .ok (.getfield 143, 3) := by decide +kernel
theorem dX4_isHeld_19 : decode cX4_isHeld 19 = .ok (.if_icmp .lt 24, 3) := by decide +kernel
theorem dX4_isHeld_22 : decode cX4_isHeld 22 = .ok (.iload_n 1, 1) := by decide +kernel
theorem dX4_isHeld_23 : decode cX4_isHeld 23 = .ok (.aload_n 0, 1) := by decide +kernel
theorem dX4_isHeld_24 : decode cX4_isHeld 24 = .ok (.getfield 38, 3) := by decide +kernel
theorem dX4_isHeld_27 : decode cX4_isHeld 27 = .ok (.getfield 133, 3) := by decide +kernel
theorem dX4_isHeld_30 : decode cX4_isHeld 30 = .ok (.isub, 1) := by decide +kernel
theorem dX4_isHeld_31 : decode cX4_isHeld 31 = .ok (.aload_n 0, 1) := by decide +kernel
theorem dX4_isHeld_32 : decode cX4_isHeld 32 = .ok (.getfield 31, 3) := by decide +kernel
theorem dX4_isHeld_35 : decode cX4_isHeld 35 = .ok (.arraylength, 1) := by decide +kernel
theorem dX4_isHeld_36 : decode cX4_isHeld 36 = .ok (.if_icmp .ge 7, 3) := by decide +kernel
theorem dX4_isHeld_39 : decode cX4_isHeld 39 = .ok (.iconst 1, 1) := by decide +kernel
theorem dX4_isHeld_40 : decode cX4_isHeld 40 = .ok (.goto 4, 3) := by decide +kernel
theorem dX4_isHeld_43 : decode cX4_isHeld 43 = .ok (.iconst 0, 1) := by decide +kernel
theorem dX4_isHeld_44 : decode cX4_isHeld 44 = .ok (.ireturn, 1) := by decide +kernel
theorem dX4_isNew_0 : decode cX4_isNew 0 = .ok (.aload_n 0, 1) := by decide +kernel
theorem dX4_isNew_1 : decode cX4_isNew 1 = .ok (.getfield 73, 3) := by decide +kernel
theorem dX4_isNew_4 : decode cX4_isNew 4 = .ok (.ifCond .eq 23, 3) := by decide +kernel
theorem dX4_isNew_7 : decode cX4_isNew 7 = .ok (.iload_n 1, 1) := by decide +kernel
theorem dX4_isNew_8 : decode cX4_isNew 8 = .ok (.aload_n 0, 1) := by decide +kernel
theorem dX4_isNew_9 : decode cX4_isNew 9 = .ok (.getfield 77, 3) := by decide +kernel
theorem dX4_isNew_12 : decode cX4_isNew 12 = .ok (.aload_n 0, 1) := by decide +kernel
theorem dX4_isNew_13 : decode cX4_isNew 13 = .ok (.getfield 70, 3) := by decide +kernel
theorem dX4_isNew_16 : decode cX4_isNew 16 = .ok (.getfield 122, 3) := by decide +kernel
theorem dX4_isNew_19 : decode cX4_isNew 19 = .ok (.imul, 1) := by decide +kernel
theorem dX4_isNew_20 : decode cX4_isNew 20 = .ok (.if_icmp .ge 7, 3) := by decide +kernel
theorem dX4_isNew_23 : decode cX4_isNew 23 = .ok (.iconst 1, 1) := by decide +kernel
theorem dX4_isNew_24 : decode cX4_isNew 24 = .ok (.goto 4, 3) := by decide +kernel
theorem dX4_isNew_27 : decode cX4_isNew 27 = .ok (.iconst 0, 1) := by decide +kernel
theorem dX4_isNew_28 : decode cX4_isNew 28 = .ok (.ireturn, 1) := by decide +kernel
theorem dX4_layoutAt_0 : decode cX4_layoutAt 0 = .ok (.aload_n 0, 1) := by decide +kernel
theorem dX4_layoutAt_1 : decode cX4_layoutAt 1 = .ok (.iload_n 1, 1) := by decide +kernel
theorem dX4_layoutAt_2 : decode cX4_layoutAt 2 = .ok (.invokevirtual 146, 3) := by decide +kernel
theorem dX4_layoutAt_5 : decode cX4_layoutAt 5 = .ok (.ifCond .eq 10, 3) := by decide +kernel
theorem dX4_layoutAt_8 : decode cX4_layoutAt 8 = .ok (.aload_n 0, 1) := by decide +kernel
theorem dX4_layoutAt_9 : decode cX4_layoutAt 9 = .ok (.getfield 70, 3) := by decide +kernel
theorem dX4_layoutAt_12 : decode cX4_layoutAt 12 = .ok (.goto 7, 3) := by decide +kernel
theorem dX4_layoutAt_15 : decode cX4_layoutAt 15 = .ok (.aload_n 0, 1) := by decide +kernel
theorem dX4_layoutAt_16 : decode cX4_layoutAt 16 = .ok (.getfield 66, 3) := by decide +kernel
theorem dX4_layoutAt_19 : decode cX4_layoutAt 19 = .ok (.areturn, 1) := by decide +kernel
theorem dX4_layoutOfRow_0 : decode cX4_layoutOfRow 0 = .ok (.iload_n 1, 1) := by decide +kernel
theorem dX4_layoutOfRow_1 : decode cX4_layoutOfRow 1 = .ok (.aload_n 0, 1) := by decide +kernel
theorem dX4_layoutOfRow_2 : decode cX4_layoutOfRow 2 = .ok (.getfield 77, 3) := by decide +kernel
theorem dX4_layoutOfRow_5 : decode cX4_layoutOfRow 5 = .ok (.if_icmp .ge 10, 3) := by decide +kernel
theorem dX4_layoutOfRow_8 : decode cX4_layoutOfRow 8 = .ok (.aload_n 0, 1) := by decide +kernel
theorem dX4_layoutOfRow_9 : decode cX4_layoutOfRow 9 = .ok (.getfield 70, 3) := by decide +kernel
theorem dX4_layoutOfRow_12 : decode cX4_layoutOfRow 12 = .ok (.goto 7, 3) := by decide +kernel
theorem dX4_layoutOfRow_15 : decode cX4_layoutOfRow 15 = .ok (.aload_n 0, 1) := by decide +kernel
theorem dX4_layoutOfRow_16 : decode cX4_layoutOfRow 16 = .ok (.getfield 66, 3) := by decide +kernel
theorem dX4_layoutOfRow_19 : decode cX4_layoutOfRow 19 = .ok (.areturn, 1) := by decide +kernel
theorem dX4_readsFor_0 : decode cX4_readsFor 0 = .ok (.aload_n 0, 1) := by decide +kernel
theorem dX4_readsFor_1 : decode cX4_readsFor 1 = .ok (.iload_n 1, 1) := by decide +kernel
theorem dX4_readsFor_2 : decode cX4_readsFor 2 = .ok (.invokevirtual 149, 3) := by decide +kernel
theorem dX4_readsFor_5 : decode cX4_readsFor 5 = .ok (.astore_n 2, 1) := by decide +kernel
theorem dX4_readsFor_6 : decode cX4_readsFor 6 = .ok (.aload_n 0, 1) := by decide +kernel
theorem dX4_readsFor_7 : decode cX4_readsFor 7 = .ok (.getfield 12, 3) := by decide +kernel
theorem dX4_readsFor_10 : decode cX4_readsFor 10 = .ok (.aload_n 2, 1) := by decide +kernel
theorem dX4_readsFor_11 : decode cX4_readsFor 11 = .ok (.aload_n 2, 1) := by decide +kernel
theorem dX4_readsFor_12 : decode cX4_readsFor 12 = .ok (.iload_n 1, 1) := by decide +kernel
theorem dX4_readsFor_13 : decode cX4_readsFor 13 = .ok (.invokevirtual 152, 3) := by decide +kernel
theorem dX4_readsFor_16 : decode cX4_readsFor 16 = .ok (.aload_n 2, 1) := by decide +kernel
theorem dX4_readsFor_17 : decode cX4_readsFor 17 = .ok (.iload_n 1, 1) := by decide +kernel
theorem dX4_readsFor_18 : decode cX4_readsFor 18 = .ok (.invokevirtual 156, 3) := by decide +kernel
theorem dX4_readsFor_21 : decode cX4_readsFor 21 = .ok (.invokevirtual 159, 3) := by decide +kernel
theorem dX4_readsFor_24 : decode cX4_readsFor 24 = .ok (.ireturn, 1) := by decide +kernel
theorem dX4_canRead_0 : decode cX4_canRead 0 = .ok (.aload_n 0, 1) := by decide +kernel
theorem dX4_canRead_1 : decode cX4_canRead 1 = .ok (.iload_n 1, 1) := by decide +kernel
theorem dX4_canRead_2 : decode cX4_canRead 2 = .ok (.invokevirtual 163, 3) := by decide +kernel
theorem dX4_canRead_5 : decode cX4_canRead 5 = .ok (.ifCond .ne 11, 3) := by decide +kernel
theorem dX4_canRead_8 : decode cX4_canRead 8 = .ok (.aload_n 0, 1) := by decide +kernel
theorem dX4_canRead_9 : decode cX4_canRead 9 = .ok (.iload_n 1, 1) := by decide +kernel
theorem dX4_canRead_10 : decode cX4_canRead 10 = .ok (.invokevirtual 166, 3) := by decide +kernel
theorem dX4_canRead_13 : decode cX4_canRead 13 = .ok (.ifCond .le 7, 3) := by decide +kernel
theorem dX4_canRead_16 : decode cX4_canRead 16 = .ok (.iconst 1, 1) := by decide +kernel
theorem dX4_canRead_17 : decode cX4_canRead 17 = .ok (.goto 4, 3) := by decide +kernel
theorem dX4_canRead_20 : decode cX4_canRead 20 = .ok (.iconst 0, 1) := by decide +kernel
theorem dX4_canRead_21 : decode cX4_canRead 21 = .ok (.ireturn, 1) := by decide +kernel
theorem dX4_wordOf_0 : decode cX4_wordOf 0 = .ok (.aload_n 0, 1) := by decide +kernel
theorem dX4_wordOf_1 : decode cX4_wordOf 1 = .ok (.iload_n 1, 1) := by decide +kernel
theorem dX4_wordOf_2 : decode cX4_wordOf 2 = .ok (.invokevirtual 163, 3) := by decide +kernel
theorem dX4_wordOf_5 : decode cX4_wordOf 5 = .ok (.ifCond .eq 18, 3) := by decide +kernel
theorem dX4_wordOf_8 : decode cX4_wordOf 8 = .ok (.aload_n 0, 1) := by decide +kernel
theorem dX4_wordOf_9 : decode cX4_wordOf 9 = .ok (.getfield 31, 3) := by decide +kernel
theorem dX4_wordOf_12 : decode cX4_wordOf 12 = .ok (.iload_n 1, 1) := by decide +kernel
theorem dX4_wordOf_13 : decode cX4_wordOf 13 = .ok (.aload_n 0, 1) := by decide +kernel
theorem dX4_wordOf_14 : decode cX4_wordOf 14 = .ok (.getfield 38, 3) := by decide +kernel
theorem dX4_wordOf_17 : decode cX4_wordOf 17 = .ok (.getfield 133, 3) := by decide +kernel
theorem dX4_wordOf_20 : decode cX4_wordOf 20 = .ok (.isub, 1) := by decide +kernel
theorem dX4_wordOf_21 : decode cX4_wordOf 21 = .ok (.iaload, 1) := by decide +kernel
theorem dX4_wordOf_22 : decode cX4_wordOf 22 = .ok (.ireturn, 1) := by decide +kernel
theorem dX4_wordOf_23 : decode cX4_wordOf 23 = .ok (.aload_n 0, 1) := by decide +kernel
theorem dX4_wordOf_24 : decode cX4_wordOf 24 = .ok (.iload_n 1, 1) := by decide +kernel
theorem dX4_wordOf_25 : decode cX4_wordOf 25 = .ok (.invokevirtual 149, 3) := by decide +kernel
theorem dX4_wordOf_28 : decode cX4_wordOf 28 = .ok (.astore_n 2, 1) := by decide +kernel
theorem dX4_wordOf_29 : decode cX4_wordOf 29 = .ok (.aload_n 0, 1) := by decide +kernel
theorem dX4_wordOf_30 : decode cX4_wordOf 30 = .ok (.getfield 12, 3) := by decide +kernel
theorem dX4_wordOf_33 : decode cX4_wordOf 33 = .ok (.aload_n 2, 1) := by decide +kernel
theorem dX4_wordOf_34 : decode cX4_wordOf 34 = .ok (.aload_n 2, 1) := by decide +kernel
theorem dX4_wordOf_35 : decode cX4_wordOf 35 = .ok (.iload_n 1, 1) := by decide +kernel
theorem dX4_wordOf_36 : decode cX4_wordOf 36 = .ok (.invokevirtual 152, 3) := by decide +kernel
theorem dX4_wordOf_39 : decode cX4_wordOf 39 = .ok (.aload_n 2, 1) := by decide +kernel
theorem dX4_wordOf_40 : decode cX4_wordOf 40 = .ok (.iload_n 1, 1) := by decide +kernel
theorem dX4_wordOf_41 : decode cX4_wordOf 41 = .ok (.invokevirtual 156, 3) := by decide +kernel
theorem dX4_wordOf_44 : decode cX4_wordOf 44 = .ok (.invokevirtual 168, 3) := by decide +kernel
theorem dX4_wordOf_47 : decode cX4_wordOf 47 = .ok (.ireturn, 1) := by decide +kernel
theorem dX4_storeOne_0 : decode cX4_storeOne 0 = .ok (.aload_n 0, 1) := by decide +kernel
theorem dX4_storeOne_1 : decode cX4_storeOne 1 = .ok (.iload_n 1, 1) := by decide +kernel
theorem dX4_storeOne_2 : decode cX4_storeOne 2 = .ok (.invokevirtual 171, 3) := by decide +kernel
theorem dX4_storeOne_5 : decode cX4_storeOne 5 = .ok (.ifCond .ne 5, 3) := by decide +kernel
theorem dX4_storeOne_8 : decode cX4_storeOne 8 = .ok (.iconst (-1), 1) := by decide +kernel
theorem dX4_storeOne_9 : decode cX4_storeOne 9 = .ok (.ireturn, 1) := by decide +kernel
theorem dX4_storeOne_10 : decode cX4_storeOne 10 = .ok (.aload_n 0, 1) := by decide +kernel
theorem dX4_storeOne_11 : decode cX4_storeOne 11 = .ok (.iload_n 1, 1) := by decide +kernel
theorem dX4_storeOne_12 : decode cX4_storeOne 12 = .ok (.invokevirtual 139, 3) := by decide +kernel
theorem dX4_storeOne_15 : decode cX4_storeOne 15 = .ok (.ifCond .eq 6, 3) := by decide +kernel
theorem dX4_storeOne_18 : decode cX4_storeOne 18 = .ok (.bipush (-3), 2) := by decide +kernel
theorem dX4_storeOne_20 : decode cX4_storeOne 20 = .ok (.ireturn, 1) := by decide +kernel
theorem dX4_storeOne_21 : decode cX4_storeOne 21 = .ok (.aload_n 0, 1) := by decide +kernel
theorem dX4_storeOne_22 : decode cX4_storeOne 22 = .ok (.iload_n 1, 1) := by decide +kernel
theorem dX4_storeOne_23 : decode cX4_storeOne 23 = .ok (.invokevirtual 149, 3) := by decide +kernel
theorem dX4_storeOne_26 : decode cX4_storeOne 26 = .ok (.astore_n 3, 1) := by decide +kernel
theorem dX4_storeOne_27 : decode cX4_storeOne 27 = .ok (.aload_n 0, 1) := by decide +kernel
theorem dX4_storeOne_28 : decode cX4_storeOne 28 = .ok (.getfield 12, 3) := by decide +kernel
theorem dX4_storeOne_31 : decode cX4_storeOne 31 = .ok (.aload_n 3, 1) := by decide +kernel
theorem dX4_storeOne_32 : decode cX4_storeOne 32 = .ok (.iload_n 1, 1) := by decide +kernel
theorem dX4_storeOne_33 : decode cX4_storeOne 33 = .ok (.invokevirtual 174, 3) := by decide +kernel
theorem dX4_storeOne_36 : decode cX4_storeOne 36 = .ok (.ifCond .ne 5, 3) := by decide +kernel
theorem dX4_storeOne_39 : decode cX4_storeOne 39 = .ok (.iconst 0, 1) := by decide +kernel
theorem dX4_storeOne_40 : decode cX4_storeOne 40 = .ok (.ireturn, 1) := by decide +kernel
theorem dX4_storeOne_41 : decode cX4_storeOne 41 = .ok (.aload_n 0, 1) := by decide +kernel
theorem dX4_storeOne_42 : decode cX4_storeOne 42 = .ok (.getfield 12, 3) := by decide +kernel
theorem dX4_storeOne_45 : decode cX4_storeOne 45 = .ok (.aload_n 3, 1) := by decide +kernel
theorem dX4_storeOne_46 : decode cX4_storeOne 46 = .ok (.iload_n 1, 1) := by decide +kernel
theorem dX4_storeOne_47 : decode cX4_storeOne 47 = .ok (.iload_n 2, 1) := by decide +kernel
theorem dX4_storeOne_48 : decode cX4_storeOne 48 = .ok (.invokevirtual 178, 3) := by decide +kernel
theorem dX4_storeOne_51 : decode cX4_storeOne 51 = .ok (.iconst 1, 1) := by decide +kernel
theorem dX4_storeOne_52 : decode cX4_storeOne 52 = .ok (.ireturn, 1) := by decide +kernel
theorem dX4_storeRun_0 : decode cX4_storeRun 0 = .ok (.iload_n 2, 1) := by decide +kernel
theorem dX4_storeRun_1 : decode cX4_storeRun 1 = .ok (.iconst 1, 1) := by decide +kernel
theorem dX4_storeRun_2 : decode cX4_storeRun 2 = .ok (.if_icmp .lt 24, 3) := by decide +kernel
theorem dX4_storeRun_5 : decode cX4_storeRun 5 = .ok (.iload_n 2, 1) := by decide +kernel
theorem dX4_storeRun_6 : decode cX4_storeRun 6 = .ok (.sipush 200, 3) := by decide +kernel
theorem dX4_storeRun_9 : decode cX4_storeRun 9 = .ok (.if_icmp .gt 17, 3) := by decide +kernel
theorem dX4_storeRun_12 : decode cX4_storeRun 12 = .ok (.iload_n 1, 1) := by decide +kernel
theorem dX4_storeRun_13 : decode cX4_storeRun 13 = .ok (.ifCond .lt 13, 3) := by decide +kernel
theorem dX4_storeRun_16 : decode cX4_storeRun 16 = .ok (.iload_n 1, 1) := by decide +kernel
theorem dX4_storeRun_17 : decode cX4_storeRun 17 = .ok (.aload_n 0, 1) := by decide +kernel
theorem dX4_storeRun_18 : decode cX4_storeRun 18 = .ok (.invokevirtual 125, 3) := by decide +kernel
theorem dX4_storeRun_21 : decode cX4_storeRun 21 = .ok (.iload_n 2, 1) := by decide +kernel
theorem dX4_storeRun_22 : decode cX4_storeRun 22 = .ok (.isub, 1) := by decide +kernel
theorem dX4_storeRun_23 : decode cX4_storeRun 23 = .ok (.if_icmp .le 5, 3) := by decide +kernel
theorem dX4_storeRun_26 : decode cX4_storeRun 26 = .ok (.iconst (-1), 1) := by decide +kernel
theorem dX4_storeRun_27 : decode cX4_storeRun 27 = .ok (.ireturn, 1) := by decide +kernel
theorem dX4_storeRun_28 : decode cX4_storeRun 28 = .ok (.iconst 0, 1) := by decide +kernel
theorem dX4_storeRun_29 : decode cX4_storeRun 29 = .ok (.istore 4, 2) := by decide +kernel
theorem dX4_storeRun_31 : decode cX4_storeRun 31 = .ok (.iconst 0, 1) := by decide +kernel
theorem dX4_storeRun_32 : decode cX4_storeRun 32 = .ok (.istore 5, 2) := by decide +kernel
theorem dX4_storeRun_34 : decode cX4_storeRun 34 = .ok (.iload 5, 2) := by decide +kernel
theorem dX4_storeRun_36 : decode cX4_storeRun 36 = .ok (.iload_n 2, 1) := by decide +kernel
theorem dX4_storeRun_37 : decode cX4_storeRun 37 = .ok (.if_icmp .ge 28, 3) := by decide +kernel
theorem dX4_storeRun_40 : decode cX4_storeRun 40 = .ok (.aload_n 0, 1) := by decide +kernel
theorem dX4_storeRun_41 : decode cX4_storeRun 41 = .ok (.iload_n 1, 1) := by decide +kernel
theorem dX4_storeRun_42 : decode cX4_storeRun 42 = .ok (.iload 5, 2) := by decide +kernel
theorem dX4_storeRun_44 : decode cX4_storeRun 44 = .ok (.iadd, 1) := by decide +kernel
theorem dX4_storeRun_45 : decode cX4_storeRun 45 = .ok (.iload_n 3, 1) := by decide +kernel
theorem dX4_storeRun_46 : decode cX4_storeRun 46 = .ok (.iload 5, 2) := by decide +kernel
theorem dX4_storeRun_48 : decode cX4_storeRun 48 = .ok (.iadd, 1) := by decide +kernel
theorem dX4_storeRun_49 : decode cX4_storeRun 49 = .ok (.invokevirtual 182, 3) := by decide +kernel
theorem dX4_storeRun_52 : decode cX4_storeRun 52 = .ok (.iconst 1, 1) := by decide +kernel
theorem dX4_storeRun_53 : decode cX4_storeRun 53 = .ok (.if_icmp .ne 6, 3) := by decide +kernel
theorem dX4_storeRun_56 : decode cX4_storeRun 56 = .ok (.iinc 4 1, 3) := by decide +kernel
theorem dX4_storeRun_59 : decode cX4_storeRun 59 = .ok (.iinc 5 1, 3) := by decide +kernel
theorem dX4_storeRun_62 : decode cX4_storeRun 62 = .ok (.goto (-28), 3) := by decide +kernel
theorem dX4_storeRun_65 : decode cX4_storeRun 65 = .ok (.iload 4, 2) := by decide +kernel
theorem dX4_storeRun_67 : decode cX4_storeRun 67 = .ok (.ireturn, 1) := by decide +kernel
theorem dX4_changeSize_0 : decode cX4_changeSize 0 = .ok (.iload_n 1, 1) := by decide +kernel
theorem dX4_changeSize_1 : decode cX4_changeSize 1 = .ok (.iconst 1, 1) := by decide +kernel
theorem dX4_changeSize_2 : decode cX4_changeSize 2 = .ok (.if_icmp .lt 15, 3) := by decide +kernel
theorem dX4_changeSize_5 : decode cX4_changeSize 5 = .ok (.iload_n 1, 1) := by decide +kernel
theorem dX4_changeSize_6 : decode cX4_changeSize 6 = .ok (.iconst 4, 1) := by decide +kernel
theorem dX4_changeSize_7 : decode cX4_changeSize 7 = .ok (.if_icmp .gt 10, 3) := by decide +kernel
theorem dX4_changeSize_10 : decode cX4_changeSize 10 = .ok (.aload_n 0, 1) := by decide +kernel
theorem dX4_changeSize_11 : decode cX4_changeSize 11 = .ok (.invokevirtual 129, 3) := by decide +kernel
theorem dX4_changeSize_14 : decode cX4_changeSize 14 = .ok (.ifCond .eq 5, 3) := by decide +kernel
theorem dX4_changeSize_17 : decode cX4_changeSize 17 = .ok (.iconst (-1), 1) := by decide +kernel
theorem dX4_changeSize_18 : decode cX4_changeSize 18 = .ok (.ireturn, 1) := by decide +kernel
theorem dX4_changeSize_19 : decode cX4_changeSize 19 = .ok (.aload_n 0, 1) := by decide +kernel
theorem dX4_changeSize_20 : decode cX4_changeSize 20 = .ok (.getfield 80, 3) := by decide +kernel
theorem dX4_changeSize_23 : decode cX4_changeSize 23 = .ok (.istore_n 2, 1) := by decide +kernel
theorem dX4_changeSize_24 : decode cX4_changeSize 24 = .ok (.aload_n 0, 1) := by decide +kernel
theorem dX4_changeSize_25 : decode cX4_changeSize 25 = .ok (.iload_n 1, 1) := by decide +kernel
theorem dX4_changeSize_26 : decode cX4_changeSize 26 = .ok (.putfield 80, 3) := by decide +kernel
theorem dX4_changeSize_29 : decode cX4_changeSize 29 = .ok (.aload_n 0, 1) := by decide +kernel
theorem dX4_changeSize_30 : decode cX4_changeSize 30 = .ok (.invokevirtual 112, 3) := by decide +kernel
theorem dX4_changeSize_33 : decode cX4_changeSize 33 = .ok (.iload_n 2, 1) := by decide +kernel
theorem dX4_changeSize_34 : decode cX4_changeSize 34 = .ok (.ireturn, 1) := by decide +kernel
theorem dX4_changeLeast_0 : decode cX4_changeLeast 0 = .ok (.iload_n 1, 1) := by decide +kernel
theorem dX4_changeLeast_1 : decode cX4_changeLeast 1 = .ok (.ifCond .lt 9, 3) := by decide +kernel
theorem dX4_changeLeast_4 : decode cX4_changeLeast 4 = .ok (.iload_n 1, 1) := by decide +kernel
theorem dX4_changeLeast_5 : decode cX4_changeLeast 5 = .ok (.bipush 20, 2) := by decide +kernel
theorem dX4_changeLeast_7 : decode cX4_changeLeast 7 = .ok (.if_icmp .le 5, 3) := by decide +kernel
theorem dX4_changeLeast_10 : decode cX4_changeLeast 10 = .ok (.iconst (-1), 1) := by decide +kernel
theorem dX4_changeLeast_11 : decode cX4_changeLeast 11 = .ok (.ireturn, 1) := by decide +kernel
theorem dX4_changeLeast_12 : decode cX4_changeLeast 12 = .ok (.aload_n 0, 1) := by decide +kernel
theorem dX4_changeLeast_13 : decode cX4_changeLeast 13 = .ok (.getfield 87, 3) := by decide +kernel
theorem dX4_changeLeast_16 : decode cX4_changeLeast 16 = .ok (.istore_n 2, 1) := by decide +kernel
theorem dX4_changeLeast_17 : decode cX4_changeLeast 17 = .ok (.aload_n 0, 1) := by decide +kernel
theorem dX4_changeLeast_18 : decode cX4_changeLeast 18 = .ok (.iload_n 1, 1) := by decide +kernel
theorem dX4_changeLeast_19 : decode cX4_changeLeast 19 = .ok (.putfield 87, 3) := by decide +kernel
theorem dX4_changeLeast_22 : decode cX4_changeLeast 22 = .ok (.iload_n 2, 1) := by decide +kernel
theorem dX4_changeLeast_23 : decode cX4_changeLeast 23 = .ok (.ireturn, 1) := by decide +kernel
theorem dX4_changeMost_0 : decode cX4_changeMost 0 = .ok (.iload_n 1, 1) := by decide +kernel
theorem dX4_changeMost_1 : decode cX4_changeMost 1 = .ok (.iconst 1, 1) := by decide +kernel
theorem dX4_changeMost_2 : decode cX4_changeMost 2 = .ok (.if_icmp .lt 9, 3) := by decide +kernel
theorem dX4_changeMost_5 : decode cX4_changeMost 5 = .ok (.iload_n 1, 1) := by decide +kernel
theorem dX4_changeMost_6 : decode cX4_changeMost 6 = .ok (.bipush 60, 2) := by decide +kernel
theorem dX4_changeMost_8 : decode cX4_changeMost 8 = .ok (.if_icmp .le 5, 3) := by decide +kernel
theorem dX4_changeMost_11 : decode cX4_changeMost 11 = .ok (.iconst (-1), 1) := by decide +kernel
theorem dX4_changeMost_12 : decode cX4_changeMost 12 = .ok (.ireturn, 1) := by decide +kernel
theorem dX4_changeMost_13 : decode cX4_changeMost 13 = .ok (.aload_n 0, 1) := by decide +kernel
theorem dX4_changeMost_14 : decode cX4_changeMost 14 = .ok (.getfield 90, 3) := by decide +kernel
theorem dX4_changeMost_17 : decode cX4_changeMost 17 = .ok (.istore_n 2, 1) := by decide +kernel
theorem dX4_changeMost_18 : decode cX4_changeMost 18 = .ok (.aload_n 0, 1) := by decide +kernel
theorem dX4_changeMost_19 : decode cX4_changeMost 19 = .ok (.iload_n 1, 1) := by decide +kernel
theorem dX4_changeMost_20 : decode cX4_changeMost 20 = .ok (.putfield 90, 3) := by decide +kernel
theorem dX4_changeMost_23 : decode cX4_changeMost 23 = .ok (.iload_n 2, 1) := by decide +kernel
theorem dX4_changeMost_24 : decode cX4_changeMost 24 = .ok (.ireturn, 1) := by decide +kernel
theorem dX4_beginGrowth_0 : decode cX4_beginGrowth 0 = .ok (.aload_n 0, 1) := by decide +kernel
theorem dX4_beginGrowth_1 : decode cX4_beginGrowth 1 = .ok (.getfield 73, 3) := by decide +kernel
theorem dX4_beginGrowth_4 : decode cX4_beginGrowth 4 = .ok (.ifCond .ne 26, 3) := by decide +kernel
theorem dX4_beginGrowth_7 : decode cX4_beginGrowth 7 = .ok (.aload_n 0, 1) := by decide +kernel
theorem dX4_beginGrowth_8 : decode cX4_beginGrowth 8 = .ok (.getfield 12, 3) := by decide +kernel
theorem dX4_beginGrowth_11 : decode cX4_beginGrowth 11 = .ok (.getfield 186, 3) := by decide +kernel
theorem dX4_beginGrowth_14 : decode cX4_beginGrowth 14 = .ok (.bipush 7, 2) := by decide +kernel
theorem dX4_beginGrowth_16 : decode cX4_beginGrowth 16 = .ok (.if_icmp .ge 14, 3) := by decide +kernel
theorem dX4_beginGrowth_19 : decode cX4_beginGrowth 19 = .ok (.aload_n 0, 1) := by decide +kernel
theorem dX4_beginGrowth_20 : decode cX4_beginGrowth 20 = .ok (.getfield 12, 3) := by decide +kernel
theorem dX4_beginGrowth_23 : decode cX4_beginGrowth 23 = .ok (.getfield 189, 3) := by decide +kernel
theorem dX4_beginGrowth_26 : decode cX4_beginGrowth 26 = .ok (.iconst (-1), 1) := by decide +kernel
theorem dX4_beginGrowth_27 : decode cX4_beginGrowth 27 = .ok (.if_icmp .eq 5, 3) := by decide +kernel
theorem dX4_beginGrowth_30 : decode cX4_beginGrowth 30 = .ok (.iconst (-1), 1) := by decide +kernel
theorem dX4_beginGrowth_31 : decode cX4_beginGrowth 31 = .ok (.ireturn, 1) := by decide +kernel
theorem dX4_beginGrowth_32 : decode cX4_beginGrowth 32 = .ok (.aload_n 0, 1) := by decide +kernel
theorem dX4_beginGrowth_33 : decode cX4_beginGrowth 33 = .ok (.getfield 12, 3) := by decide +kernel
theorem dX4_beginGrowth_36 : decode cX4_beginGrowth 36 = .ok (.invokevirtual 192, 3) := by decide +kernel
theorem dX4_beginGrowth_39 : decode cX4_beginGrowth 39 = .ok (.aload_n 0, 1) := by decide +kernel
theorem dX4_beginGrowth_40 : decode cX4_beginGrowth 40 = .ok (.aload_n 0, 1) := by decide +kernel
theorem dX4_beginGrowth_41 : decode cX4_beginGrowth 41 = .ok (.aload_n 0, 1) := by decide +kernel
theorem dX4_beginGrowth_42 : decode cX4_beginGrowth 42 = .ok (.getfield 12, 3) := by decide +kernel
theorem dX4_beginGrowth_45 : decode cX4_beginGrowth 45 = .ok (.getfield 186, 3) := by decide +kernel
theorem dX4_beginGrowth_48 : decode cX4_beginGrowth 48 = .ok (.invokevirtual 62, 3) := by decide +kernel
theorem dX4_beginGrowth_51 : decode cX4_beginGrowth 51 = .ok (.putfield 70, 3) := by decide +kernel
theorem dX4_beginGrowth_54 : decode cX4_beginGrowth 54 = .ok (.aload_n 0, 1) := by decide +kernel
theorem dX4_beginGrowth_55 : decode cX4_beginGrowth 55 = .ok (.iconst 1, 1) := by decide +kernel
theorem dX4_beginGrowth_56 : decode cX4_beginGrowth 56 = .ok (.putfield 73, 3) := by decide +kernel
theorem dX4_beginGrowth_59 : decode cX4_beginGrowth 59 = .ok (.aload_n 0, 1) := by decide +kernel
theorem dX4_beginGrowth_60 : decode cX4_beginGrowth 60 = .ok (.iconst 0, 1) := by decide +kernel
theorem dX4_beginGrowth_61 : decode cX4_beginGrowth 61 = .ok (.putfield 77, 3) := by decide +kernel
theorem dX4_beginGrowth_64 : decode cX4_beginGrowth 64 = .ok (.aload_n 0, 1) := by decide +kernel
theorem dX4_beginGrowth_65 : decode cX4_beginGrowth 65 = .ok (.iconst 0, 1) := by decide +kernel
theorem dX4_beginGrowth_66 : decode cX4_beginGrowth 66 = .ok (.putfield 81, 3) := by decide +kernel
theorem dX4_beginGrowth_69 : decode cX4_beginGrowth 69 = .ok (.aload_n 0, 1) := by decide +kernel
theorem dX4_beginGrowth_70 : decode cX4_beginGrowth 70 = .ok (.iconst 0, 1) := by decide +kernel
theorem dX4_beginGrowth_71 : decode cX4_beginGrowth 71 = .ok (.putfield 84, 3) := by decide +kernel
theorem dX4_beginGrowth_74 : decode cX4_beginGrowth 74 = .ok (.aload_n 0, 1) := by decide +kernel
theorem dX4_beginGrowth_75 : decode cX4_beginGrowth 75 = .ok (.invokevirtual 112, 3) := by decide +kernel
theorem dX4_beginGrowth_78 : decode cX4_beginGrowth 78 = .ok (.aload_n 0, 1) := by decide +kernel
theorem dX4_beginGrowth_79 : decode cX4_beginGrowth 79 = .ok (.invokevirtual 195, 3) := by decide +kernel
theorem dX4_beginGrowth_82 : decode cX4_beginGrowth 82 = .ok (.ireturn, 1) := by decide +kernel
theorem dX4_goSteps_0 : decode cX4_goSteps 0 = .ok (.iload_n 1, 1) := by decide +kernel
theorem dX4_goSteps_1 : decode cX4_goSteps 1 = .ok (.iconst 1, 1) := by decide +kernel
theorem dX4_goSteps_2 : decode cX4_goSteps 2 = .ok (.if_icmp .lt 17, 3) := by decide +kernel
theorem dX4_goSteps_5 : decode cX4_goSteps 5 = .ok (.iload_n 1, 1) := by decide +kernel
theorem dX4_goSteps_6 : decode cX4_goSteps 6 = .ok (.sipush 400, 3) := by decide +kernel
theorem dX4_goSteps_9 : decode cX4_goSteps 9 = .ok (.if_icmp .gt 10, 3) := by decide +kernel
theorem dX4_goSteps_12 : decode cX4_goSteps 12 = .ok (.aload_n 0, 1) := by decide +kernel
theorem dX4_goSteps_13 : decode cX4_goSteps 13 = .ok (.getfield 73, 3) := by decide +kernel
theorem dX4_goSteps_16 : decode cX4_goSteps 16 = .ok (.ifCond .ne 5, 3) := by decide +kernel
theorem dX4_goSteps_19 : decode cX4_goSteps 19 = .ok (.iconst (-1), 1) := by decide +kernel
theorem dX4_goSteps_20 : decode cX4_goSteps 20 = .ok (.ireturn, 1) := by decide +kernel
theorem dX4_goSteps_21 : decode cX4_goSteps 21 = .ok (.iconst 0, 1) := by decide +kernel
theorem dX4_goSteps_22 : decode cX4_goSteps 22 = .ok (.istore_n 2, 1) := by decide +kernel
theorem dX4_goSteps_23 : decode cX4_goSteps 23 = .ok (.iload_n 2, 1) := by decide +kernel
theorem dX4_goSteps_24 : decode cX4_goSteps 24 = .ok (.iload_n 1, 1) := by decide +kernel
theorem dX4_goSteps_25 : decode cX4_goSteps 25 = .ok (.if_icmp .ge 29, 3) := by decide +kernel
theorem dX4_goSteps_28 : decode cX4_goSteps 28 = .ok (.aload_n 0, 1) := by decide +kernel
theorem dX4_goSteps_29 : decode cX4_goSteps 29 = .ok (.getfield 73, 3) := by decide +kernel
theorem dX4_goSteps_32 : decode cX4_goSteps 32 = .ok (.ifCond .eq 10, 3) := by decide +kernel
theorem dX4_goSteps_35 : decode cX4_goSteps 35 = .ok (.aload_n 0, 1) := by decide +kernel
theorem dX4_goSteps_36 : decode cX4_goSteps 36 = .ok (.invokevirtual 198, 3) := by decide +kernel
theorem dX4_goSteps_39 : decode cX4_goSteps 39 = .ok (.ifCond .eq 5, 3) := by decide +kernel
theorem dX4_goSteps_42 : decode cX4_goSteps 42 = .ok (.iload_n 2, 1) := by decide +kernel
theorem dX4_goSteps_43 : decode cX4_goSteps 43 = .ok (.ireturn, 1) := by decide +kernel
theorem dX4_goSteps_44 : decode cX4_goSteps 44 = .ok (.aload_n 0, 1) := by decide +kernel
theorem dX4_goSteps_45 : decode cX4_goSteps 45 = .ok (.invokevirtual 201, 3) := by decide +kernel
theorem dX4_goSteps_48 : decode cX4_goSteps 48 = .ok (.iinc 2 1, 3) := by decide +kernel
theorem dX4_goSteps_51 : decode cX4_goSteps 51 = .ok (.goto (-28), 3) := by decide +kernel
theorem dX4_goSteps_54 : decode cX4_goSteps 54 = .ok (.iload_n 1, 1) := by decide +kernel
theorem dX4_goSteps_55 : decode cX4_goSteps 55 = .ok (.ireturn, 1) := by decide +kernel
theorem dX4_isStuck_0 : decode cX4_isStuck 0 = .ok (.aload_n 0, 1) := by decide +kernel
theorem dX4_isStuck_1 : decode cX4_isStuck 1 = .ok (.getfield 81, 3) := by decide +kernel
theorem dX4_isStuck_4 : decode cX4_isStuck 4 = .ok (.aload_n 0, 1) := by decide +kernel
theorem dX4_isStuck_5 : decode cX4_isStuck 5 = .ok (.getfield 38, 3) := by decide +kernel
theorem dX4_isStuck_8 : decode cX4_isStuck 8 = .ok (.getfield 143, 3) := by decide +kernel
theorem dX4_isStuck_11 : decode cX4_isStuck 11 = .ok (.if_icmp .ge 26, 3) := by decide +kernel
theorem dX4_isStuck_14 : decode cX4_isStuck 14 = .ok (.aload_n 0, 1) := by decide +kernel
theorem dX4_isStuck_15 : decode cX4_isStuck 15 = .ok (.aload_n 0, 1) := by decide +kernel
theorem dX4_isStuck_16 : decode cX4_isStuck 16 = .ok (.getfield 38, 3) := by decide +kernel
theorem dX4_isStuck_19 : decode cX4_isStuck 19 = .ok (.getfield 133, 3) := by decide +kernel
theorem dX4_isStuck_22 : decode cX4_isStuck 22 = .ok (.aload_n 0, 1) := by decide +kernel
theorem dX4_isStuck_23 : decode cX4_isStuck 23 = .ok (.getfield 81, 3) := by decide +kernel
theorem dX4_isStuck_26 : decode cX4_isStuck 26 = .ok (.iadd, 1) := by decide +kernel
theorem dX4_isStuck_27 : decode cX4_isStuck 27 = .ok (.invokevirtual 166, 3) := by decide +kernel
theorem dX4_isStuck_30 : decode cX4_isStuck 30 = .ok (.ifCond .ne 7, 3) := by decide +kernel
theorem dX4_isStuck_33 : decode cX4_isStuck 33 = .ok (.iconst 1, 1) := by decide +kernel
theorem dX4_isStuck_34 : decode cX4_isStuck 34 = .ok (.goto 4, 3) := by decide +kernel
theorem dX4_isStuck_37 : decode cX4_isStuck 37 = .ok (.iconst 0, 1) := by decide +kernel
theorem dX4_isStuck_38 : decode cX4_isStuck 38 = .ok (.ireturn, 1) := by decide +kernel
theorem dX4_goOneStep_0 : decode cX4_goOneStep 0 = .ok (.aload_n 0, 1) := by decide +kernel
theorem dX4_goOneStep_1 : decode cX4_goOneStep 1 = .ok (.dup, 1) := by decide +kernel
theorem dX4_goOneStep_2 : decode cX4_goOneStep 2 = .ok (.getfield 96, 3) := by decide +kernel
theorem dX4_goOneStep_5 : decode cX4_goOneStep 5 = .ok (.iconst 1, 1) := by decide +kernel
theorem dX4_goOneStep_6 : decode cX4_goOneStep 6 = .ok (.iadd, 1) := by decide +kernel
theorem dX4_goOneStep_7 : decode cX4_goOneStep 7 = .ok (.putfield 96, 3) := by decide +kernel
theorem dX4_goOneStep_10 : decode cX4_goOneStep 10 = .ok (.aload_n 0, 1) := by decide +kernel
theorem dX4_goOneStep_11 : decode cX4_goOneStep 11 = .ok (.getfield 81, 3) := by decide +kernel
theorem dX4_goOneStep_14 : decode cX4_goOneStep 14 = .ok (.istore_n 1, 1) := by decide +kernel
theorem dX4_goOneStep_15 : decode cX4_goOneStep 15 = .ok (.aload_n 0, 1) := by decide +kernel
theorem dX4_goOneStep_16 : decode cX4_goOneStep 16 = .ok (.dup, 1) := by decide +kernel
theorem dX4_goOneStep_17 : decode cX4_goOneStep 17 = .ok (.getfield 81, 3) := by decide +kernel
theorem dX4_goOneStep_20 : decode cX4_goOneStep 20 = .ok (.iconst 1, 1) := by decide +kernel
theorem dX4_goOneStep_21 : decode cX4_goOneStep 21 = .ok (.iadd, 1) := by decide +kernel
theorem dX4_goOneStep_22 : decode cX4_goOneStep 22 = .ok (.putfield 81, 3) := by decide +kernel
theorem dX4_goOneStep_25 : decode cX4_goOneStep 25 = .ok (.iload_n 1, 1) := by decide +kernel
theorem dX4_goOneStep_26 : decode cX4_goOneStep 26 = .ok (.aload_n 0, 1) := by decide +kernel
theorem dX4_goOneStep_27 : decode cX4_goOneStep 27 = .ok (.getfield 38, 3) := by decide +kernel
theorem dX4_goOneStep_30 : decode cX4_goOneStep 30 = .ok (.getfield 143, 3) := by decide +kernel
theorem dX4_goOneStep_33 : decode cX4_goOneStep 33 = .ok (.if_icmp .ge 11, 3) := by decide +kernel
theorem dX4_goOneStep_36 : decode cX4_goOneStep 36 = .ok (.aload_n 0, 1) := by decide +kernel
theorem dX4_goOneStep_37 : decode cX4_goOneStep 37 = .ok (.iload_n 1, 1) := by decide +kernel
theorem dX4_goOneStep_38 : decode cX4_goOneStep 38 = .ok (.invokevirtual 204, 3) := by decide +kernel
theorem dX4_goOneStep_41 : decode cX4_goOneStep 41 = .ok (.goto 68, 3) := by decide +kernel
theorem dX4_goOneStep_44 : decode cX4_goOneStep 44 = .ok (.iload_n 1, 1) := by decide +kernel
theorem dX4_goOneStep_45 : decode cX4_goOneStep 45 = .ok (.aload_n 0, 1) := by decide +kernel
theorem dX4_goOneStep_46 : decode cX4_goOneStep 46 = .ok (.getfield 38, 3) := by decide +kernel
theorem dX4_goOneStep_49 : decode cX4_goOneStep 49 = .ok (.getfield 207, 3) := by decide +kernel
theorem dX4_goOneStep_52 : decode cX4_goOneStep 52 = .ok (.iconst 1, 1) := by decide +kernel
theorem dX4_goOneStep_53 : decode cX4_goOneStep 53 = .ok (.isub, 1) := by decide +kernel
theorem dX4_goOneStep_54 : decode cX4_goOneStep 54 = .ok (.if_icmp .ne 10, 3) := by decide +kernel
theorem dX4_goOneStep_57 : decode cX4_goOneStep 57 = .ok (.aload_n 0, 1) := by decide +kernel
theorem dX4_goOneStep_58 : decode cX4_goOneStep 58 = .ok (.invokevirtual 210, 3) := by decide +kernel
theorem dX4_goOneStep_61 : decode cX4_goOneStep 61 = .ok (.goto 48, 3) := by decide +kernel
theorem dX4_goOneStep_64 : decode cX4_goOneStep 64 = .ok (.iload_n 1, 1) := by decide +kernel
theorem dX4_goOneStep_65 : decode cX4_goOneStep 65 = .ok (.aload_n 0, 1) := by decide +kernel
theorem dX4_goOneStep_66 : decode cX4_goOneStep 66 = .ok (.getfield 38, 3) := by decide +kernel
theorem dX4_goOneStep_69 : decode cX4_goOneStep 69 = .ok (.getfield 213, 3) := by decide +kernel
theorem dX4_goOneStep_72 : decode cX4_goOneStep 72 = .ok (.if_icmp .lt 19, 3) := by decide +kernel
theorem dX4_goOneStep_75 : decode cX4_goOneStep 75 = .ok (.aload_n 0, 1) := by decide +kernel
theorem dX4_goOneStep_76 : decode cX4_goOneStep 76 = .ok (.iload_n 1, 1) := by decide +kernel
theorem dX4_goOneStep_77 : decode cX4_goOneStep 77 = .ok (.aload_n 0, 1) := by decide +kernel
theorem dX4_goOneStep_78 : decode cX4_goOneStep 78 = .ok (.getfield 38, 3) := by decide +kernel
theorem dX4_goOneStep_81 : decode cX4_goOneStep 81 = .ok (.getfield 213, 3) := by decide +kernel
theorem dX4_goOneStep_84 : decode cX4_goOneStep 84 = .ok (.isub, 1) := by decide +kernel
theorem dX4_goOneStep_85 : decode cX4_goOneStep 85 = .ok (.invokevirtual 216, 3) := by decide +kernel
theorem dX4_goOneStep_88 : decode cX4_goOneStep 88 = .ok (.goto 21, 3) := by decide +kernel
theorem dX4_goOneStep_91 : decode cX4_goOneStep 91 = .ok (.iload_n 1, 1) := by decide +kernel
theorem dX4_goOneStep_92 : decode cX4_goOneStep 92 = .ok (.aload_n 0, 1) := by decide +kernel
theorem dX4_goOneStep_93 : decode cX4_goOneStep 93 = .ok (.getfield 38, 3) := by decide +kernel
theorem dX4_goOneStep_96 : decode cX4_goOneStep 96 = .ok (.getfield 213, 3) := by decide +kernel
theorem dX4_goOneStep_99 : decode cX4_goOneStep 99 = .ok (.iconst 1, 1) := by decide +kernel
theorem dX4_goOneStep_100 : decode cX4_goOneStep 100 = .ok (.isub, 1) := by decide +kernel
theorem dX4_goOneStep_101 : decode cX4_goOneStep 101 = .ok (.if_icmp .ne 8, 3) := by decide +kernel
theorem dX4_goOneStep_104 : decode cX4_goOneStep 104 = .ok (.aload_n 0, 1) := by decide +kernel
theorem dX4_goOneStep_105 : decode cX4_goOneStep 105 = .ok (.iconst 1, 1) := by decide +kernel
theorem dX4_goOneStep_106 : decode cX4_goOneStep 106 = .ok (.putfield 84, 3) := by decide +kernel
theorem dX4_goOneStep_109 : decode cX4_goOneStep 109 = .ok (.return_, 1) := by decide +kernel
theorem dX4_readNext_0 : decode cX4_readNext 0 = .ok (.iload_n 1, 1) := by decide +kernel
theorem dX4_readNext_1 : decode cX4_readNext 1 = .ok (.ifCond .ne 11, 3) := by decide +kernel
theorem dX4_readNext_4 : decode cX4_readNext 4 = .ok (.aload_n 0, 1) := by decide +kernel
theorem dX4_readNext_5 : decode cX4_readNext 5 = .ok (.getfield 31, 3) := by decide +kernel
theorem dX4_readNext_8 : decode cX4_readNext 8 = .ok (.iconst 0, 1) := by decide +kernel
theorem dX4_readNext_9 : decode cX4_readNext 9 = .ok (.invokestatic 219, 3) := by decide +kernel
theorem dX4_readNext_12 : decode cX4_readNext 12 = .ok (.iload_n 1, 1) := by decide +kernel
theorem dX4_readNext_13 : decode cX4_readNext 13 = .ok (.ifCond .lt 55, 3) := by decide +kernel
theorem dX4_readNext_16 : decode cX4_readNext 16 = .ok (.iload_n 1, 1) := by decide +kernel
theorem dX4_readNext_17 : decode cX4_readNext 17 = .ok (.aload_n 0, 1) := by decide +kernel
theorem dX4_readNext_18 : decode cX4_readNext 18 = .ok (.getfield 31, 3) := by decide +kernel
theorem dX4_readNext_21 : decode cX4_readNext 21 = .ok (.arraylength, 1) := by decide +kernel
theorem dX4_readNext_22 : decode cX4_readNext 22 = .ok (.if_icmp .ge 46, 3) := by decide +kernel
theorem dX4_readNext_25 : decode cX4_readNext 25 = .ok (.aload_n 0, 1) := by decide +kernel
theorem dX4_readNext_26 : decode cX4_readNext 26 = .ok (.getfield 38, 3) := by decide +kernel
theorem dX4_readNext_29 : decode cX4_readNext 29 = .ok (.getfield 133, 3) := by decide +kernel
theorem dX4_readNext_32 : decode cX4_readNext 32 = .ok (.iload_n 1, 1) := by decide +kernel
theorem dX4_readNext_33 : decode cX4_readNext 33 = .ok (.iadd, 1) := by decide +kernel
theorem dX4_readNext_34 : decode cX4_readNext 34 = .ok (.istore_n 2, 1) := by decide +kernel
theorem dX4_readNext_35 : decode cX4_readNext 35 = .ok (.aload_n 0, 1) := by decide +kernel
theorem dX4_readNext_36 : decode cX4_readNext 36 = .ok (.getfield 31, 3) := by decide +kernel
theorem dX4_readNext_39 : decode cX4_readNext 39 = .ok (.iload_n 1, 1) := by decide +kernel
theorem dX4_readNext_40 : decode cX4_readNext 40 = .ok (.aload_n 0, 1) := by decide +kernel
theorem dX4_readNext_41 : decode cX4_readNext 41 = .ok (.getfield 12, 3) := by decide +kernel
theorem dX4_readNext_44 : decode cX4_readNext 44 = .ok (.aload_n 0, 1) := by decide +kernel
theorem dX4_readNext_45 : decode cX4_readNext 45 = .ok (.getfield 66, 3) := by decide +kernel
theorem dX4_readNext_48 : decode cX4_readNext 48 = .ok (.aload_n 0, 1) := by decide +kernel
theorem dX4_readNext_49 : decode cX4_readNext 49 = .ok (.getfield 66, 3) := by decide +kernel
theorem dX4_readNext_52 : decode cX4_readNext 52 = .ok (.iload_n 2, 1) := by decide +kernel
theorem dX4_readNext_53 : decode cX4_readNext 53 = .ok (.invokevirtual 152, 3) := by decide +kernel
theorem dX4_readNext_56 : decode cX4_readNext 56 = .ok (.aload_n 0, 1) := by decide +kernel
theorem dX4_readNext_57 : decode cX4_readNext 57 = .ok (.getfield 66, 3) := by decide +kernel
theorem dX4_readNext_60 : decode cX4_readNext 60 = .ok (.iload_n 2, 1) := by decide +kernel
theorem dX4_readNext_61 : decode cX4_readNext 61 = .ok (.invokevirtual 156, 3) := by decide +kernel
theorem dX4_readNext_64 : decode cX4_readNext 64 = .ok (.invokevirtual 168, 3) := by decide +kernel
theorem dX4_readNext_67 : decode cX4_readNext 67 = .ok (.iastore, 1) := by decide +kernel
theorem dX4_readNext_68 : decode cX4_readNext 68 = .ok (.return_, 1) := by decide +kernel
theorem dX4_writeNext_0 : decode cX4_writeNext 0 = .ok (.iload_n 1, 1) := by decide +kernel
theorem dX4_writeNext_1 : decode cX4_writeNext 1 = .ok (.aload_n 0, 1) := by decide +kernel
theorem dX4_writeNext_2 : decode cX4_writeNext 2 = .ok (.getfield 70, 3) := by decide +kernel
theorem dX4_writeNext_5 : decode cX4_writeNext 5 = .ok (.getfield 225, 3) := by decide +kernel
theorem dX4_writeNext_8 : decode cX4_writeNext 8 = .ok (.idiv, 1) := by decide +kernel
theorem dX4_writeNext_9 : decode cX4_writeNext 9 = .ok (.istore_n 2, 1) := by decide +kernel
theorem dX4_writeNext_10 : decode cX4_writeNext 10 = .ok (.iload_n 1, 1) := by decide +kernel
theorem dX4_writeNext_11 : decode cX4_writeNext 11 = .ok (.aload_n 0, 1) := by decide +kernel
theorem dX4_writeNext_12 : decode cX4_writeNext 12 = .ok (.getfield 70, 3) := by decide +kernel
theorem dX4_writeNext_15 : decode cX4_writeNext 15 = .ok (.getfield 225, 3) := by decide +kernel
theorem dX4_writeNext_18 : decode cX4_writeNext 18 = .ok (.irem, 1) := by decide +kernel
theorem dX4_writeNext_19 : decode cX4_writeNext 19 = .ok (.istore_n 3, 1) := by decide +kernel
theorem dX4_writeNext_20 : decode cX4_writeNext 20 = .ok (.aload_n 0, 1) := by decide +kernel
theorem dX4_writeNext_21 : decode cX4_writeNext 21 = .ok (.getfield 77, 3) := by decide +kernel
theorem dX4_writeNext_24 : decode cX4_writeNext 24 = .ok (.iload_n 2, 1) := by decide +kernel
theorem dX4_writeNext_25 : decode cX4_writeNext 25 = .ok (.iadd, 1) := by decide +kernel
theorem dX4_writeNext_26 : decode cX4_writeNext 26 = .ok (.istore 4, 2) := by decide +kernel
theorem dX4_writeNext_28 : decode cX4_writeNext 28 = .ok (.iload_n 2, 1) := by decide +kernel
theorem dX4_writeNext_29 : decode cX4_writeNext 29 = .ok (.aload_n 0, 1) := by decide +kernel
theorem dX4_writeNext_30 : decode cX4_writeNext 30 = .ok (.getfield 70, 3) := by decide +kernel
theorem dX4_writeNext_33 : decode cX4_writeNext 33 = .ok (.getfield 122, 3) := by decide +kernel
theorem dX4_writeNext_36 : decode cX4_writeNext 36 = .ok (.imul, 1) := by decide +kernel
theorem dX4_writeNext_37 : decode cX4_writeNext 37 = .ok (.istore 5, 2) := by decide +kernel
theorem dX4_writeNext_39 : decode cX4_writeNext 39 = .ok (.aload_n 0, 1) := by decide +kernel
theorem dX4_writeNext_40 : decode cX4_writeNext 40 = .ok (.getfield 70, 3) := by decide +kernel
theorem dX4_writeNext_43 : decode cX4_writeNext 43 = .ok (.iload 4, 2) := by decide +kernel
theorem dX4_writeNext_45 : decode cX4_writeNext 45 = .ok (.invokevirtual 227, 3) := by decide +kernel
theorem dX4_writeNext_48 : decode cX4_writeNext 48 = .ok (.istore 6, 2) := by decide +kernel
theorem dX4_writeNext_50 : decode cX4_writeNext 50 = .ok (.iload_n 3, 1) := by decide +kernel
theorem dX4_writeNext_51 : decode cX4_writeNext 51 = .ok (.aload_n 0, 1) := by decide +kernel
theorem dX4_writeNext_52 : decode cX4_writeNext 52 = .ok (.getfield 70, 3) := by decide +kernel
theorem dX4_writeNext_55 : decode cX4_writeNext 55 = .ok (.getfield 122, 3) := by decide +kernel
theorem dX4_writeNext_58 : decode cX4_writeNext 58 = .ok (.if_icmp .ne 23, 3) := by decide +kernel
theorem dX4_writeNext_61 : decode cX4_writeNext 61 = .ok (.aload_n 0, 1) := by decide +kernel
theorem dX4_writeNext_62 : decode cX4_writeNext 62 = .ok (.getfield 12, 3) := by decide +kernel
theorem dX4_writeNext_65 : decode cX4_writeNext 65 = .ok (.iload 6, 2) := by decide +kernel
theorem dX4_writeNext_67 : decode cX4_writeNext 67 = .ok (.iload 4, 2) := by decide +kernel
theorem dX4_writeNext_69 : decode cX4_writeNext 69 = .ok (.aload_n 0, 1) := by decide +kernel
theorem dX4_writeNext_70 : decode cX4_writeNext 70 = .ok (.iload 5, 2) := by decide +kernel
theorem dX4_writeNext_72 : decode cX4_writeNext 72 = .ok (.invokevirtual 230, 3) := by decide +kernel
theorem dX4_writeNext_75 : decode cX4_writeNext 75 = .ok (.invokevirtual 233, 3) := by decide +kernel
theorem dX4_writeNext_78 : decode cX4_writeNext 78 = .ok (.goto 54, 3) := by decide +kernel
theorem dX4_writeNext_81 : decode cX4_writeNext 81 = .ok (.iload 5, 2) := by decide +kernel
theorem dX4_writeNext_83 : decode cX4_writeNext 83 = .ok (.iload_n 3, 1) := by decide +kernel
theorem dX4_writeNext_84 : decode cX4_writeNext 84 = .ok (.iadd, 1) := by decide +kernel
theorem dX4_writeNext_85 : decode cX4_writeNext 85 = .ok (.ifCond .lt 47, 3) := by decide +kernel
theorem dX4_writeNext_88 : decode cX4_writeNext 88 = .ok (.iload 5, 2) := by decide +kernel
theorem dX4_writeNext_90 : decode cX4_writeNext 90 = .ok (.iload_n 3, 1) := by decide +kernel
theorem dX4_writeNext_91 : decode cX4_writeNext 91 = .ok (.iadd, 1) := by decide +kernel
theorem dX4_writeNext_92 : decode cX4_writeNext 92 = .ok (.aload_n 0, 1) := by decide +kernel
theorem dX4_writeNext_93 : decode cX4_writeNext 93 = .ok (.getfield 31, 3) := by decide +kernel
theorem dX4_writeNext_96 : decode cX4_writeNext 96 = .ok (.arraylength, 1) := by decide +kernel
theorem dX4_writeNext_97 : decode cX4_writeNext 97 = .ok (.if_icmp .ge 35, 3) := by decide +kernel
theorem dX4_writeNext_100 : decode cX4_writeNext 100 = .ok (.aload_n 0, 1) := by decide +kernel
theorem dX4_writeNext_101 : decode cX4_writeNext 101 = .ok (.getfield 12, 3) := by decide +kernel
theorem dX4_writeNext_104 : decode cX4_writeNext 104 = .ok (.iload 6, 2) := by decide +kernel
theorem dX4_writeNext_106 : decode cX4_writeNext 106 = .ok (.iconst 1, 1) := by decide +kernel
theorem dX4_writeNext_107 : decode cX4_writeNext 107 = .ok (.iadd, 1) := by decide +kernel
theorem dX4_writeNext_108 : decode cX4_writeNext 108 = .ok (.iload_n 3, 1) := by decide +kernel
theorem dX4_writeNext_109 : decode cX4_writeNext 109 = .ok (.iadd, 1) := by decide +kernel
theorem dX4_writeNext_110 : decode cX4_writeNext 110 = .ok (.aload_n 0, 1) := by decide +kernel
theorem dX4_writeNext_111 : decode cX4_writeNext 111 = .ok (.getfield 70, 3) := by decide +kernel
theorem dX4_writeNext_114 : decode cX4_writeNext 114 = .ok (.getfield 225, 3) := by decide +kernel
theorem dX4_writeNext_117 : decode cX4_writeNext 117 = .ok (.irem, 1) := by decide +kernel
theorem dX4_writeNext_118 : decode cX4_writeNext 118 = .ok (.iload 4, 2) := by decide +kernel
theorem dX4_writeNext_120 : decode cX4_writeNext 120 = .ok (.aload_n 0, 1) := by decide +kernel
theorem dX4_writeNext_121 : decode cX4_writeNext 121 = .ok (.getfield 31, 3) := by decide +kernel
theorem dX4_writeNext_124 : decode cX4_writeNext 124 = .ok (.iload 5, 2) := by decide +kernel
theorem dX4_writeNext_126 : decode cX4_writeNext 126 = .ok (.iload_n 3, 1) := by decide +kernel
theorem dX4_writeNext_127 : decode cX4_writeNext 127 = .ok (.iadd, 1) := by decide +kernel
theorem dX4_writeNext_128 : decode cX4_writeNext 128 = .ok (.iaload, 1) := by decide +kernel
theorem dX4_writeNext_129 : decode cX4_writeNext 129 = .ok (.invokevirtual 233, 3) := by decide +kernel
theorem dX4_writeNext_132 : decode cX4_writeNext 132 = .ok (.return_, 1) := by decide +kernel
theorem dX4_movedXored_0 : decode cX4_movedXored 0 = .ok (.iconst 0, 1) := by decide +kernel
theorem dX4_movedXored_1 : decode cX4_movedXored 1 = .ok (.istore_n 2, 1) := by decide +kernel
theorem dX4_movedXored_2 : decode cX4_movedXored 2 = .ok (.iload_n 1, 1) := by decide +kernel
theorem dX4_movedXored_3 : decode cX4_movedXored 3 = .ok (.istore_n 3, 1) := by decide +kernel
theorem dX4_movedXored_4 : decode cX4_movedXored 4 = .ok (.iload_n 3, 1) := by decide +kernel
theorem dX4_movedXored_5 : decode cX4_movedXored 5 = .ok (.iload_n 1, 1) := by decide +kernel
theorem dX4_movedXored_6 : decode cX4_movedXored 6 = .ok (.aload_n 0, 1) := by decide +kernel
theorem dX4_movedXored_7 : decode cX4_movedXored 7 = .ok (.getfield 70, 3) := by decide +kernel
theorem dX4_movedXored_10 : decode cX4_movedXored 10 = .ok (.getfield 122, 3) := by decide +kernel
theorem dX4_movedXored_13 : decode cX4_movedXored 13 = .ok (.iadd, 1) := by decide +kernel
theorem dX4_movedXored_14 : decode cX4_movedXored 14 = .ok (.if_icmp .ge 35, 3) := by decide +kernel
theorem dX4_movedXored_17 : decode cX4_movedXored 17 = .ok (.iload_n 2, 1) := by decide +kernel
theorem dX4_movedXored_18 : decode cX4_movedXored 18 = .ok (.iload_n 3, 1) := by decide +kernel
theorem dX4_movedXored_19 : decode cX4_movedXored 19 = .ok (.ifCond .lt 21, 3) := by decide +kernel
theorem dX4_movedXored_22 : decode cX4_movedXored 22 = .ok (.iload_n 3, 1) := by decide +kernel
theorem dX4_movedXored_23 : decode cX4_movedXored 23 = .ok (.aload_n 0, 1) := by decide +kernel
theorem dX4_movedXored_24 : decode cX4_movedXored 24 = .ok (.getfield 31, 3) := by decide +kernel
theorem dX4_movedXored_27 : decode cX4_movedXored 27 = .ok (.arraylength, 1) := by decide +kernel
theorem dX4_movedXored_28 : decode cX4_movedXored 28 = .ok (.if_icmp .ge 12, 3) := by decide +kernel
theorem dX4_movedXored_31 : decode cX4_movedXored 31 = .ok (.aload_n 0, 1) := by decide +kernel
theorem dX4_movedXored_32 : decode cX4_movedXored 32 = .ok (.getfield 31, 3) := by decide +kernel
theorem dX4_movedXored_35 : decode cX4_movedXored 35 = .ok (.iload_n 3, 1) := by decide +kernel
theorem dX4_movedXored_36 : decode cX4_movedXored 36 = .ok (.iaload, 1) := by decide +kernel
theorem dX4_movedXored_37 : decode cX4_movedXored 37 = .ok (.goto 4, 3) := by decide +kernel
theorem dX4_movedXored_40 : decode cX4_movedXored 40 = .ok (.iconst 0, 1) := by decide +kernel
theorem dX4_movedXored_41 : decode cX4_movedXored 41 = .ok (.ixor, 1) := by decide +kernel
theorem dX4_movedXored_42 : decode cX4_movedXored 42 = .ok (.istore_n 2, 1) := by decide +kernel
theorem dX4_movedXored_43 : decode cX4_movedXored 43 = .ok (.iinc 3 1, 3) := by decide +kernel
theorem dX4_movedXored_46 : decode cX4_movedXored 46 = .ok (.goto (-42), 3) := by decide +kernel
theorem dX4_movedXored_49 : decode cX4_movedXored 49 = .ok (.iload_n 2, 1) := by decide +kernel
theorem dX4_movedXored_50 : decode cX4_movedXored 50 = .ok (.ireturn, 1) := by decide +kernel
theorem dX4_checkpoint_0 : decode cX4_checkpoint 0 = .ok (.aload_n 0, 1) := by decide +kernel
theorem dX4_checkpoint_1 : decode cX4_checkpoint 1 = .ok (.dup, 1) := by decide +kernel
theorem dX4_checkpoint_2 : decode cX4_checkpoint 2 = .ok (.getfield 77, 3) := by decide +kernel
theorem dX4_checkpoint_5 : decode cX4_checkpoint 5 = .ok (.aload_n 0, 1) := by decide +kernel
theorem dX4_checkpoint_6 : decode cX4_checkpoint 6 = .ok (.getfield 38, 3) := by decide +kernel
theorem dX4_checkpoint_9 : decode cX4_checkpoint 9 = .ok (.getfield 237, 3) := by decide +kernel
theorem dX4_checkpoint_12 : decode cX4_checkpoint 12 = .ok (.iadd, 1) := by decide +kernel
theorem dX4_checkpoint_13 : decode cX4_checkpoint 13 = .ok (.putfield 77, 3) := by decide +kernel
theorem dX4_checkpoint_16 : decode cX4_checkpoint 16 = .ok (.aload_n 0, 1) := by decide +kernel
theorem dX4_checkpoint_17 : decode cX4_checkpoint 17 = .ok (.iconst 0, 1) := by decide +kernel
theorem dX4_checkpoint_18 : decode cX4_checkpoint 18 = .ok (.putfield 81, 3) := by decide +kernel
theorem dX4_checkpoint_21 : decode cX4_checkpoint 21 = .ok (.aload_n 0, 1) := by decide +kernel
theorem dX4_checkpoint_22 : decode cX4_checkpoint 22 = .ok (.iconst 0, 1) := by decide +kernel
theorem dX4_checkpoint_23 : decode cX4_checkpoint 23 = .ok (.putfield 84, 3) := by decide +kernel
theorem dX4_checkpoint_26 : decode cX4_checkpoint 26 = .ok (.aload_n 0, 1) := by decide +kernel
theorem dX4_checkpoint_27 : decode cX4_checkpoint 27 = .ok (.invokevirtual 195, 3) := by decide +kernel
theorem dX4_checkpoint_30 : decode cX4_checkpoint 30 = .ok (.istore_n 1, 1) := by decide +kernel
theorem dX4_checkpoint_31 : decode cX4_checkpoint 31 = .ok (.aload_n 0, 1) := by decide +kernel
theorem dX4_checkpoint_32 : decode cX4_checkpoint 32 = .ok (.getfield 77, 3) := by decide +kernel
theorem dX4_checkpoint_35 : decode cX4_checkpoint 35 = .ok (.iload_n 1, 1) := by decide +kernel
theorem dX4_checkpoint_36 : decode cX4_checkpoint 36 = .ok (.if_icmp .lt 29, 3) := by decide +kernel
theorem dX4_checkpoint_39 : decode cX4_checkpoint 39 = .ok (.aload_n 0, 1) := by decide +kernel
theorem dX4_checkpoint_40 : decode cX4_checkpoint 40 = .ok (.getfield 12, 3) := by decide +kernel
theorem dX4_checkpoint_43 : decode cX4_checkpoint 43 = .ok (.iload_n 1, 1) := by decide +kernel
theorem dX4_checkpoint_44 : decode cX4_checkpoint 44 = .ok (.invokevirtual 240, 3) := by decide +kernel
theorem dX4_checkpoint_47 : decode cX4_checkpoint 47 = .ok (.aload_n 0, 1) := by decide +kernel
theorem dX4_checkpoint_48 : decode cX4_checkpoint 48 = .ok (.aload_n 0, 1) := by decide +kernel
theorem dX4_checkpoint_49 : decode cX4_checkpoint 49 = .ok (.getfield 70, 3) := by decide +kernel
theorem dX4_checkpoint_52 : decode cX4_checkpoint 52 = .ok (.putfield 66, 3) := by decide +kernel
theorem dX4_checkpoint_55 : decode cX4_checkpoint 55 = .ok (.aload_n 0, 1) := by decide +kernel
theorem dX4_checkpoint_56 : decode cX4_checkpoint 56 = .ok (.iconst 0, 1) := by decide +kernel
theorem dX4_checkpoint_57 : decode cX4_checkpoint 57 = .ok (.putfield 73, 3) := by decide +kernel
theorem dX4_checkpoint_60 : decode cX4_checkpoint 60 = .ok (.aload_n 0, 1) := by decide +kernel
theorem dX4_checkpoint_61 : decode cX4_checkpoint 61 = .ok (.iconst 0, 1) := by decide +kernel
theorem dX4_checkpoint_62 : decode cX4_checkpoint 62 = .ok (.putfield 77, 3) := by decide +kernel
theorem dX4_checkpoint_65 : decode cX4_checkpoint 65 = .ok (.aload_n 0, 1) := by decide +kernel
theorem dX4_checkpoint_66 : decode cX4_checkpoint 66 = .ok (.invokevirtual 112, 3) := by decide +kernel
theorem dX4_checkpoint_69 : decode cX4_checkpoint 69 = .ok (.return_, 1) := by decide +kernel
theorem dX4_fallOver_0 : decode cX4_fallOver 0 = .ok (.aload_n 0, 1) := by decide +kernel
theorem dX4_fallOver_1 : decode cX4_fallOver 1 = .ok (.getfield 73, 3) := by decide +kernel
theorem dX4_fallOver_4 : decode cX4_fallOver 4 = .ok (.ifCond .ne 5, 3) := by decide +kernel
theorem dX4_fallOver_7 : decode cX4_fallOver 7 = .ok (.iconst 0, 1) := by decide +kernel
theorem dX4_fallOver_8 : decode cX4_fallOver 8 = .ok (.ireturn, 1) := by decide +kernel
theorem dX4_fallOver_9 : decode cX4_fallOver 9 = .ok (.aload_n 0, 1) := by decide +kernel
theorem dX4_fallOver_10 : decode cX4_fallOver 10 = .ok (.getfield 21, 3) := by decide +kernel
theorem dX4_fallOver_13 : decode cX4_fallOver 13 = .ok (.iconst 0, 1) := by decide +kernel
theorem dX4_fallOver_14 : decode cX4_fallOver 14 = .ok (.putfield 55, 3) := by decide +kernel
theorem dX4_fallOver_17 : decode cX4_fallOver 17 = .ok (.aload_n 0, 1) := by decide +kernel
theorem dX4_fallOver_18 : decode cX4_fallOver 18 = .ok (.aload_n 0, 1) := by decide +kernel
theorem dX4_fallOver_19 : decode cX4_fallOver 19 = .ok (.getfield 84, 3) := by decide +kernel
theorem dX4_fallOver_22 : decode cX4_fallOver 22 = .ok (.ifCond .eq 13, 3) := by decide +kernel
theorem dX4_fallOver_25 : decode cX4_fallOver 25 = .ok (.aload_n 0, 1) := by decide +kernel
theorem dX4_fallOver_26 : decode cX4_fallOver 26 = .ok (.getfield 38, 3) := by decide +kernel
theorem dX4_fallOver_29 : decode cX4_fallOver 29 = .ok (.getfield 213, 3) := by decide +kernel
theorem dX4_fallOver_32 : decode cX4_fallOver 32 = .ok (.goto 4, 3) := by decide +kernel
theorem dX4_fallOver_35 : decode cX4_fallOver 35 = .ok (.iconst 0, 1) := by decide +kernel
theorem dX4_fallOver_36 : decode cX4_fallOver 36 = .ok (.putfield 81, 3) := by decide +kernel
theorem dX4_fallOver_39 : decode cX4_fallOver 39 = .ok (.iconst 1, 1) := by decide +kernel
theorem dX4_fallOver_40 : decode cX4_fallOver 40 = .ok (.ireturn, 1) := by decide +kernel
theorem dX4_replaceLost_0 : decode cX4_replaceLost 0 = .ok (.aload_n 0, 1) := by decide +kernel
theorem dX4_replaceLost_1 : decode cX4_replaceLost 1 = .ok (.getfield 12, 3) := by decide +kernel
theorem dX4_replaceLost_4 : decode cX4_replaceLost 4 = .ok (.getfield 189, 3) := by decide +kernel
theorem dX4_replaceLost_7 : decode cX4_replaceLost 7 = .ok (.iconst (-1), 1) := by decide +kernel
theorem dX4_replaceLost_8 : decode cX4_replaceLost 8 = .ok (.if_icmp .eq 10, 3) := by decide +kernel
theorem dX4_replaceLost_11 : decode cX4_replaceLost 11 = .ok (.aload_n 0, 1) := by decide +kernel
theorem dX4_replaceLost_12 : decode cX4_replaceLost 12 = .ok (.invokevirtual 129, 3) := by decide +kernel
theorem dX4_replaceLost_15 : decode cX4_replaceLost 15 = .ok (.ifCond .eq 5, 3) := by decide +kernel
theorem dX4_replaceLost_18 : decode cX4_replaceLost 18 = .ok (.iconst (-1), 1) := by decide +kernel
theorem dX4_replaceLost_19 : decode cX4_replaceLost 19 = .ok (.ireturn, 1) := by decide +kernel
theorem dX4_replaceLost_20 : decode cX4_replaceLost 20 = .ok (.iconst 0, 1) := by decide +kernel
theorem dX4_replaceLost_21 : decode cX4_replaceLost 21 = .ok (.istore_n 1, 1) := by decide +kernel
theorem dX4_replaceLost_22 : decode cX4_replaceLost 22 = .ok (.iconst 0, 1) := by decide +kernel
theorem dX4_replaceLost_23 : decode cX4_replaceLost 23 = .ok (.istore_n 2, 1) := by decide +kernel
theorem dX4_replaceLost_24 : decode cX4_replaceLost 24 = .ok (.iload_n 2, 1) := by decide +kernel
theorem dX4_replaceLost_25 : decode cX4_replaceLost 25 = .ok (.aload_n 0, 1) := by decide +kernel
theorem dX4_replaceLost_26 : decode cX4_replaceLost 26 = .ok (.getfield 12, 3) := by decide +kernel
theorem dX4_replaceLost_29 : decode cX4_replaceLost 29 = .ok (.getfield 115, 3) := by decide +kernel
theorem dX4_replaceLost_32 : decode cX4_replaceLost 32 = .ok (.if_icmp .ge 28, 3) := by decide +kernel
theorem dX4_replaceLost_35 : decode cX4_replaceLost 35 = .ok (.aload_n 0, 1) := by decide +kernel
theorem dX4_replaceLost_36 : decode cX4_replaceLost 36 = .ok (.getfield 12, 3) := by decide +kernel
theorem dX4_replaceLost_39 : decode cX4_replaceLost 39 = .ok (.aload_n 0, 1) := by decide +kernel
theorem dX4_replaceLost_40 : decode cX4_replaceLost 40 = .ok (.iload_n 2, 1) := by decide +kernel
theorem dX4_replaceLost_41 : decode cX4_replaceLost 41 = .ok (.invokevirtual 243, 3) := by decide +kernel
theorem dX4_replaceLost_44 : decode cX4_replaceLost 44 = .ok (.iload_n 2, 1) := by decide +kernel
theorem dX4_replaceLost_45 : decode cX4_replaceLost 45 = .ok (.invokevirtual 246, 3) := by decide +kernel
theorem dX4_replaceLost_48 : decode cX4_replaceLost 48 = .ok (.ifCond .ne 6, 3) := by decide +kernel
theorem dX4_replaceLost_51 : decode cX4_replaceLost 51 = .ok (.iinc 1 1, 3) := by decide +kernel
theorem dX4_replaceLost_54 : decode cX4_replaceLost 54 = .ok (.iinc 2 1, 3) := by decide +kernel
theorem dX4_replaceLost_57 : decode cX4_replaceLost 57 = .ok (.goto (-33), 3) := by decide +kernel
theorem dX4_replaceLost_60 : decode cX4_replaceLost 60 = .ok (.aload_n 0, 1) := by decide +kernel
theorem dX4_replaceLost_61 : decode cX4_replaceLost 61 = .ok (.getfield 12, 3) := by decide +kernel
theorem dX4_replaceLost_64 : decode cX4_replaceLost 64 = .ok (.iconst (-1), 1) := by decide +kernel
theorem dX4_replaceLost_65 : decode cX4_replaceLost 65 = .ok (.putfield 189, 3) := by decide +kernel
theorem dX4_replaceLost_68 : decode cX4_replaceLost 68 = .ok (.iload_n 1, 1) := by decide +kernel
theorem dX4_replaceLost_69 : decode cX4_replaceLost 69 = .ok (.ireturn, 1) := by decide +kernel
theorem dX4_spend_0 : decode cX4_spend 0 = .ok (.iload_n 1, 1) := by decide +kernel
theorem dX4_spend_1 : decode cX4_spend 1 = .ok (.iconst 1, 1) := by decide +kernel
theorem dX4_spend_2 : decode cX4_spend 2 = .ok (.if_icmp .lt 9, 3) := by decide +kernel
theorem dX4_spend_5 : decode cX4_spend 5 = .ok (.iload_n 1, 1) := by decide +kernel
theorem dX4_spend_6 : decode cX4_spend 6 = .ok (.bipush 60, 2) := by decide +kernel
theorem dX4_spend_8 : decode cX4_spend 8 = .ok (.if_icmp .le 5, 3) := by decide +kernel
theorem dX4_spend_11 : decode cX4_spend 11 = .ok (.iconst (-1), 1) := by decide +kernel
theorem dX4_spend_12 : decode cX4_spend 12 = .ok (.ireturn, 1) := by decide +kernel
theorem dX4_spend_13 : decode cX4_spend 13 = .ok (.aload_n 0, 1) := by decide +kernel
theorem dX4_spend_14 : decode cX4_spend 14 = .ok (.dup, 1) := by decide +kernel
theorem dX4_spend_15 : decode cX4_spend 15 = .ok (.getfield 93, 3) := by decide +kernel
theorem dX4_spend_18 : decode cX4_spend 18 = .ok (.iconst 1, 1) := by decide +kernel
theorem dX4_spend_19 : decode cX4_spend 19 = .ok (.iadd, 1) := by decide +kernel
theorem dX4_spend_20 : decode cX4_spend 20 = .ok (.putfield 93, 3) := by decide +kernel
theorem dX4_spend_23 : decode cX4_spend 23 = .ok (.aload_n 0, 1) := by decide +kernel
theorem dX4_spend_24 : decode cX4_spend 24 = .ok (.getfield 73, 3) := by decide +kernel
theorem dX4_spend_27 : decode cX4_spend 27 = .ok (.ifCond .eq 14, 3) := by decide +kernel
theorem dX4_spend_30 : decode cX4_spend 30 = .ok (.aload_n 0, 1) := by decide +kernel
theorem dX4_spend_31 : decode cX4_spend 31 = .ok (.getfield 87, 3) := by decide +kernel
theorem dX4_spend_34 : decode cX4_spend 34 = .ok (.iload_n 1, 1) := by decide +kernel
theorem dX4_spend_35 : decode cX4_spend 35 = .ok (.invokestatic 249, 3) := by decide +kernel
theorem dX4_spend_38 : decode cX4_spend 38 = .ok (.goto 4, 3) := by decide +kernel
theorem dX4_spend_41 : decode cX4_spend 41 = .ok (.iconst 0, 1) := by decide +kernel
theorem dX4_spend_42 : decode cX4_spend 42 = .ok (.istore_n 3, 1) := by decide +kernel
theorem dX4_spend_43 : decode cX4_spend 43 = .ok (.iload_n 1, 1) := by decide +kernel
theorem dX4_spend_44 : decode cX4_spend 44 = .ok (.iload_n 3, 1) := by decide +kernel
theorem dX4_spend_45 : decode cX4_spend 45 = .ok (.isub, 1) := by decide +kernel
theorem dX4_spend_46 : decode cX4_spend 46 = .ok (.istore 4, 2) := by decide +kernel
theorem dX4_spend_48 : decode cX4_spend 48 = .ok (.aload_n 0, 1) := by decide +kernel
theorem dX4_spend_49 : decode cX4_spend 49 = .ok (.getfield 21, 3) := by decide +kernel
theorem dX4_spend_52 : decode cX4_spend 52 = .ok (.getfield 55, 3) := by decide +kernel
theorem dX4_spend_55 : decode cX4_spend 55 = .ok (.istore 5, 2) := by decide +kernel
theorem dX4_spend_57 : decode cX4_spend 57 = .ok (.iconst 0, 1) := by decide +kernel
theorem dX4_spend_58 : decode cX4_spend 58 = .ok (.istore 6, 2) := by decide +kernel
theorem dX4_spend_60 : decode cX4_spend 60 = .ok (.iconst 0, 1) := by decide +kernel
theorem dX4_spend_61 : decode cX4_spend 61 = .ok (.istore 7, 2) := by decide +kernel
theorem dX4_spend_63 : decode cX4_spend 63 = .ok (.iload 7, 2) := by decide +kernel
theorem dX4_spend_65 : decode cX4_spend 65 = .ok (.iload 5, 2) := by decide +kernel
theorem dX4_spend_67 : decode cX4_spend 67 = .ok (.if_icmp .ge 65, 3) := by decide +kernel
theorem dX4_spend_70 : decode cX4_spend 70 = .ok (.aload_n 0, 1) := by decide +kernel
theorem dX4_spend_71 : decode cX4_spend 71 = .ok (.iload 6, 2) := by decide +kernel
theorem dX4_spend_73 : decode cX4_spend 73 = .ok (.invokevirtual 254, 3) := by decide +kernel
theorem dX4_spend_76 : decode cX4_spend 76 = .ok (.istore 8, 2) := by decide +kernel
theorem dX4_spend_78 : decode cX4_spend 78 = .ok (.iload 8, 2) := by decide +kernel
theorem dX4_spend_80 : decode cX4_spend 80 = .ok (.iconst 3, 1) := by decide +kernel
theorem dX4_spend_81 : decode cX4_spend 81 = .ok (.if_icmp .ne 9, 3) := by decide +kernel
theorem dX4_spend_84 : decode cX4_spend 84 = .ok (.iinc 6 1, 3) := by decide +kernel
theorem dX4_spend_87 : decode cX4_spend 87 = .ok (.goto 39, 3) := by decide +kernel
theorem dX4_spend_90 : decode cX4_spend 90 = .ok (.aload_n 0, 1) := by decide +kernel
theorem dX4_spend_91 : decode cX4_spend 91 = .ok (.iload 6, 2) := by decide +kernel
theorem dX4_spend_93 : decode cX4_spend 93 = .ok (.iload 8, 2) := by decide +kernel
theorem dX4_spend_95 : decode cX4_spend 95 = .ok (.invokevirtual 257, 3) := by decide +kernel
theorem dX4_spend_98 : decode cX4_spend 98 = .ok (.istore 9, 2) := by decide +kernel
theorem dX4_spend_100 : decode cX4_spend 100 = .ok (.iload 9, 2) := by decide +kernel
theorem dX4_spend_102 : decode cX4_spend 102 = .ok (.iload 4, 2) := by decide +kernel
theorem dX4_spend_104 : decode cX4_spend 104 = .ok (.if_icmp .le 6, 3) := by decide +kernel
theorem dX4_spend_107 : decode cX4_spend 107 = .ok (.goto 25, 3) := by decide +kernel
theorem dX4_spend_110 : decode cX4_spend 110 = .ok (.iload 4, 2) := by decide +kernel
theorem dX4_spend_112 : decode cX4_spend 112 = .ok (.iload 9, 2) := by decide +kernel
theorem dX4_spend_114 : decode cX4_spend 114 = .ok (.isub, 1) := by decide +kernel
theorem dX4_spend_115 : decode cX4_spend 115 = .ok (.istore 4, 2) := by decide +kernel
theorem dX4_spend_117 : decode cX4_spend 117 = .ok (.aload_n 0, 1) := by decide +kernel
theorem dX4_spend_118 : decode cX4_spend 118 = .ok (.iload 6, 2) := by decide +kernel
theorem dX4_spend_120 : decode cX4_spend 120 = .ok (.iload 8, 2) := by decide +kernel
theorem dX4_spend_122 : decode cX4_spend 122 = .ok (.aload_n 2, 1) := by decide +kernel
theorem dX4_spend_123 : decode cX4_spend 123 = .ok (.invokevirtual 260, 3) := by decide +kernel
theorem dX4_spend_126 : decode cX4_spend 126 = .ok (.iinc 7 1, 3) := by decide +kernel
theorem dX4_spend_129 : decode cX4_spend 129 = .ok (.goto (-66), 3) := by decide +kernel
theorem dX4_spend_132 : decode cX4_spend 132 = .ok (.aload_n 0, 1) := by decide +kernel
theorem dX4_spend_133 : decode cX4_spend 133 = .ok (.iload 4, 2) := by decide +kernel
theorem dX4_spend_135 : decode cX4_spend 135 = .ok (.iload_n 3, 1) := by decide +kernel
theorem dX4_spend_136 : decode cX4_spend 136 = .ok (.iadd, 1) := by decide +kernel
theorem dX4_spend_137 : decode cX4_spend 137 = .ok (.aload_n 0, 1) := by decide +kernel
theorem dX4_spend_138 : decode cX4_spend 138 = .ok (.getfield 90, 3) := by decide +kernel
theorem dX4_spend_141 : decode cX4_spend 141 = .ok (.invokestatic 249, 3) := by decide +kernel
theorem dX4_spend_144 : decode cX4_spend 144 = .ok (.invokevirtual 264, 3) := by decide +kernel
theorem dX4_spend_147 : decode cX4_spend 147 = .ok (.pop, 1) := by decide +kernel
theorem dX4_spend_148 : decode cX4_spend 148 = .ok (.iload 5, 2) := by decide +kernel
theorem dX4_spend_150 : decode cX4_spend 150 = .ok (.aload_n 0, 1) := by decide +kernel
theorem dX4_spend_151 : decode cX4_spend 151 = .ok (.getfield 21, 3) := by decide +kernel
theorem dX4_spend_154 : decode cX4_spend 154 = .ok (.getfield 55, 3) := by decide +kernel
theorem dX4_spend_157 : decode cX4_spend 157 = .ok (.isub, 1) := by decide +kernel
theorem dX4_spend_158 : decode cX4_spend 158 = .ok (.ireturn, 1) := by decide +kernel
theorem dX4_fateOf_0 : decode cX4_fateOf 0 = .ok (.aload_n 0, 1) := by decide +kernel
theorem dX4_fateOf_1 : decode cX4_fateOf 1 = .ok (.getfield 21, 3) := by decide +kernel
theorem dX4_fateOf_4 : decode cX4_fateOf 4 = .ok (.iload_n 1, 1) := by decide +kernel
theorem dX4_fateOf_5 : decode cX4_fateOf 5 = .ok (.iconst 1, 1) := by decide +kernel
theorem dX4_fateOf_6 : decode cX4_fateOf 6 = .ok (.invokevirtual 267, 3) := by decide +kernel
theorem dX4_fateOf_9 : decode cX4_fateOf 9 = .ok (.istore_n 2, 1) := by decide +kernel
theorem dX4_fateOf_10 : decode cX4_fateOf 10 = .ok (.aload_n 0, 1) := by decide +kernel
theorem dX4_fateOf_11 : decode cX4_fateOf 11 = .ok (.getfield 21, 3) := by decide +kernel
theorem dX4_fateOf_14 : decode cX4_fateOf 14 = .ok (.iload_n 1, 1) := by decide +kernel
theorem dX4_fateOf_15 : decode cX4_fateOf 15 = .ok (.iconst 3, 1) := by decide +kernel
theorem dX4_fateOf_16 : decode cX4_fateOf 16 = .ok (.invokevirtual 267, 3) := by decide +kernel
theorem dX4_fateOf_19 : decode cX4_fateOf 19 = .ok (.ifCond .ne 17, 3) := by decide +kernel
theorem dX4_fateOf_22 : decode cX4_fateOf 22 = .ok (.aload_n 0, 1) := by decide +kernel
theorem dX4_fateOf_23 : decode cX4_fateOf 23 = .ok (.iload_n 2, 1) := by decide +kernel
theorem dX4_fateOf_24 : decode cX4_fateOf 24 = .ok (.invokevirtual 270, 3) := by decide +kernel
theorem dX4_fateOf_27 : decode cX4_fateOf 27 = .ok (.ifCond .eq 7, 3) := by decide +kernel
theorem dX4_fateOf_30 : decode cX4_fateOf 30 = .ok (.iconst 0, 1) := by decide +kernel
theorem dX4_fateOf_31 : decode cX4_fateOf 31 = .ok (.goto 4, 3) := by decide +kernel
theorem dX4_fateOf_34 : decode cX4_fateOf 34 = .ok (.iconst 2, 1) := by decide +kernel
theorem dX4_fateOf_35 : decode cX4_fateOf 35 = .ok (.ireturn, 1) := by decide +kernel
theorem dX4_fateOf_36 : decode cX4_fateOf 36 = .ok (.aload_n 0, 1) := by decide +kernel
theorem dX4_fateOf_37 : decode cX4_fateOf 37 = .ok (.iload_n 2, 1) := by decide +kernel
theorem dX4_fateOf_38 : decode cX4_fateOf 38 = .ok (.invokevirtual 139, 3) := by decide +kernel
theorem dX4_fateOf_41 : decode cX4_fateOf 41 = .ok (.ifCond .eq 5, 3) := by decide +kernel
theorem dX4_fateOf_44 : decode cX4_fateOf 44 = .ok (.iconst 3, 1) := by decide +kernel
theorem dX4_fateOf_45 : decode cX4_fateOf 45 = .ok (.ireturn, 1) := by decide +kernel
theorem dX4_fateOf_46 : decode cX4_fateOf 46 = .ok (.aload_n 0, 1) := by decide +kernel
theorem dX4_fateOf_47 : decode cX4_fateOf 47 = .ok (.getfield 12, 3) := by decide +kernel
theorem dX4_fateOf_50 : decode cX4_fateOf 50 = .ok (.aload_n 0, 1) := by decide +kernel
theorem dX4_fateOf_51 : decode cX4_fateOf 51 = .ok (.iload_n 2, 1) := by decide +kernel
theorem dX4_fateOf_52 : decode cX4_fateOf 52 = .ok (.invokevirtual 149, 3) := by decide +kernel
theorem dX4_fateOf_55 : decode cX4_fateOf 55 = .ok (.iload_n 2, 1) := by decide +kernel
theorem dX4_fateOf_56 : decode cX4_fateOf 56 = .ok (.invokevirtual 174, 3) := by decide +kernel
theorem dX4_fateOf_59 : decode cX4_fateOf 59 = .ok (.ifCond .eq 7, 3) := by decide +kernel
theorem dX4_fateOf_62 : decode cX4_fateOf 62 = .ok (.iconst 1, 1) := by decide +kernel
theorem dX4_fateOf_63 : decode cX4_fateOf 63 = .ok (.goto 4, 3) := by decide +kernel
theorem dX4_fateOf_66 : decode cX4_fateOf 66 = .ok (.iconst 2, 1) := by decide +kernel
theorem dX4_fateOf_67 : decode cX4_fateOf 67 = .ok (.ireturn, 1) := by decide +kernel
theorem dX4_costOf_0 : decode cX4_costOf 0 = .ok (.iload_n 2, 1) := by decide +kernel
theorem dX4_costOf_1 : decode cX4_costOf 1 = .ok (.iconst 1, 1) := by decide +kernel
theorem dX4_costOf_2 : decode cX4_costOf 2 = .ok (.if_icmp .ne 5, 3) := by decide +kernel
theorem dX4_costOf_5 : decode cX4_costOf 5 = .ok (.iconst 2, 1) := by decide +kernel
theorem dX4_costOf_6 : decode cX4_costOf 6 = .ok (.ireturn, 1) := by decide +kernel
theorem dX4_costOf_7 : decode cX4_costOf 7 = .ok (.aload_n 0, 1) := by decide +kernel
theorem dX4_costOf_8 : decode cX4_costOf 8 = .ok (.getfield 21, 3) := by decide +kernel
theorem dX4_costOf_11 : decode cX4_costOf 11 = .ok (.iload_n 1, 1) := by decide +kernel
theorem dX4_costOf_12 : decode cX4_costOf 12 = .ok (.iconst 1, 1) := by decide +kernel
theorem dX4_costOf_13 : decode cX4_costOf 13 = .ok (.invokevirtual 267, 3) := by decide +kernel
theorem dX4_costOf_16 : decode cX4_costOf 16 = .ok (.istore_n 3, 1) := by decide +kernel
theorem dX4_costOf_17 : decode cX4_costOf 17 = .ok (.iload_n 2, 1) := by decide +kernel
theorem dX4_costOf_18 : decode cX4_costOf 18 = .ok (.iconst 2, 1) := by decide +kernel
theorem dX4_costOf_19 : decode cX4_costOf 19 = .ok (.if_icmp .eq 11, 3) := by decide +kernel
theorem dX4_costOf_22 : decode cX4_costOf 22 = .ok (.aload_n 0, 1) := by decide +kernel
theorem dX4_costOf_23 : decode cX4_costOf 23 = .ok (.iload_n 3, 1) := by decide +kernel
theorem dX4_costOf_24 : decode cX4_costOf 24 = .ok (.invokevirtual 163, 3) := by decide +kernel
theorem dX4_costOf_27 : decode cX4_costOf 27 = .ok (.ifCond .eq 7, 3) := by decide +kernel
theorem dX4_costOf_30 : decode cX4_costOf 30 = .ok (.iconst 1, 1) := by decide +kernel
theorem dX4_costOf_31 : decode cX4_costOf 31 = .ok (.goto 8, 3) := by decide +kernel
theorem dX4_costOf_34 : decode cX4_costOf 34 = .ok (.aload_n 0, 1) := by decide +kernel
theorem dX4_costOf_35 : decode cX4_costOf 35 = .ok (.iload_n 3, 1) := by decide +kernel
theorem dX4_costOf_36 : decode cX4_costOf 36 = .ok (.invokevirtual 166, 3) := by decide +kernel
theorem dX4_costOf_39 : decode cX4_costOf 39 = .ok (.ireturn, 1) := by decide +kernel
theorem dX4_serve_0 : decode cX4_serve 0 = .ok (.aload_n 0, 1) := by decide +kernel
theorem dX4_serve_1 : decode cX4_serve 1 = .ok (.getfield 21, 3) := by decide +kernel
theorem dX4_serve_4 : decode cX4_serve 4 = .ok (.iload_n 1, 1) := by decide +kernel
theorem dX4_serve_5 : decode cX4_serve 5 = .ok (.iconst 1, 1) := by decide +kernel
theorem dX4_serve_6 : decode cX4_serve 6 = .ok (.invokevirtual 267, 3) := by decide +kernel
theorem dX4_serve_9 : decode cX4_serve 9 = .ok (.istore 4, 2) := by decide +kernel
theorem dX4_serve_11 : decode cX4_serve 11 = .ok (.iconst 0, 1) := by decide +kernel
theorem dX4_serve_12 : decode cX4_serve 12 = .ok (.istore 5, 2) := by decide +kernel
theorem dX4_serve_14 : decode cX4_serve 14 = .ok (.iload_n 2, 1) := by decide +kernel
theorem dX4_serve_15 : decode cX4_serve 15 = .ok (.iconst 1, 1) := by decide +kernel
theorem dX4_serve_16 : decode cX4_serve 16 = .ok (.if_icmp .ne 34, 3) := by decide +kernel
theorem dX4_serve_19 : decode cX4_serve 19 = .ok (.aload_n 0, 1) := by decide +kernel
theorem dX4_serve_20 : decode cX4_serve 20 = .ok (.getfield 21, 3) := by decide +kernel
theorem dX4_serve_23 : decode cX4_serve 23 = .ok (.iload_n 1, 1) := by decide +kernel
theorem dX4_serve_24 : decode cX4_serve 24 = .ok (.iconst 4, 1) := by decide +kernel
theorem dX4_serve_25 : decode cX4_serve 25 = .ok (.invokevirtual 267, 3) := by decide +kernel
theorem dX4_serve_28 : decode cX4_serve 28 = .ok (.istore 5, 2) := by decide +kernel
theorem dX4_serve_30 : decode cX4_serve 30 = .ok (.aload_n 0, 1) := by decide +kernel
theorem dX4_serve_31 : decode cX4_serve 31 = .ok (.getfield 12, 3) := by decide +kernel
theorem dX4_serve_34 : decode cX4_serve 34 = .ok (.aload_n 0, 1) := by decide +kernel
theorem dX4_serve_35 : decode cX4_serve 35 = .ok (.iload 4, 2) := by decide +kernel
theorem dX4_serve_37 : decode cX4_serve 37 = .ok (.invokevirtual 149, 3) := by decide +kernel
theorem dX4_serve_40 : decode cX4_serve 40 = .ok (.iload 4, 2) := by decide +kernel
theorem dX4_serve_42 : decode cX4_serve 42 = .ok (.iload 5, 2) := by decide +kernel
theorem dX4_serve_44 : decode cX4_serve 44 = .ok (.invokevirtual 178, 3) := by decide +kernel
theorem dX4_serve_47 : decode cX4_serve 47 = .ok (.goto 15, 3) := by decide +kernel
theorem dX4_serve_50 : decode cX4_serve 50 = .ok (.iload_n 2, 1) := by decide +kernel
theorem dX4_serve_51 : decode cX4_serve 51 = .ok (.ifCond .ne 11, 3) := by decide +kernel
theorem dX4_serve_54 : decode cX4_serve 54 = .ok (.aload_n 0, 1) := by decide +kernel
theorem dX4_serve_55 : decode cX4_serve 55 = .ok (.iload 4, 2) := by decide +kernel
theorem dX4_serve_57 : decode cX4_serve 57 = .ok (.invokevirtual 273, 3) := by decide +kernel
theorem dX4_serve_60 : decode cX4_serve 60 = .ok (.istore 5, 2) := by decide +kernel
theorem dX4_serve_62 : decode cX4_serve 62 = .ok (.aload_n 3, 1) := by decide +kernel
theorem dX4_serve_63 : decode cX4_serve 63 = .ok (.aload_n 0, 1) := by decide +kernel
theorem dX4_serve_64 : decode cX4_serve 64 = .ok (.getfield 21, 3) := by decide +kernel
theorem dX4_serve_67 : decode cX4_serve 67 = .ok (.iload_n 1, 1) := by decide +kernel
theorem dX4_serve_68 : decode cX4_serve 68 = .ok (.iconst 0, 1) := by decide +kernel
theorem dX4_serve_69 : decode cX4_serve 69 = .ok (.invokevirtual 267, 3) := by decide +kernel
theorem dX4_serve_72 : decode cX4_serve 72 = .ok (.iload_n 2, 1) := by decide +kernel
theorem dX4_serve_73 : decode cX4_serve 73 = .ok (.iload 5, 2) := by decide +kernel
theorem dX4_serve_75 : decode cX4_serve 75 = .ok (.aload_n 0, 1) := by decide +kernel
theorem dX4_serve_76 : decode cX4_serve 76 = .ok (.getfield 93, 3) := by decide +kernel
theorem dX4_serve_79 : decode cX4_serve 79 = .ok (.invokevirtual 276, 3) := by decide +kernel
theorem dX4_serve_82 : decode cX4_serve 82 = .ok (.aload_n 0, 1) := by decide +kernel
theorem dX4_serve_83 : decode cX4_serve 83 = .ok (.getfield 21, 3) := by decide +kernel
theorem dX4_serve_86 : decode cX4_serve 86 = .ok (.iload_n 1, 1) := by decide +kernel
theorem dX4_serve_87 : decode cX4_serve 87 = .ok (.invokevirtual 282, 3) := by decide +kernel
theorem dX4_serve_90 : decode cX4_serve 90 = .ok (.return_, 1) := by decide +kernel
theorem dX4_isOfScrub_0 : decode cX4_isOfScrub 0 = .ok (.aload_n 0, 1) := by decide +kernel
theorem dX4_isOfScrub_1 : decode cX4_isOfScrub 1 = .ok (.invokevirtual 129, 3) := by decide +kernel
theorem dX4_isOfScrub_4 : decode cX4_isOfScrub 4 = .ok (.ifCond .eq 29, 3) := by decide +kernel
theorem dX4_isOfScrub_7 : decode cX4_isOfScrub 7 = .ok (.iload_n 1, 1) := by decide +kernel
theorem dX4_isOfScrub_8 : decode cX4_isOfScrub 8 = .ok (.aload_n 0, 1) := by decide +kernel
theorem dX4_isOfScrub_9 : decode cX4_isOfScrub 9 = .ok (.getfield 77, 3) := by decide +kernel
theorem dX4_isOfScrub_12 : decode cX4_isOfScrub 12 = .ok (.if_icmp .lt 21, 3) := by decide +kernel
theorem dX4_isOfScrub_15 : decode cX4_isOfScrub 15 = .ok (.iload_n 1, 1) := by decide +kernel
theorem dX4_isOfScrub_16 : decode cX4_isOfScrub 16 = .ok (.aload_n 0, 1) := by decide +kernel
theorem dX4_isOfScrub_17 : decode cX4_isOfScrub 17 = .ok (.getfield 77, 3) := by decide +kernel
theorem dX4_isOfScrub_20 : decode cX4_isOfScrub 20 = .ok (.aload_n 0, 1) := by decide +kernel
theorem dX4_isOfScrub_21 : decode cX4_isOfScrub 21 = .ok (.getfield 38, 3) := by decide +kernel
theorem dX4_isOfScrub_24 : decode cX4_isOfScrub 24 = .ok (.getfield 237, 3) := by decide +kernel
theorem dX4_isOfScrub_27 : decode cX4_isOfScrub 27 = .ok (.iadd, 1) := by decide +kernel
theorem dX4_isOfScrub_28 : decode cX4_isOfScrub 28 = .ok (.if_icmp .ge 5, 3) := by decide +kernel
theorem dX4_isOfScrub_31 : decode cX4_isOfScrub 31 = .ok (.iconst 0, 1) := by decide +kernel
theorem dX4_isOfScrub_32 : decode cX4_isOfScrub 32 = .ok (.ireturn, 1) := by decide +kernel
theorem dX4_isOfScrub_33 : decode cX4_isOfScrub 33 = .ok (.aload_n 0, 1) := by decide +kernel
theorem dX4_isOfScrub_34 : decode cX4_isOfScrub 34 = .ok (.getfield 12, 3) := by decide +kernel
theorem dX4_isOfScrub_37 : decode cX4_isOfScrub 37 = .ok (.aload_n 0, 1) := by decide +kernel
theorem dX4_isOfScrub_38 : decode cX4_isOfScrub 38 = .ok (.iload_n 1, 1) := by decide +kernel
theorem dX4_isOfScrub_39 : decode cX4_isOfScrub 39 = .ok (.invokevirtual 243, 3) := by decide +kernel
theorem dX4_isOfScrub_42 : decode cX4_isOfScrub 42 = .ok (.iload_n 1, 1) := by decide +kernel
theorem dX4_isOfScrub_43 : decode cX4_isOfScrub 43 = .ok (.invokevirtual 285, 3) := by decide +kernel
theorem dX4_isOfScrub_46 : decode cX4_isOfScrub 46 = .ok (.ireturn, 1) := by decide +kernel
theorem dX4_rowOfScrub_0 : decode cX4_rowOfScrub 0 = .ok (.iconst 0, 1) := by decide +kernel
theorem dX4_rowOfScrub_1 : decode cX4_rowOfScrub 1 = .ok (.istore_n 2, 1) := by decide +kernel
theorem dX4_rowOfScrub_2 : decode cX4_rowOfScrub 2 = .ok (.iconst 0, 1) := by decide +kernel
theorem dX4_rowOfScrub_3 : decode cX4_rowOfScrub 3 = .ok (.istore_n 3, 1) := by decide +kernel
theorem dX4_rowOfScrub_4 : decode cX4_rowOfScrub 4 = .ok (.iload_n 3, 1) := by decide +kernel
theorem dX4_rowOfScrub_5 : decode cX4_rowOfScrub 5 = .ok (.aload_n 0, 1) := by decide +kernel
theorem dX4_rowOfScrub_6 : decode cX4_rowOfScrub 6 = .ok (.getfield 12, 3) := by decide +kernel
theorem dX4_rowOfScrub_9 : decode cX4_rowOfScrub 9 = .ok (.getfield 115, 3) := by decide +kernel
theorem dX4_rowOfScrub_12 : decode cX4_rowOfScrub 12 = .ok (.if_icmp .ge 27, 3) := by decide +kernel
theorem dX4_rowOfScrub_15 : decode cX4_rowOfScrub 15 = .ok (.aload_n 0, 1) := by decide +kernel
theorem dX4_rowOfScrub_16 : decode cX4_rowOfScrub 16 = .ok (.iload_n 3, 1) := by decide +kernel
theorem dX4_rowOfScrub_17 : decode cX4_rowOfScrub 17 = .ok (.invokevirtual 288, 3) := by decide +kernel
theorem dX4_rowOfScrub_20 : decode cX4_rowOfScrub 20 = .ok (.ifCond .eq 13, 3) := by decide +kernel
theorem dX4_rowOfScrub_23 : decode cX4_rowOfScrub 23 = .ok (.iload_n 2, 1) := by decide +kernel
theorem dX4_rowOfScrub_24 : decode cX4_rowOfScrub 24 = .ok (.iload_n 1, 1) := by decide +kernel
theorem dX4_rowOfScrub_25 : decode cX4_rowOfScrub 25 = .ok (.if_icmp .ne 5, 3) := by decide +kernel
theorem dX4_rowOfScrub_28 : decode cX4_rowOfScrub 28 = .ok (.iload_n 3, 1) := by decide +kernel
theorem dX4_rowOfScrub_29 : decode cX4_rowOfScrub 29 = .ok (.ireturn, 1) := by decide +kernel
theorem dX4_rowOfScrub_30 : decode cX4_rowOfScrub 30 = .ok (.iinc 2 1, 3) := by decide +kernel
theorem dX4_rowOfScrub_33 : decode cX4_rowOfScrub 33 = .ok (.iinc 3 1, 3) := by decide +kernel
theorem dX4_rowOfScrub_36 : decode cX4_rowOfScrub 36 = .ok (.goto (-32), 3) := by decide +kernel
theorem dX4_rowOfScrub_39 : decode cX4_rowOfScrub 39 = .ok (.iload_n 1, 1) := by decide +kernel
theorem dX4_rowOfScrub_40 : decode cX4_rowOfScrub 40 = .ok (.iconst (-1), 1) := by decide +kernel
theorem dX4_rowOfScrub_41 : decode cX4_rowOfScrub 41 = .ok (.if_icmp .ne 7, 3) := by decide +kernel
theorem dX4_rowOfScrub_44 : decode cX4_rowOfScrub 44 = .ok (.iload_n 2, 1) := by decide +kernel
theorem dX4_rowOfScrub_45 : decode cX4_rowOfScrub 45 = .ok (.goto 4, 3) := by decide +kernel
theorem dX4_rowOfScrub_48 : decode cX4_rowOfScrub 48 = .ok (.iconst (-1), 1) := by decide +kernel
theorem dX4_rowOfScrub_49 : decode cX4_rowOfScrub 49 = .ok (.ireturn, 1) := by decide +kernel
theorem dX4_layParities_0 : decode cX4_layParities 0 = .ok (.iconst 0, 1) := by decide +kernel
theorem dX4_layParities_1 : decode cX4_layParities 1 = .ok (.istore_n 1, 1) := by decide +kernel
theorem dX4_layParities_2 : decode cX4_layParities 2 = .ok (.iconst 0, 1) := by decide +kernel
theorem dX4_layParities_3 : decode cX4_layParities 3 = .ok (.istore_n 2, 1) := by decide +kernel
theorem dX4_layParities_4 : decode cX4_layParities 4 = .ok (.iload_n 2, 1) := by decide +kernel
theorem dX4_layParities_5 : decode cX4_layParities 5 = .ok (.aload_n 0, 1) := by decide +kernel
theorem dX4_layParities_6 : decode cX4_layParities 6 = .ok (.getfield 12, 3) := by decide +kernel
theorem dX4_layParities_9 : decode cX4_layParities 9 = .ok (.getfield 115, 3) := by decide +kernel
theorem dX4_layParities_12 : decode cX4_layParities 12 = .ok (.if_icmp .ge 33, 3) := by decide +kernel
theorem dX4_layParities_15 : decode cX4_layParities 15 = .ok (.aload_n 0, 1) := by decide +kernel
theorem dX4_layParities_16 : decode cX4_layParities 16 = .ok (.iload_n 2, 1) := by decide +kernel
theorem dX4_layParities_17 : decode cX4_layParities 17 = .ok (.invokevirtual 288, 3) := by decide +kernel
theorem dX4_layParities_20 : decode cX4_layParities 20 = .ok (.ifCond .eq 19, 3) := by decide +kernel
theorem dX4_layParities_23 : decode cX4_layParities 23 = .ok (.aload_n 0, 1) := by decide +kernel
theorem dX4_layParities_24 : decode cX4_layParities 24 = .ok (.getfield 12, 3) := by decide +kernel
theorem dX4_layParities_27 : decode cX4_layParities 27 = .ok (.aload_n 0, 1) := by decide +kernel
theorem dX4_layParities_28 : decode cX4_layParities 28 = .ok (.iload_n 2, 1) := by decide +kernel
theorem dX4_layParities_29 : decode cX4_layParities 29 = .ok (.invokevirtual 243, 3) := by decide +kernel
theorem dX4_layParities_32 : decode cX4_layParities 32 = .ok (.iload_n 2, 1) := by decide +kernel
theorem dX4_layParities_33 : decode cX4_layParities 33 = .ok (.invokevirtual 291, 3) := by decide +kernel
theorem dX4_layParities_36 : decode cX4_layParities 36 = .ok (.iinc 1 1, 3) := by decide +kernel
theorem dX4_layParities_39 : decode cX4_layParities 39 = .ok (.iinc 2 1, 3) := by decide +kernel
theorem dX4_layParities_42 : decode cX4_layParities 42 = .ok (.goto (-38), 3) := by decide +kernel
theorem dX4_layParities_45 : decode cX4_layParities 45 = .ok (.iload_n 1, 1) := by decide +kernel
theorem dX4_layParities_46 : decode cX4_layParities 46 = .ok (.ireturn, 1) := by decide +kernel
theorem dX4_blocksLostIn_0 : decode cX4_blocksLostIn 0 = .ok (.iconst 0, 1) := by decide +kernel
theorem dX4_blocksLostIn_1 : decode cX4_blocksLostIn 1 = .ok (.istore_n 2, 1) := by decide +kernel
theorem dX4_blocksLostIn_2 : decode cX4_blocksLostIn 2 = .ok (.iconst 0, 1) := by decide +kernel
theorem dX4_blocksLostIn_3 : decode cX4_blocksLostIn 3 = .ok (.istore_n 3, 1) := by decide +kernel
theorem dX4_blocksLostIn_4 : decode cX4_blocksLostIn 4 = .ok (.iload_n 3, 1) := by decide +kernel
theorem dX4_blocksLostIn_5 : decode cX4_blocksLostIn 5 = .ok (.aload_n 0, 1) := by decide +kernel
theorem dX4_blocksLostIn_6 : decode cX4_blocksLostIn 6 = .ok (.invokevirtual 125, 3) := by decide +kernel
theorem dX4_blocksLostIn_9 : decode cX4_blocksLostIn 9 = .ok (.if_icmp .ge 41, 3) := by decide +kernel
theorem dX4_blocksLostIn_12 : decode cX4_blocksLostIn 12 = .ok (.aload_n 0, 1) := by decide +kernel
theorem dX4_blocksLostIn_13 : decode cX4_blocksLostIn 13 = .ok (.iload_n 3, 1) := by decide +kernel
theorem dX4_blocksLostIn_14 : decode cX4_blocksLostIn 14 = .ok (.invokevirtual 270, 3) := by decide +kernel
theorem dX4_blocksLostIn_17 : decode cX4_blocksLostIn 17 = .ok (.ifCond .eq 27, 3) := by decide +kernel
theorem dX4_blocksLostIn_20 : decode cX4_blocksLostIn 20 = .ok (.aload_n 1, 1) := by decide +kernel
theorem dX4_blocksLostIn_21 : decode cX4_blocksLostIn 21 = .ok (.iload_n 3, 1) := by decide +kernel
theorem dX4_blocksLostIn_22 : decode cX4_blocksLostIn 22 = .ok (.invokevirtual 270, 3) := by decide +kernel
theorem dX4_blocksLostIn_25 : decode cX4_blocksLostIn 25 = .ok (.ifCond .eq 16, 3) := by decide +kernel
theorem dX4_blocksLostIn_28 : decode cX4_blocksLostIn 28 = .ok (.aload_n 1, 1) := by decide +kernel
theorem dX4_blocksLostIn_29 : decode cX4_blocksLostIn 29 = .ok (.iload_n 3, 1) := by decide +kernel
theorem dX4_blocksLostIn_30 : decode cX4_blocksLostIn 30 = .ok (.invokevirtual 273, 3) := by decide +kernel
theorem dX4_blocksLostIn_33 : decode cX4_blocksLostIn 33 = .ok (.aload_n 0, 1) := by decide +kernel
theorem dX4_blocksLostIn_34 : decode cX4_blocksLostIn 34 = .ok (.iload_n 3, 1) := by decide +kernel
theorem dX4_blocksLostIn_35 : decode cX4_blocksLostIn 35 = .ok (.invokevirtual 273, 3) := by decide +kernel
theorem dX4_blocksLostIn_38 : decode cX4_blocksLostIn 38 = .ok (.if_icmp .eq 6, 3) := by decide +kernel
theorem dX4_blocksLostIn_41 : decode cX4_blocksLostIn 41 = .ok (.iinc 2 1, 3) := by decide +kernel
theorem dX4_blocksLostIn_44 : decode cX4_blocksLostIn 44 = .ok (.iinc 3 1, 3) := by decide +kernel
theorem dX4_blocksLostIn_47 : decode cX4_blocksLostIn 47 = .ok (.goto (-43), 3) := by decide +kernel
theorem dX4_blocksLostIn_50 : decode cX4_blocksLostIn 50 = .ok (.iload_n 2, 1) := by decide +kernel
theorem dX4_blocksLostIn_51 : decode cX4_blocksLostIn 51 = .ok (.ireturn, 1) := by decide +kernel
theorem dX4_unreadableBlocks_0 : decode cX4_unreadableBlocks 0 = .ok (.iconst 0, 1) := by decide +kernel
theorem dX4_unreadableBlocks_1 : decode cX4_unreadableBlocks 1 = .ok (.istore_n 1, 1) := by decide +kernel
theorem dX4_unreadableBlocks_2 : decode cX4_unreadableBlocks 2 = .ok (.iconst 0, 1) := by decide +kernel
theorem dX4_unreadableBlocks_3 : decode cX4_unreadableBlocks 3 = .ok (.istore_n 2, 1) := by decide +kernel
theorem dX4_unreadableBlocks_4 : decode cX4_unreadableBlocks 4 = .ok (.iload_n 2, 1) := by decide +kernel
theorem dX4_unreadableBlocks_5 : decode cX4_unreadableBlocks 5 = .ok (.aload_n 0, 1) := by decide +kernel
theorem dX4_unreadableBlocks_6 : decode cX4_unreadableBlocks 6 = .ok (.invokevirtual 125, 3) := by decide +kernel
theorem dX4_unreadableBlocks_9 : decode cX4_unreadableBlocks 9 = .ok (.if_icmp .ge 20, 3) := by decide +kernel
theorem dX4_unreadableBlocks_12 : decode cX4_unreadableBlocks 12 = .ok (.aload_n 0, 1) := by decide +kernel
theorem dX4_unreadableBlocks_13 : decode cX4_unreadableBlocks 13 = .ok (.iload_n 2, 1) := by decide +kernel
theorem dX4_unreadableBlocks_14 : decode cX4_unreadableBlocks 14 = .ok (.invokevirtual 270, 3) := by decide +kernel
theorem dX4_unreadableBlocks_17 : decode cX4_unreadableBlocks 17 = .ok (.ifCond .ne 6, 3) := by decide +kernel
theorem dX4_unreadableBlocks_20 : decode cX4_unreadableBlocks 20 = .ok (.iinc 1 1, 3) := by decide +kernel
theorem dX4_unreadableBlocks_23 : decode cX4_unreadableBlocks 23 = .ok (.iinc 2 1, 3) := by decide +kernel
theorem dX4_unreadableBlocks_26 : decode cX4_unreadableBlocks 26 = .ok (.goto (-22), 3) := by decide +kernel
theorem dX4_unreadableBlocks_29 : decode cX4_unreadableBlocks 29 = .ok (.iload_n 1, 1) := by decide +kernel
theorem dX4_unreadableBlocks_30 : decode cX4_unreadableBlocks 30 = .ok (.ireturn, 1) := by decide +kernel
theorem dX4_tellOfBlock_0 : decode cX4_tellOfBlock 0 = .ok (.aload_n 0, 1) := by decide +kernel
theorem dX4_tellOfBlock_1 : decode cX4_tellOfBlock 1 = .ok (.iload_n 1, 1) := by decide +kernel
theorem dX4_tellOfBlock_2 : decode cX4_tellOfBlock 2 = .ok (.invokevirtual 149, 3) := by decide +kernel
theorem dX4_tellOfBlock_5 : decode cX4_tellOfBlock 5 = .ok (.astore_n 3, 1) := by decide +kernel
theorem dX4_tellOfBlock_6 : decode cX4_tellOfBlock 6 = .ok (.iload_n 2, 1) := by decide +kernel
theorem dX4_tellOfBlock_7 : decode cX4_tellOfBlock 7 = .ok (.tableswitch 91 0 4 #[33, 47, 53, 59, 73], 33) := by decide +kernel
theorem dX4_tellOfBlock_40 : decode cX4_tellOfBlock 40 = .ok (.aload_n 0, 1) := by decide +kernel
theorem dX4_tellOfBlock_41 : decode cX4_tellOfBlock 41 = .ok (.iload_n 1, 1) := by decide +kernel
theorem dX4_tellOfBlock_42 : decode cX4_tellOfBlock 42 = .ok (.invokevirtual 146, 3) := by decide +kernel
theorem dX4_tellOfBlock_45 : decode cX4_tellOfBlock 45 = .ok (.ifCond .eq 7, 3) := by decide +kernel
theorem dX4_tellOfBlock_48 : decode cX4_tellOfBlock 48 = .ok (.iconst 1, 1) := by decide +kernel
theorem dX4_tellOfBlock_49 : decode cX4_tellOfBlock 49 = .ok (.goto 4, 3) := by decide +kernel
theorem dX4_tellOfBlock_52 : decode cX4_tellOfBlock 52 = .ok (.iconst 0, 1) := by decide +kernel
theorem dX4_tellOfBlock_53 : decode cX4_tellOfBlock 53 = .ok (.ireturn, 1) := by decide +kernel
theorem dX4_tellOfBlock_54 : decode cX4_tellOfBlock 54 = .ok (.aload_n 3, 1) := by decide +kernel
theorem dX4_tellOfBlock_55 : decode cX4_tellOfBlock 55 = .ok (.iload_n 1, 1) := by decide +kernel
theorem dX4_tellOfBlock_56 : decode cX4_tellOfBlock 56 = .ok (.invokevirtual 152, 3) := by decide +kernel
theorem dX4_tellOfBlock_59 : decode cX4_tellOfBlock 59 = .ok (.ireturn, 1) := by decide +kernel
theorem dX4_tellOfBlock_60 : decode cX4_tellOfBlock 60 = .ok (.aload_n 3, 1) := by decide +kernel
theorem dX4_tellOfBlock_61 : decode cX4_tellOfBlock 61 = .ok (.iload_n 1, 1) := by decide +kernel
theorem dX4_tellOfBlock_62 : decode cX4_tellOfBlock 62 = .ok (.invokevirtual 156, 3) := by decide +kernel
theorem dX4_tellOfBlock_65 : decode cX4_tellOfBlock 65 = .ok (.ireturn, 1) := by decide +kernel
theorem dX4_tellOfBlock_66 : decode cX4_tellOfBlock 66 = .ok (.aload_n 0, 1) := by decide +kernel
theorem dX4_tellOfBlock_67 : decode cX4_tellOfBlock 67 = .ok (.iload_n 1, 1) := by decide +kernel
theorem dX4_tellOfBlock_68 : decode cX4_tellOfBlock 68 = .ok (.invokevirtual 139, 3) := by decide +kernel
theorem dX4_tellOfBlock_71 : decode cX4_tellOfBlock 71 = .ok (.ifCond .eq 7, 3) := by decide +kernel
theorem dX4_tellOfBlock_74 : decode cX4_tellOfBlock 74 = .ok (.iconst 1, 1) := by decide +kernel
theorem dX4_tellOfBlock_75 : decode cX4_tellOfBlock 75 = .ok (.goto 4, 3) := by decide +kernel
theorem dX4_tellOfBlock_78 : decode cX4_tellOfBlock 78 = .ok (.iconst 0, 1) := by decide +kernel
theorem dX4_tellOfBlock_79 : decode cX4_tellOfBlock 79 = .ok (.ireturn, 1) := by decide +kernel
theorem dX4_tellOfBlock_80 : decode cX4_tellOfBlock 80 = .ok (.aload_n 0, 1) := by decide +kernel
theorem dX4_tellOfBlock_81 : decode cX4_tellOfBlock 81 = .ok (.iload_n 1, 1) := by decide +kernel
theorem dX4_tellOfBlock_82 : decode cX4_tellOfBlock 82 = .ok (.invokevirtual 163, 3) := by decide +kernel
theorem dX4_tellOfBlock_85 : decode cX4_tellOfBlock 85 = .ok (.ifCond .eq 7, 3) := by decide +kernel
theorem dX4_tellOfBlock_88 : decode cX4_tellOfBlock 88 = .ok (.iconst 0, 1) := by decide +kernel
theorem dX4_tellOfBlock_89 : decode cX4_tellOfBlock 89 = .ok (.goto 8, 3) := by decide +kernel
theorem dX4_tellOfBlock_92 : decode cX4_tellOfBlock 92 = .ok (.aload_n 0, 1) := by decide +kernel
theorem dX4_tellOfBlock_93 : decode cX4_tellOfBlock 93 = .ok (.iload_n 1, 1) := by decide +kernel
theorem dX4_tellOfBlock_94 : decode cX4_tellOfBlock 94 = .ok (.invokevirtual 166, 3) := by decide +kernel
theorem dX4_tellOfBlock_97 : decode cX4_tellOfBlock 97 = .ok (.ireturn, 1) := by decide +kernel
theorem dX4_tellOfBlock_98 : decode cX4_tellOfBlock 98 = .ok (.iconst (-1), 1) := by decide +kernel
theorem dX4_tellOfBlock_99 : decode cX4_tellOfBlock 99 = .ok (.ireturn, 1) := by decide +kernel
theorem dX4_tellOfBatch_0 : decode cX4_tellOfBatch 0 = .ok (.iload_n 1, 1) := by decide +kernel
theorem dX4_tellOfBatch_1 : decode cX4_tellOfBatch 1 = .ok (.tableswitch 108 0 7 #[47, 55, 60, 76, 76, 76, 82, 95], 47) := by decide +kernel
theorem dX4_tellOfBatch_48 : decode cX4_tellOfBatch 48 = .ok (.aload_n 0, 1) := by decide +kernel
theorem dX4_tellOfBatch_49 : decode cX4_tellOfBatch 49 = .ok (.getfield 38, 3) := by decide +kernel
theorem dX4_tellOfBatch_52 : decode cX4_tellOfBatch 52 = .ok (.getfield 207, 3) := by decide +kernel
theorem dX4_tellOfBatch_55 : decode cX4_tellOfBatch 55 = .ok (.ireturn, 1) := by decide +kernel
theorem dX4_tellOfBatch_56 : decode cX4_tellOfBatch 56 = .ok (.aload_n 0, 1) := by decide +kernel
theorem dX4_tellOfBatch_57 : decode cX4_tellOfBatch 57 = .ok (.getfield 81, 3) := by decide +kernel
theorem dX4_tellOfBatch_60 : decode cX4_tellOfBatch 60 = .ok (.ireturn, 1) := by decide +kernel
theorem dX4_tellOfBatch_61 : decode cX4_tellOfBatch 61 = .ok (.aload_n 0, 1) := by decide +kernel
theorem dX4_tellOfBatch_62 : decode cX4_tellOfBatch 62 = .ok (.getfield 38, 3) := by decide +kernel
theorem dX4_tellOfBatch_65 : decode cX4_tellOfBatch 65 = .ok (.getfield 295, 3) := by decide +kernel
theorem dX4_tellOfBatch_68 : decode cX4_tellOfBatch 68 = .ok (.ifCond .eq 7, 3) := by decide +kernel
theorem dX4_tellOfBatch_71 : decode cX4_tellOfBatch 71 = .ok (.iconst 1, 1) := by decide +kernel
theorem dX4_tellOfBatch_72 : decode cX4_tellOfBatch 72 = .ok (.goto 4, 3) := by decide +kernel
theorem dX4_tellOfBatch_75 : decode cX4_tellOfBatch 75 = .ok (.iconst 0, 1) := by decide +kernel
theorem dX4_tellOfBatch_76 : decode cX4_tellOfBatch 76 = .ok (.ireturn, 1) := by decide +kernel
theorem dX4_tellOfBatch_77 : decode cX4_tellOfBatch 77 = .ok (.aload_n 0, 1) := by decide +kernel
theorem dX4_tellOfBatch_78 : decode cX4_tellOfBatch 78 = .ok (.iload_n 1, 1) := by decide +kernel
theorem dX4_tellOfBatch_79 : decode cX4_tellOfBatch 79 = .ok (.invokevirtual 298, 3) := by decide +kernel
theorem dX4_tellOfBatch_82 : decode cX4_tellOfBatch 82 = .ok (.ireturn, 1) := by decide +kernel
theorem dX4_tellOfBatch_83 : decode cX4_tellOfBatch 83 = .ok (.aload_n 0, 1) := by decide +kernel
theorem dX4_tellOfBatch_84 : decode cX4_tellOfBatch 84 = .ok (.invokevirtual 198, 3) := by decide +kernel
theorem dX4_tellOfBatch_87 : decode cX4_tellOfBatch 87 = .ok (.ifCond .eq 7, 3) := by decide +kernel
theorem dX4_tellOfBatch_90 : decode cX4_tellOfBatch 90 = .ok (.iconst 1, 1) := by decide +kernel
theorem dX4_tellOfBatch_91 : decode cX4_tellOfBatch 91 = .ok (.goto 4, 3) := by decide +kernel
theorem dX4_tellOfBatch_94 : decode cX4_tellOfBatch 94 = .ok (.iconst 0, 1) := by decide +kernel
theorem dX4_tellOfBatch_95 : decode cX4_tellOfBatch 95 = .ok (.ireturn, 1) := by decide +kernel
theorem dX4_tellOfBatch_96 : decode cX4_tellOfBatch 96 = .ok (.aload_n 0, 1) := by decide +kernel
theorem dX4_tellOfBatch_97 : decode cX4_tellOfBatch 97 = .ok (.getfield 84, 3) := by decide +kernel
theorem dX4_tellOfBatch_100 : decode cX4_tellOfBatch 100 = .ok (.ifCond .eq 7, 3) := by decide +kernel
theorem dX4_tellOfBatch_103 : decode cX4_tellOfBatch 103 = .ok (.iconst 1, 1) := by decide +kernel
theorem dX4_tellOfBatch_104 : decode cX4_tellOfBatch 104 = .ok (.goto 4, 3) := by decide +kernel
theorem dX4_tellOfBatch_107 : decode cX4_tellOfBatch 107 = .ok (.iconst 0, 1) := by decide +kernel
theorem dX4_tellOfBatch_108 : decode cX4_tellOfBatch 108 = .ok (.ireturn, 1) := by decide +kernel
theorem dX4_tellOfBatch_109 : decode cX4_tellOfBatch 109 = .ok (.iconst (-1), 1) := by decide +kernel
theorem dX4_tellOfBatch_110 : decode cX4_tellOfBatch 110 = .ok (.ireturn, 1) := by decide +kernel
theorem dX4_tellOfBatchesLeft_0 : decode cX4_tellOfBatchesLeft 0 = .ok (.aload_n 0, 1) := by decide +kernel
theorem dX4_tellOfBatchesLeft_1 : decode cX4_tellOfBatchesLeft 1 = .ok (.getfield 81, 3) := by decide +kernel
theorem dX4_tellOfBatchesLeft_4 : decode cX4_tellOfBatchesLeft 4 = .ok (.ineg, 1) := by decide +kernel
theorem dX4_tellOfBatchesLeft_5 : decode cX4_tellOfBatchesLeft 5 = .ok (.istore_n 2, 1) := by decide +kernel
theorem dX4_tellOfBatchesLeft_6 : decode cX4_tellOfBatchesLeft 6 = .ok (.iconst 0, 1) := by decide +kernel
theorem dX4_tellOfBatchesLeft_7 : decode cX4_tellOfBatchesLeft 7 = .ok (.istore_n 3, 1) := by decide +kernel
theorem dX4_tellOfBatchesLeft_8 : decode cX4_tellOfBatchesLeft 8 = .ok (.iconst 0, 1) := by decide +kernel
theorem dX4_tellOfBatchesLeft_9 : decode cX4_tellOfBatchesLeft 9 = .ok (.istore 4, 2) := by decide +kernel
theorem dX4_tellOfBatchesLeft_11 : decode cX4_tellOfBatchesLeft 11 = .ok (.aload_n 0, 1) := by decide +kernel
theorem dX4_tellOfBatchesLeft_12 : decode cX4_tellOfBatchesLeft 12 = .ok (.getfield 77, 3) := by decide +kernel
theorem dX4_tellOfBatchesLeft_15 : decode cX4_tellOfBatchesLeft 15 = .ok (.istore 5, 2) := by decide +kernel
theorem dX4_tellOfBatchesLeft_17 : decode cX4_tellOfBatchesLeft 17 = .ok (.aload_n 0, 1) := by decide +kernel
theorem dX4_tellOfBatchesLeft_18 : decode cX4_tellOfBatchesLeft 18 = .ok (.invokevirtual 195, 3) := by decide +kernel
theorem dX4_tellOfBatchesLeft_21 : decode cX4_tellOfBatchesLeft 21 = .ok (.istore 6, 2) := by decide +kernel
theorem dX4_tellOfBatchesLeft_23 : decode cX4_tellOfBatchesLeft 23 = .ok (.iconst 0, 1) := by decide +kernel
theorem dX4_tellOfBatchesLeft_24 : decode cX4_tellOfBatchesLeft 24 = .ok (.istore 7, 2) := by decide +kernel
theorem dX4_tellOfBatchesLeft_26 : decode cX4_tellOfBatchesLeft 26 = .ok (.iload 7, 2) := by decide +kernel
theorem dX4_tellOfBatchesLeft_28 : decode cX4_tellOfBatchesLeft 28 = .ok (.bipush 40, 2) := by decide +kernel
theorem dX4_tellOfBatchesLeft_30 : decode cX4_tellOfBatchesLeft 30 = .ok (.if_icmp .ge 93, 3) := by decide +kernel
theorem dX4_tellOfBatchesLeft_33 : decode cX4_tellOfBatchesLeft 33 = .ok (.iload 5, 2) := by decide +kernel
theorem dX4_tellOfBatchesLeft_35 : decode cX4_tellOfBatchesLeft 35 = .ok (.iload 6, 2) := by decide +kernel
theorem dX4_tellOfBatchesLeft_37 : decode cX4_tellOfBatchesLeft 37 = .ok (.if_icmp .ge 86, 3) := by decide +kernel
theorem dX4_tellOfBatchesLeft_40 : decode cX4_tellOfBatchesLeft 40 = .ok (.aload_n 0, 1) := by decide +kernel
theorem dX4_tellOfBatchesLeft_41 : decode cX4_tellOfBatchesLeft 41 = .ok (.getfield 42, 3) := by decide +kernel
theorem dX4_tellOfBatchesLeft_44 : decode cX4_tellOfBatchesLeft 44 = .ok (.aload_n 0, 1) := by decide +kernel
theorem dX4_tellOfBatchesLeft_45 : decode cX4_tellOfBatchesLeft 45 = .ok (.getfield 66, 3) := by decide +kernel
theorem dX4_tellOfBatchesLeft_48 : decode cX4_tellOfBatchesLeft 48 = .ok (.aload_n 0, 1) := by decide +kernel
theorem dX4_tellOfBatchesLeft_49 : decode cX4_tellOfBatchesLeft 49 = .ok (.getfield 70, 3) := by decide +kernel
theorem dX4_tellOfBatchesLeft_52 : decode cX4_tellOfBatchesLeft 52 = .ok (.aload_n 0, 1) := by decide +kernel
theorem dX4_tellOfBatchesLeft_53 : decode cX4_tellOfBatchesLeft 53 = .ok (.getfield 12, 3) := by decide +kernel
theorem dX4_tellOfBatchesLeft_56 : decode cX4_tellOfBatchesLeft 56 = .ok (.getfield 115, 3) := by decide +kernel
theorem dX4_tellOfBatchesLeft_59 : decode cX4_tellOfBatchesLeft 59 = .ok (.iload 5, 2) := by decide +kernel
theorem dX4_tellOfBatchesLeft_61 : decode cX4_tellOfBatchesLeft 61 = .ok (.aload_n 0, 1) := by decide +kernel
theorem dX4_tellOfBatchesLeft_62 : decode cX4_tellOfBatchesLeft 62 = .ok (.getfield 80, 3) := by decide +kernel
theorem dX4_tellOfBatchesLeft_65 : decode cX4_tellOfBatchesLeft 65 = .ok (.invokevirtual 118, 3) := by decide +kernel
theorem dX4_tellOfBatchesLeft_68 : decode cX4_tellOfBatchesLeft 68 = .ok (.iload_n 2, 1) := by decide +kernel
theorem dX4_tellOfBatchesLeft_69 : decode cX4_tellOfBatchesLeft 69 = .ok (.aload_n 0, 1) := by decide +kernel
theorem dX4_tellOfBatchesLeft_70 : decode cX4_tellOfBatchesLeft 70 = .ok (.getfield 42, 3) := by decide +kernel
theorem dX4_tellOfBatchesLeft_73 : decode cX4_tellOfBatchesLeft 73 = .ok (.getfield 207, 3) := by decide +kernel
theorem dX4_tellOfBatchesLeft_76 : decode cX4_tellOfBatchesLeft 76 = .ok (.iadd, 1) := by decide +kernel
theorem dX4_tellOfBatchesLeft_77 : decode cX4_tellOfBatchesLeft 77 = .ok (.istore_n 2, 1) := by decide +kernel
theorem dX4_tellOfBatchesLeft_78 : decode cX4_tellOfBatchesLeft 78 = .ok (.aload_n 0, 1) := by decide +kernel
theorem dX4_tellOfBatchesLeft_79 : decode cX4_tellOfBatchesLeft 79 = .ok (.getfield 42, 3) := by decide +kernel
theorem dX4_tellOfBatchesLeft_82 : decode cX4_tellOfBatchesLeft 82 = .ok (.getfield 295, 3) := by decide +kernel
theorem dX4_tellOfBatchesLeft_85 : decode cX4_tellOfBatchesLeft 85 = .ok (.ifCond .eq 20, 3) := by decide +kernel
theorem dX4_tellOfBatchesLeft_88 : decode cX4_tellOfBatchesLeft 88 = .ok (.iinc 3 1, 3) := by decide +kernel
theorem dX4_tellOfBatchesLeft_91 : decode cX4_tellOfBatchesLeft 91 = .ok (.iload 4, 2) := by decide +kernel
theorem dX4_tellOfBatchesLeft_93 : decode cX4_tellOfBatchesLeft 93 = .ok (.aload_n 0, 1) := by decide +kernel
theorem dX4_tellOfBatchesLeft_94 : decode cX4_tellOfBatchesLeft 94 = .ok (.getfield 42, 3) := by decide +kernel
theorem dX4_tellOfBatchesLeft_97 : decode cX4_tellOfBatchesLeft 97 = .ok (.getfield 136, 3) := by decide +kernel
theorem dX4_tellOfBatchesLeft_100 : decode cX4_tellOfBatchesLeft 100 = .ok (.invokestatic 301, 3) := by decide +kernel
theorem dX4_tellOfBatchesLeft_103 : decode cX4_tellOfBatchesLeft 103 = .ok (.istore 4, 2) := by decide +kernel
theorem dX4_tellOfBatchesLeft_105 : decode cX4_tellOfBatchesLeft 105 = .ok (.iload 5, 2) := by decide +kernel
theorem dX4_tellOfBatchesLeft_107 : decode cX4_tellOfBatchesLeft 107 = .ok (.aload_n 0, 1) := by decide +kernel
theorem dX4_tellOfBatchesLeft_108 : decode cX4_tellOfBatchesLeft 108 = .ok (.getfield 42, 3) := by decide +kernel
theorem dX4_tellOfBatchesLeft_111 : decode cX4_tellOfBatchesLeft 111 = .ok (.getfield 237, 3) := by decide +kernel
theorem dX4_tellOfBatchesLeft_114 : decode cX4_tellOfBatchesLeft 114 = .ok (.iadd, 1) := by decide +kernel
theorem dX4_tellOfBatchesLeft_115 : decode cX4_tellOfBatchesLeft 115 = .ok (.istore 5, 2) := by decide +kernel
theorem dX4_tellOfBatchesLeft_117 : decode cX4_tellOfBatchesLeft 117 = .ok (.iinc 7 1, 3) := by decide +kernel
theorem dX4_tellOfBatchesLeft_120 : decode cX4_tellOfBatchesLeft 120 = .ok (.goto (-94), 3) := by decide +kernel
theorem dX4_tellOfBatchesLeft_123 : decode cX4_tellOfBatchesLeft 123 = .ok (.iload_n 1, 1) := by decide +kernel
theorem dX4_tellOfBatchesLeft_124 : decode cX4_tellOfBatchesLeft 124 = .ok (.iconst 3, 1) := by decide +kernel
theorem dX4_tellOfBatchesLeft_125 : decode cX4_tellOfBatchesLeft 125 = .ok (.if_icmp .ne 7, 3) := by decide +kernel
theorem dX4_tellOfBatchesLeft_128 : decode cX4_tellOfBatchesLeft 128 = .ok (.iload_n 2, 1) := by decide +kernel
theorem dX4_tellOfBatchesLeft_129 : decode cX4_tellOfBatchesLeft 129 = .ok (.goto 14, 3) := by decide +kernel
theorem dX4_tellOfBatchesLeft_132 : decode cX4_tellOfBatchesLeft 132 = .ok (.iload_n 1, 1) := by decide +kernel
theorem dX4_tellOfBatchesLeft_133 : decode cX4_tellOfBatchesLeft 133 = .ok (.iconst 4, 1) := by decide +kernel
theorem dX4_tellOfBatchesLeft_134 : decode cX4_tellOfBatchesLeft 134 = .ok (.if_icmp .ne 7, 3) := by decide +kernel
theorem dX4_tellOfBatchesLeft_137 : decode cX4_tellOfBatchesLeft 137 = .ok (.iload_n 3, 1) := by decide +kernel
theorem dX4_tellOfBatchesLeft_138 : decode cX4_tellOfBatchesLeft 138 = .ok (.goto 5, 3) := by decide +kernel
theorem dX4_tellOfBatchesLeft_141 : decode cX4_tellOfBatchesLeft 141 = .ok (.iload 4, 2) := by decide +kernel
theorem dX4_tellOfBatchesLeft_143 : decode cX4_tellOfBatchesLeft 143 = .ok (.ireturn, 1) := by decide +kernel
theorem dX4_tellCount_0 : decode cX4_tellCount 0 = .ok (.iload_n 1, 1) := by decide +kernel
theorem dX4_tellCount_1 : decode cX4_tellCount 1 = .ok (.tableswitch 196 0 15 #[79, 87, 95, 100, 113, 118, 126, 142, 150, 158, 163, 168, 173, 178, 183, 188], 79) := by decide +kernel
theorem dX4_tellCount_80 : decode cX4_tellCount 80 = .ok (.aload_n 0, 1) := by decide +kernel
theorem dX4_tellCount_81 : decode cX4_tellCount 81 = .ok (.getfield 12, 3) := by decide +kernel
theorem dX4_tellCount_84 : decode cX4_tellCount 84 = .ok (.getfield 186, 3) := by decide +kernel
theorem dX4_tellCount_87 : decode cX4_tellCount 87 = .ok (.ireturn, 1) := by decide +kernel
theorem dX4_tellCount_88 : decode cX4_tellCount 88 = .ok (.aload_n 0, 1) := by decide +kernel
theorem dX4_tellCount_89 : decode cX4_tellCount 89 = .ok (.getfield 12, 3) := by decide +kernel
theorem dX4_tellCount_92 : decode cX4_tellCount 92 = .ok (.getfield 115, 3) := by decide +kernel
theorem dX4_tellCount_95 : decode cX4_tellCount 95 = .ok (.ireturn, 1) := by decide +kernel
theorem dX4_tellCount_96 : decode cX4_tellCount 96 = .ok (.aload_n 0, 1) := by decide +kernel
theorem dX4_tellCount_97 : decode cX4_tellCount 97 = .ok (.invokevirtual 125, 3) := by decide +kernel
theorem dX4_tellCount_100 : decode cX4_tellCount 100 = .ok (.ireturn, 1) := by decide +kernel
theorem dX4_tellCount_101 : decode cX4_tellCount 101 = .ok (.aload_n 0, 1) := by decide +kernel
theorem dX4_tellCount_102 : decode cX4_tellCount 102 = .ok (.getfield 73, 3) := by decide +kernel
theorem dX4_tellCount_105 : decode cX4_tellCount 105 = .ok (.ifCond .eq 7, 3) := by decide +kernel
theorem dX4_tellCount_108 : decode cX4_tellCount 108 = .ok (.iconst 1, 1) := by decide +kernel
theorem dX4_tellCount_109 : decode cX4_tellCount 109 = .ok (.goto 4, 3) := by decide +kernel
theorem dX4_tellCount_112 : decode cX4_tellCount 112 = .ok (.iconst 0, 1) := by decide +kernel
theorem dX4_tellCount_113 : decode cX4_tellCount 113 = .ok (.ireturn, 1) := by decide +kernel
theorem dX4_tellCount_114 : decode cX4_tellCount 114 = .ok (.aload_n 0, 1) := by decide +kernel
theorem dX4_tellCount_115 : decode cX4_tellCount 115 = .ok (.getfield 77, 3) := by decide +kernel
theorem dX4_tellCount_118 : decode cX4_tellCount 118 = .ok (.ireturn, 1) := by decide +kernel
theorem dX4_tellCount_119 : decode cX4_tellCount 119 = .ok (.aload_n 0, 1) := by decide +kernel
theorem dX4_tellCount_120 : decode cX4_tellCount 120 = .ok (.getfield 21, 3) := by decide +kernel
theorem dX4_tellCount_123 : decode cX4_tellCount 123 = .ok (.getfield 59, 3) := by decide +kernel
theorem dX4_tellCount_126 : decode cX4_tellCount 126 = .ok (.ireturn, 1) := by decide +kernel
theorem dX4_tellCount_127 : decode cX4_tellCount 127 = .ok (.aload_n 0, 1) := by decide +kernel
theorem dX4_tellCount_128 : decode cX4_tellCount 128 = .ok (.getfield 73, 3) := by decide +kernel
theorem dX4_tellCount_131 : decode cX4_tellCount 131 = .ok (.ifCond .eq 10, 3) := by decide +kernel
theorem dX4_tellCount_134 : decode cX4_tellCount 134 = .ok (.aload_n 0, 1) := by decide +kernel
theorem dX4_tellCount_135 : decode cX4_tellCount 135 = .ok (.invokevirtual 195, 3) := by decide +kernel
theorem dX4_tellCount_138 : decode cX4_tellCount 138 = .ok (.goto 4, 3) := by decide +kernel
theorem dX4_tellCount_141 : decode cX4_tellCount 141 = .ok (.iconst (-1), 1) := by decide +kernel
theorem dX4_tellCount_142 : decode cX4_tellCount 142 = .ok (.ireturn, 1) := by decide +kernel
theorem dX4_tellCount_143 : decode cX4_tellCount 143 = .ok (.aload_n 0, 1) := by decide +kernel
theorem dX4_tellCount_144 : decode cX4_tellCount 144 = .ok (.getfield 12, 3) := by decide +kernel
theorem dX4_tellCount_147 : decode cX4_tellCount 147 = .ok (.getfield 189, 3) := by decide +kernel
theorem dX4_tellCount_150 : decode cX4_tellCount 150 = .ok (.ireturn, 1) := by decide +kernel
theorem dX4_tellCount_151 : decode cX4_tellCount 151 = .ok (.aload_n 0, 1) := by decide +kernel
theorem dX4_tellCount_152 : decode cX4_tellCount 152 = .ok (.getfield 12, 3) := by decide +kernel
theorem dX4_tellCount_155 : decode cX4_tellCount 155 = .ok (.invokevirtual 304, 3) := by decide +kernel
theorem dX4_tellCount_158 : decode cX4_tellCount 158 = .ok (.ireturn, 1) := by decide +kernel
theorem dX4_tellCount_159 : decode cX4_tellCount 159 = .ok (.aload_n 0, 1) := by decide +kernel
theorem dX4_tellCount_160 : decode cX4_tellCount 160 = .ok (.getfield 93, 3) := by decide +kernel
theorem dX4_tellCount_163 : decode cX4_tellCount 163 = .ok (.ireturn, 1) := by decide +kernel
theorem dX4_tellCount_164 : decode cX4_tellCount 164 = .ok (.aload_n 0, 1) := by decide +kernel
theorem dX4_tellCount_165 : decode cX4_tellCount 165 = .ok (.getfield 96, 3) := by decide +kernel
theorem dX4_tellCount_168 : decode cX4_tellCount 168 = .ok (.ireturn, 1) := by decide +kernel
theorem dX4_tellCount_169 : decode cX4_tellCount 169 = .ok (.aload_n 0, 1) := by decide +kernel
theorem dX4_tellCount_170 : decode cX4_tellCount 170 = .ok (.getfield 80, 3) := by decide +kernel
theorem dX4_tellCount_173 : decode cX4_tellCount 173 = .ok (.ireturn, 1) := by decide +kernel
theorem dX4_tellCount_174 : decode cX4_tellCount 174 = .ok (.aload_n 0, 1) := by decide +kernel
theorem dX4_tellCount_175 : decode cX4_tellCount 175 = .ok (.getfield 87, 3) := by decide +kernel
theorem dX4_tellCount_178 : decode cX4_tellCount 178 = .ok (.ireturn, 1) := by decide +kernel
theorem dX4_tellCount_179 : decode cX4_tellCount 179 = .ok (.aload_n 0, 1) := by decide +kernel
theorem dX4_tellCount_180 : decode cX4_tellCount 180 = .ok (.getfield 90, 3) := by decide +kernel
theorem dX4_tellCount_183 : decode cX4_tellCount 183 = .ok (.ireturn, 1) := by decide +kernel
theorem dX4_tellCount_184 : decode cX4_tellCount 184 = .ok (.aload_n 0, 1) := by decide +kernel
theorem dX4_tellCount_185 : decode cX4_tellCount 185 = .ok (.invokevirtual 307, 3) := by decide +kernel
theorem dX4_tellCount_188 : decode cX4_tellCount 188 = .ok (.ireturn, 1) := by decide +kernel
theorem dX4_tellCount_189 : decode cX4_tellCount 189 = .ok (.aload_n 0, 1) := by decide +kernel
theorem dX4_tellCount_190 : decode cX4_tellCount 190 = .ok (.getfield 21, 3) := by decide +kernel
theorem dX4_tellCount_193 : decode cX4_tellCount 193 = .ok (.getfield 55, 3) := by decide +kernel
theorem dX4_tellCount_196 : decode cX4_tellCount 196 = .ok (.ireturn, 1) := by decide +kernel
theorem dX4_tellCount_197 : decode cX4_tellCount 197 = .ok (.iconst (-1), 1) := by decide +kernel
theorem dX4_tellCount_198 : decode cX4_tellCount 198 = .ok (.ireturn, 1) := by decide +kernel
